-- the static row of the rules' first values, which no method writes
def ea_E (A : Nat → Prop) (U : State) : Prop := ∃ (af : Nat) (xf : Nat → Int32), va_Z "SportsHouse$RuleText" "AT_FIRST" "[I" (.ref af) A U U.heap ∧ va_T .int af 16 (fun j => .int (xf j)) A U U.heap
theorem ea_call {A : Nat → Prop} {s U : State} {H : Heap} {locs : List Loc} {wc : va_W} (h : ea_E A s) (hS : va_S A s.heap H locs) (hF : ∀ q, va_A wc H.size q → A q) (hU : U.heap = H) (hW : s.WarmedH U.vm) : ea_E (va_A wc H.size) U := by
  obtain ⟨af, xf, hZ, hT⟩ := h
  refine ⟨af, xf, ?_, ?_⟩
  · rw [hU]
    exact (va_Z.moved hW.alike (va_Z.kept hZ (fun a h1 h2 => hS.2.1 a h1 h2))).narrow hF
  · rw [hU]
    exact (va_T.moved hW.alike (va_T.kept hT (fun a h1 h2 => hS.2.1 a h1 h2))).narrow hF
abbrev ra_P (dC : Nat → ClassId) (dI : Nat → Nat → Nat) (ws : va_W) (tys : List (ClassId × FieldType)) (sz : Nat) (av : List Value) : Array Value → State → Prop := va_Pc av (fun U => U.heap.size = sz ∧ va_P (dC, dI) vwCl ws U.heap ∧ va_K (dC, dI) vwCl tys U ∧ va_D (fun _ => True) ws ∧ ex_E U ∧ ea_E (va_A ws sz) U)
theorem ra_blind {dC : Nat → ClassId} {dI : Nat → Nat → Nat} {ws : va_W} {tys : List (ClassId × FieldType)} {sz : Nat} {av : List Value} : FrameBlind (ra_P dC dI ws tys sz av) := fun a U g mk q => by
  obtain ⟨q0, q1, qP, qK, qD, qE, af, xf, hZ, hT⟩ := q
  exact ⟨q0, q1, qP, va_K.moved (u := U) (U := U.calling g mk a) (Vm.Alike.refl U.vm) qK, qD, ex_same (s := U) (U := U.calling g mk a) rfl qE, af, xf, va_Z.moved (u := U) (U := U.calling g mk a) (Vm.Alike.refl U.vm) hZ, va_T.moved (u := U) (U := U.calling g mk a) (Vm.Alike.refl U.vm) hT⟩
theorem ra_entry {l : Launch} {y : MethodName} {cc : ByteArray} {maxL : Nat} {ret : Option FieldType} {rm : Room} {dC : Nat → ClassId} {dI : Nat → Nat → Nat} {ws : va_W} {tys : List (ClassId × FieldType)} {sz : Nat} {av : List Value} {Qc : Array Value → State → Outcome → State → Prop} {mc ms : Nat} {A : Nat → Prop} (hy : plainName y.cls = true) (hav : (lg_sl av).length ≤ maxL)
    (body : ∀ (p : Program) (e : Env) (s : State) (m : MethodId) (below : List Frame) (meth : Method) (c : Code) (ls : Array Slot), p.tables.exec = Jvm.exec → c.code = cc → meth.sig.returnType = ret → meth.locks = false → (∀ w ∈ lw_g, w.before av.toArray s = true) → s.vm.findClass y.cls = some m.cls → meth.name = y.name → c.maxLocals = maxL → s.heap.size = sz → va_P (dC, dI) vwCl ws s.heap → va_K (dC, dI) vwCl tys s → va_D (fun _ => True) ws → ex_E s → ea_E (va_A ws sz) s → lv_has ls maxL (lv_args 0 av) →
      W p l e rm s m av.toArray below meth c s.heap [] 0 0 (MQ below Qc av.toArray s mc ms A) (F0 m 0 ls [])) : Met l y (.code y cc maxL ret :: lw_g) rm (ra_P dC dI ws tys sz av) Qc mc ms A := by
  refine Met.ofW (cc := cc) (maxL := maxL) (ret := ret) hy rfl ?_
  intro p e s m args below meth c s₁ B hml hv
  obtain ⟨rfl, hsz, hP, hK, hD0, hE, hEa⟩ := hv
  have hts := atoms_spec (ws := .code y cc maxL ret :: lw_g) B.pre
  have hl := lv_entry av (n := maxL) hav
  rw [lg_entry_eq]
  exact body p e s m below meth c _ B.exec B.bytes B.returns B.notSynchronized (fun w h => hts w (List.mem_cons_of_mem _ h)) (findClass_of_methodNamed B.named) (name_of_methodNamed B.named B.method).1 hml hsz hP hK hD0 hE hEa hl
theorem ar_nm {s : State} {cA : ClassId} (h : va_RA s cA .int) : s.vm.findClass "[I" = some cA := by
  have e9 : "[" ++ FieldType.int.toString = "[I" := by decide +kernel
  have h1 : s.vm.findClass ("[" ++ FieldType.int.toString) = some cA := h
  rw [e9] at h1
  exact h1
abbrev cX1_openNew : ByteArray := prog_3_method_2_code
def yX1_openNew : MethodName := ⟨RX1, "openNew", "(II)V"⟩
theorem dX1_openNew_0 : decode cX1_openNew 0 = .ok (.aload_n 0, 1) := by decide +kernel
theorem dX1_openNew_1 : decode cX1_openNew 1 = .ok (.iload_n 1, 1) := by decide +kernel
theorem dX1_openNew_2 : decode cX1_openNew 2 = .ok (.putfield 37, 3) := by decide +kernel
theorem kw_327 : Cond.fieldLink RX1 37 "SportsHouse$Lots" "groups" "I" ∈ lw_g := lw_at 327 (by decide +kernel) rfl
theorem dX1_openNew_5 : decode cX1_openNew 5 = .ok (.aload_n 0, 1) := by decide +kernel
theorem dX1_openNew_6 : decode cX1_openNew 6 = .ok (.iload_n 2, 1) := by decide +kernel
theorem dX1_openNew_7 : decode cX1_openNew 7 = .ok (.putfield 41, 3) := by decide +kernel
theorem kw_329 : Cond.fieldLink RX1 41 "SportsHouse$Lots" "limit" "I" ∈ lw_g := lw_at 329 (by decide +kernel) rfl
theorem dX1_openNew_10 : decode cX1_openNew 10 = .ok (.aload_n 0, 1) := by decide +kernel
theorem dX1_openNew_11 : decode cX1_openNew 11 = .ok (.iconst 0, 1) := by decide +kernel
theorem dX1_openNew_12 : decode cX1_openNew 12 = .ok (.putfield 44, 3) := by decide +kernel
theorem kw_330 : Cond.fieldLink RX1 44 "SportsHouse$Lots" "clubCount" "I" ∈ lw_g := lw_at 330 (by decide +kernel) rfl
theorem dX1_openNew_15 : decode cX1_openNew 15 = .ok (.aload_n 0, 1) := by decide +kernel
theorem dX1_openNew_16 : decode cX1_openNew 16 = .ok (.iconst 0, 1) := by decide +kernel
theorem dX1_openNew_17 : decode cX1_openNew 17 = .ok (.putfield 47, 3) := by decide +kernel
theorem kw_332 : Cond.fieldLink RX1 47 "SportsHouse$Lots" "drawnCount" "I" ∈ lw_g := lw_at 332 (by decide +kernel) rfl
theorem dX1_openNew_20 : decode cX1_openNew 20 = .ok (.aload_n 0, 1) := by decide +kernel
theorem dX1_openNew_21 : decode cX1_openNew 21 = .ok (.iconst 0, 1) := by decide +kernel
theorem dX1_openNew_22 : decode cX1_openNew 22 = .ok (.putfield 50, 3) := by decide +kernel
theorem kw_338 : Cond.fieldLink RX1 50 "SportsHouse$Lots" "fresh" "Z" ∈ lw_g := lw_at 338 (by decide +kernel) rfl
theorem dX1_openNew_25 : decode cX1_openNew 25 = .ok (.aload_n 0, 1) := by decide +kernel
theorem dX1_openNew_26 : decode cX1_openNew 26 = .ok (.getfield 9, 3) := by decide +kernel
theorem dX1_openNew_29 : decode cX1_openNew 29 = .ok (.iconst (-1), 1) := by decide +kernel
theorem dX1_openNew_30 : decode cX1_openNew 30 = .ok (.invokestatic 54, 3) := by decide +kernel
theorem kw_1329 : Cond.methodLink RX1 54 yJ7_fill_53178 ∈ lw_g := lw_at 1329 (by decide +kernel) rfl
theorem gv_X1_54 : GoodIn lw_g (va_wsS RX1 54 yJ7_fill_53178 (.code yJ7_fill_53178 cJ7_fill_53178 4 none :: lw_g)) := gi_S kw_1329 kw_266 kw_7 kw_267
theorem dX1_openNew_33 : decode cX1_openNew 33 = .ok (.aload_n 0, 1) := by decide +kernel
theorem dX1_openNew_34 : decode cX1_openNew 34 = .ok (.getfield 15, 3) := by decide +kernel
theorem dX1_openNew_37 : decode cX1_openNew 37 = .ok (.iconst (-1), 1) := by decide +kernel
theorem dX1_openNew_38 : decode cX1_openNew 38 = .ok (.invokestatic 54, 3) := by decide +kernel
theorem dX1_openNew_41 : decode cX1_openNew 41 = .ok (.aload_n 0, 1) := by decide +kernel
theorem dX1_openNew_42 : decode cX1_openNew 42 = .ok (.getfield 18, 3) := by decide +kernel
theorem dX1_openNew_45 : decode cX1_openNew 45 = .ok (.iconst 0, 1) := by decide +kernel
theorem dX1_openNew_46 : decode cX1_openNew 46 = .ok (.invokestatic 54, 3) := by decide +kernel
theorem dX1_openNew_49 : decode cX1_openNew 49 = .ok (.return_, 1) := by decide +kernel
set_option maxHeartbeats 4000000 in
set_option maxRecDepth 100000 in
theorem ct_X1_openNew (l : Launch) (dC : Nat → ClassId) (dI : Nat → Nat → Nat) (lo : Nat) (ay : Nat) (au : Nat) (aw : Nat) (flo : List Value) (kay : ClassId) (gay : Nat → Int32) (kau : ClassId) (gau : Nat → Int32) (kaw : ClassId) (gaw : Nat → Int32) (hn_flo : flo.length = 16) (hflo_8 : flo[8]? = some (.ref ay)) (hflo_9 : flo[9]? = some (.ref au)) (hflo_10 : flo[10]? = some (.ref aw)) (sz : Nat) (na : Int32) (nb : Int32) : Met l yX1_openNew (.code yX1_openNew cX1_openNew 3 none :: lw_g) ({ frames := 1, cells := 0, slots := 0, locals := 60 }) (ro_P dC dI [(lo, .inr (1, flo)), (ay, .inl (kay, 12, .inl gay)), (au, .inl (kau, 12, .inl gau)), (aw, .inl (kaw, 3, .inl gaw))] [(kay, .int), (kau, .int), (kaw, .int)] sz [.ref lo, .int na, .int nb]) (va_Qv (fun (_ : Unit) => True) (fun _ t => ∃ (g1 : Nat → Int32) (g2 : Nat → Int32) (g3 : Nat → Int32), va_P (dC, dI) vwCl [(lo, .inr (1, (((((flo.set 1 (.int na)).set 2 (.int nb)).set 3 (.int 0)).set 4 (.int 0)).set 7 (.int 0)))), (ay, .inl (kay, 12, .inl g1)), (au, .inl (kau, 12, .inl g2)), (aw, .inl (kaw, 3, .inl g3))] t.heap ∧ va_K (dC, dI) vwCl [(kay, .int), (kau, .int), (kaw, .int)] t ∧ va_D (va_A [(lo, .inr (1, flo)), (ay, .inl (kay, 12, .inl gay)), (au, .inl (kau, 12, .inl gau)), (aw, .inl (kaw, 3, .inl gaw))] sz) [(lo, .inr (1, (((((flo.set 1 (.int na)).set 2 (.int nb)).set 3 (.int 0)).set 4 (.int 0)).set 7 (.int 0)))), (ay, .inl (kay, 12, .inl g1)), (au, .inl (kau, 12, .inl g2)), (aw, .inl (kaw, 3, .inl g3))]) (va_A [(lo, .inr (1, flo)), (ay, .inl (kay, 12, .inl gay)), (au, .inl (kau, 12, .inl gau)), (aw, .inl (kaw, 3, .inl gaw))] sz)) 0 0 (va_A [(lo, .inr (1, flo)), (ay, .inl (kay, 12, .inl gay)), (au, .inl (kau, 12, .inl gau)), (aw, .inl (kaw, 3, .inl gaw))] sz) := by
  refine ro_entry (by decide) (Nat.le_of_ble_eq_true rfl) ?_
  intro p e s m below meth c ls hx hb hr hlocks ht hown hin hml hsz hP hK hD hE hl
  subst hsz
  have hD := hD.self (sz := s.heap.size)
  generalize hAe : va_A [(lo, .inr (1, flo)), (ay, .inl (kay, 12, .inl gay)), (au, .inl (kau, 12, .inl gau)), (aw, .inl (kaw, 3, .inl gaw))] s.heap.size = A at hD ⊢
  have hA : ∀ q, s.heap.size ≤ q → A q := fun q h => by rw [← hAe]; exact Or.inr h
  have hS : va_S A s.heap s.heap [] := va_S.rf
  have hl : lv_has ls 3 [(0, .ref lo), (1, .int na), (2, .int nb)] := hl
  have hown : s.vm.findClass RX1 = some m.cls := hown
  refine lv_aload_n hx hb dX1_openNew_0 rfl (lv_at hl 0 rfl) ?_
  refine lv_iload_n hx hb dX1_openNew_1 rfl (lv_at hl 1 rfl) ?_
  refine va_put (D := (dC, dI)) (ci := 1) (v := .int na) (ty := .int) (C := RX1) (T := TX1) (N := 16) hx hb ht inX1 tyX1 tyX1_ok nmX1 hown hK hP hD hS 0 rfl rfl 1 (by decide) (ht _ kw_327) (fun _ h9 => h9) rfl (by decide +kernel) rfl rfl (gs_lt hn_flo (by decide)) dX1_openNew_2 (fun H locs hP hD hS => ?_)
  have hP : va_P (dC, dI) vwCl [(lo, .inr (1, (flo.set 1 (.int na)))), (ay, .inl (kay, 12, .inl gay)), (au, .inl (kau, 12, .inl gau)), (aw, .inl (kaw, 3, .inl gaw))] H := hP
  have hD : va_D A [(lo, .inr (1, (flo.set 1 (.int na)))), (ay, .inl (kay, 12, .inl gay)), (au, .inl (kau, 12, .inl gau)), (aw, .inl (kaw, 3, .inl gaw))] := hD
  refine lv_aload_n hx hb dX1_openNew_5 rfl (lv_at hl 0 rfl) ?_
  refine lv_iload_n hx hb dX1_openNew_6 rfl (lv_at hl 2 rfl) ?_
  refine va_put (D := (dC, dI)) (ci := 1) (v := .int nb) (ty := .int) (C := RX1) (T := TX1) (N := 16) hx hb ht inX1 tyX1 tyX1_ok nmX1 hown hK hP hD hS 0 rfl rfl 2 (by decide) (ht _ kw_329) (fun _ h9 => h9) rfl (by decide +kernel) rfl rfl (gs_lt (gs_len hn_flo) (by decide)) dX1_openNew_7 (fun H locs hP hD hS => ?_)
  have hP : va_P (dC, dI) vwCl [(lo, .inr (1, ((flo.set 1 (.int na)).set 2 (.int nb)))), (ay, .inl (kay, 12, .inl gay)), (au, .inl (kau, 12, .inl gau)), (aw, .inl (kaw, 3, .inl gaw))] H := hP
  have hD : va_D A [(lo, .inr (1, ((flo.set 1 (.int na)).set 2 (.int nb)))), (ay, .inl (kay, 12, .inl gay)), (au, .inl (kau, 12, .inl gau)), (aw, .inl (kaw, 3, .inl gaw))] := hD
  refine lv_aload_n hx hb dX1_openNew_10 rfl (lv_at hl 0 rfl) ?_
  refine lv_iconst (v := 0) hx hb dX1_openNew_11 (by decide) ?_
  refine va_put (D := (dC, dI)) (ci := 1) (v := .int 0) (ty := .int) (C := RX1) (T := TX1) (N := 16) hx hb ht inX1 tyX1 tyX1_ok nmX1 hown hK hP hD hS 0 rfl rfl 3 (by decide) (ht _ kw_330) (fun _ h9 => h9) rfl (by decide +kernel) rfl rfl (gs_lt (gs_len (gs_len hn_flo)) (by decide)) dX1_openNew_12 (fun H locs hP hD hS => ?_)
  have hP : va_P (dC, dI) vwCl [(lo, .inr (1, (((flo.set 1 (.int na)).set 2 (.int nb)).set 3 (.int 0)))), (ay, .inl (kay, 12, .inl gay)), (au, .inl (kau, 12, .inl gau)), (aw, .inl (kaw, 3, .inl gaw))] H := hP
  have hD : va_D A [(lo, .inr (1, (((flo.set 1 (.int na)).set 2 (.int nb)).set 3 (.int 0)))), (ay, .inl (kay, 12, .inl gay)), (au, .inl (kau, 12, .inl gau)), (aw, .inl (kaw, 3, .inl gaw))] := hD
  refine lv_aload_n hx hb dX1_openNew_15 rfl (lv_at hl 0 rfl) ?_
  refine lv_iconst (v := 0) hx hb dX1_openNew_16 (by decide) ?_
  refine va_put (D := (dC, dI)) (ci := 1) (v := .int 0) (ty := .int) (C := RX1) (T := TX1) (N := 16) hx hb ht inX1 tyX1 tyX1_ok nmX1 hown hK hP hD hS 0 rfl rfl 4 (by decide) (ht _ kw_332) (fun _ h9 => h9) rfl (by decide +kernel) rfl rfl (gs_lt (gs_len (gs_len (gs_len hn_flo))) (by decide)) dX1_openNew_17 (fun H locs hP hD hS => ?_)
  have hP : va_P (dC, dI) vwCl [(lo, .inr (1, ((((flo.set 1 (.int na)).set 2 (.int nb)).set 3 (.int 0)).set 4 (.int 0)))), (ay, .inl (kay, 12, .inl gay)), (au, .inl (kau, 12, .inl gau)), (aw, .inl (kaw, 3, .inl gaw))] H := hP
  have hD : va_D A [(lo, .inr (1, ((((flo.set 1 (.int na)).set 2 (.int nb)).set 3 (.int 0)).set 4 (.int 0)))), (ay, .inl (kay, 12, .inl gay)), (au, .inl (kau, 12, .inl gau)), (aw, .inl (kaw, 3, .inl gaw))] := hD
  refine lv_aload_n hx hb dX1_openNew_20 rfl (lv_at hl 0 rfl) ?_
  refine lv_iconst (v := 0) hx hb dX1_openNew_21 (by decide) ?_
  refine va_put (D := (dC, dI)) (ci := 1) (v := .int 0) (ty := .boolean) (C := RX1) (T := TX1) (N := 16) hx hb ht inX1 tyX1 tyX1_ok nmX1 hown hK hP hD hS 0 rfl rfl 7 (by decide) (ht _ kw_338) (fun _ h9 => h9) rfl (by decide +kernel) rfl rfl (gs_lt (gs_len (gs_len (gs_len (gs_len hn_flo)))) (by decide)) dX1_openNew_22 (fun H locs hP hD hS => ?_)
  have hP : va_P (dC, dI) vwCl [(lo, .inr (1, (((((flo.set 1 (.int na)).set 2 (.int nb)).set 3 (.int 0)).set 4 (.int 0)).set 7 (.int 0)))), (ay, .inl (kay, 12, .inl gay)), (au, .inl (kau, 12, .inl gau)), (aw, .inl (kaw, 3, .inl gaw))] H := hP
  have hD : va_D A [(lo, .inr (1, (((((flo.set 1 (.int na)).set 2 (.int nb)).set 3 (.int 0)).set 4 (.int 0)).set 7 (.int 0)))), (ay, .inl (kay, 12, .inl gay)), (au, .inl (kau, 12, .inl gau)), (aw, .inl (kaw, 3, .inl gaw))] := hD
  refine lv_aload_n hx hb dX1_openNew_25 rfl (lv_at hl 0 rfl) ?_
  refine va_get (D := (dC, dI)) (ci := 1) (v := .ref ay) (C := RX1) (T := TX1) (N := 16) hx hb ht inX1 hown hK hP 0 rfl rfl 8 (by decide) (ht _ kw_339) (fun _ h9 => h9) (gs_ne (by decide) (gs_ne (by decide) (gs_ne (by decide) (gs_ne (by decide) (gs_ne (by decide) hflo_8))))) dX1_openNew_26 ?_
  refine lv_iconst (v := (-1)) hx hb dX1_openNew_29 (by decide) ?_
  have hPc := hP.sub (ws' := [(ay, .inl (kay, 12, .inl gay))]) [1] rfl
  have hDc := hD.sub (ws' := [(ay, .inl (kay, 12, .inl gay))]) [1] (by decide) rfl
  have hKc := hK.sub (tys' := [(kay, .int)]) [0] rfl
  have hFc := va_free (wc := [(ay, .inl (kay, 12, .inl gay))]) hD hS hA [1] rfl
  refine va_callv (va_runS (As := [.ref ay, .int (-1)]) (rest := []) ⟨hx, hb, hml, hown, ht⟩ (ct_J7_fill_53178 l dC dI ay kay 12 gay (by decide) _ (-1)) (va_cwS 2 ht gv_X1_54 rfl rfl rfl (by decide +kernel) ⟨Nat.le_of_ble_eq_true rfl, Nat.le_of_ble_eq_true rfl⟩) ⟨ro_blind, fun U hU hW => ⟨rfl, by rw [hU], by rw [hU]; exact hPc, va_K.moved hW.alike hKc, hDc.weaken (fun _ _ _ _ => trivial), ex_warm hW hE⟩⟩ rfl rfl hl.1 rfl (lv_room (Nat.le_of_ble_eq_true rfl)) dX1_openNew_30 ⟨Nat.le_of_ble_eq_true rfl, Nat.le_of_ble_eq_true rfl⟩) hS (fun q _ h => hFc q h) hFc (fun u t H1 locs ht1 hvm hw hB hz1 hk1 hS => ?_)
  obtain ⟨g1, hP1, hK1, hD1⟩ := hB
  rw [ht1] at hP1
  obtain ⟨hP, hD⟩ := va_join (wr := [(lo, .inr (1, (((((flo.set 1 (.int na)).set 2 (.int nb)).set 3 (.int 0)).set 4 (.int 0)).set 7 (.int 0)))), (au, .inl (kau, 12, .inl gau)), (aw, .inl (kaw, 3, .inl gaw))]) (w1 := [(ay, .inl (kay, 12, .inl g1))]) hP hD [1] [0, 2, 3] rfl rfl (by decide) (by decide) hk1 hFc hP1 hD1
  generalize H1 = H at hP hS ⊢
  have hP : va_P (dC, dI) vwCl [(lo, .inr (1, (((((flo.set 1 (.int na)).set 2 (.int nb)).set 3 (.int 0)).set 4 (.int 0)).set 7 (.int 0)))), (au, .inl (kau, 12, .inl gau)), (aw, .inl (kaw, 3, .inl gaw)), (ay, .inl (kay, 12, .inl g1))] H := hP
  have hD : va_D A [(lo, .inr (1, (((((flo.set 1 (.int na)).set 2 (.int nb)).set 3 (.int 0)).set 4 (.int 0)).set 7 (.int 0)))), (au, .inl (kau, 12, .inl gau)), (aw, .inl (kaw, 3, .inl gaw)), (ay, .inl (kay, 12, .inl g1))] := hD
  refine lv_aload_n hx hb dX1_openNew_33 rfl (lv_at hl 0 rfl) ?_
  refine va_get (D := (dC, dI)) (ci := 1) (v := .ref au) (C := RX1) (T := TX1) (N := 16) hx hb ht inX1 hown hK hP 0 rfl rfl 9 (by decide) (ht _ kw_341) (fun _ h9 => h9) (gs_ne (by decide) (gs_ne (by decide) (gs_ne (by decide) (gs_ne (by decide) (gs_ne (by decide) hflo_9))))) dX1_openNew_34 ?_
  refine lv_iconst (v := (-1)) hx hb dX1_openNew_37 (by decide) ?_
  have hPc := hP.sub (ws' := [(au, .inl (kau, 12, .inl gau))]) [1] rfl
  have hDc := hD.sub (ws' := [(au, .inl (kau, 12, .inl gau))]) [1] (by decide) rfl
  have hKc := hK.sub (tys' := [(kau, .int)]) [1] rfl
  have hFc := va_free (wc := [(au, .inl (kau, 12, .inl gau))]) hD hS hA [1] rfl
  refine va_callv (va_runS (As := [.ref au, .int (-1)]) (rest := []) ⟨hx, hb, hml, hown, ht⟩ (ct_J7_fill_53178 l dC dI au kau 12 gau (by decide) _ (-1)) (va_cwS 2 ht gv_X1_54 rfl rfl rfl (by decide +kernel) ⟨Nat.le_of_ble_eq_true rfl, Nat.le_of_ble_eq_true rfl⟩) ⟨ro_blind, fun U hU hW => ⟨rfl, by rw [hU], by rw [hU]; exact hPc, va_K.moved hW.alike hKc, hDc.weaken (fun _ _ _ _ => trivial), ex_warm hW hE⟩⟩ rfl rfl hl.1 rfl (lv_room (Nat.le_of_ble_eq_true rfl)) dX1_openNew_38 ⟨Nat.le_of_ble_eq_true rfl, Nat.le_of_ble_eq_true rfl⟩) hS (fun q _ h => hFc q h) hFc (fun u t H1 locs ht1 hvm hw hB hz1 hk1 hS => ?_)
  obtain ⟨g2, hP1, hK1, hD1⟩ := hB
  rw [ht1] at hP1
  obtain ⟨hP, hD⟩ := va_join (wr := [(lo, .inr (1, (((((flo.set 1 (.int na)).set 2 (.int nb)).set 3 (.int 0)).set 4 (.int 0)).set 7 (.int 0)))), (aw, .inl (kaw, 3, .inl gaw)), (ay, .inl (kay, 12, .inl g1))]) (w1 := [(au, .inl (kau, 12, .inl g2))]) hP hD [1] [0, 2, 3] rfl rfl (by decide) (by decide) hk1 hFc hP1 hD1
  generalize H1 = H at hP hS ⊢
  have hP : va_P (dC, dI) vwCl [(lo, .inr (1, (((((flo.set 1 (.int na)).set 2 (.int nb)).set 3 (.int 0)).set 4 (.int 0)).set 7 (.int 0)))), (aw, .inl (kaw, 3, .inl gaw)), (ay, .inl (kay, 12, .inl g1)), (au, .inl (kau, 12, .inl g2))] H := hP
  have hD : va_D A [(lo, .inr (1, (((((flo.set 1 (.int na)).set 2 (.int nb)).set 3 (.int 0)).set 4 (.int 0)).set 7 (.int 0)))), (aw, .inl (kaw, 3, .inl gaw)), (ay, .inl (kay, 12, .inl g1)), (au, .inl (kau, 12, .inl g2))] := hD
  refine lv_aload_n hx hb dX1_openNew_41 rfl (lv_at hl 0 rfl) ?_
  refine va_get (D := (dC, dI)) (ci := 1) (v := .ref aw) (C := RX1) (T := TX1) (N := 16) hx hb ht inX1 hown hK hP 0 rfl rfl 10 (by decide) (ht _ kw_343) (fun _ h9 => h9) (gs_ne (by decide) (gs_ne (by decide) (gs_ne (by decide) (gs_ne (by decide) (gs_ne (by decide) hflo_10))))) dX1_openNew_42 ?_
  refine lv_iconst (v := 0) hx hb dX1_openNew_45 (by decide) ?_
  have hPc := hP.sub (ws' := [(aw, .inl (kaw, 3, .inl gaw))]) [1] rfl
  have hDc := hD.sub (ws' := [(aw, .inl (kaw, 3, .inl gaw))]) [1] (by decide) rfl
  have hKc := hK.sub (tys' := [(kaw, .int)]) [2] rfl
  have hFc := va_free (wc := [(aw, .inl (kaw, 3, .inl gaw))]) hD hS hA [1] rfl
  refine va_callv (va_runS (As := [.ref aw, .int 0]) (rest := []) ⟨hx, hb, hml, hown, ht⟩ (ct_J7_fill_53178 l dC dI aw kaw 3 gaw (by decide) _ 0) (va_cwS 2 ht gv_X1_54 rfl rfl rfl (by decide +kernel) ⟨Nat.le_of_ble_eq_true rfl, Nat.le_of_ble_eq_true rfl⟩) ⟨ro_blind, fun U hU hW => ⟨rfl, by rw [hU], by rw [hU]; exact hPc, va_K.moved hW.alike hKc, hDc.weaken (fun _ _ _ _ => trivial), ex_warm hW hE⟩⟩ rfl rfl hl.1 rfl (lv_room (Nat.le_of_ble_eq_true rfl)) dX1_openNew_46 ⟨Nat.le_of_ble_eq_true rfl, Nat.le_of_ble_eq_true rfl⟩) hS (fun q _ h => hFc q h) hFc (fun u t H1 locs ht1 hvm hw hB hz1 hk1 hS => ?_)
  obtain ⟨g3, hP1, hK1, hD1⟩ := hB
  rw [ht1] at hP1
  obtain ⟨hP, hD⟩ := va_join (wr := [(lo, .inr (1, (((((flo.set 1 (.int na)).set 2 (.int nb)).set 3 (.int 0)).set 4 (.int 0)).set 7 (.int 0)))), (ay, .inl (kay, 12, .inl g1)), (au, .inl (kau, 12, .inl g2))]) (w1 := [(aw, .inl (kaw, 3, .inl g3))]) hP hD [1] [0, 2, 3] rfl rfl (by decide) (by decide) hk1 hFc hP1 hD1
  generalize H1 = H at hP hS ⊢
  have hP : va_P (dC, dI) vwCl [(lo, .inr (1, (((((flo.set 1 (.int na)).set 2 (.int nb)).set 3 (.int 0)).set 4 (.int 0)).set 7 (.int 0)))), (ay, .inl (kay, 12, .inl g1)), (au, .inl (kau, 12, .inl g2)), (aw, .inl (kaw, 3, .inl g3))] H := hP
  have hD : va_D A [(lo, .inr (1, (((((flo.set 1 (.int na)).set 2 (.int nb)).set 3 (.int 0)).set 4 (.int 0)).set 7 (.int 0)))), (ay, .inl (kay, 12, .inl g1)), (au, .inl (kau, 12, .inl g2)), (aw, .inl (kaw, 3, .inl g3))] := hD
  exact W.vret hx hb hr (fun t ht9 hW => ⟨⟨(), rfl, trivial, g1, g2, g3, by rw [ht9]; exact hP, va_K.moved hW.alike hK, hD⟩, hS.F ht9⟩) hS.2.2 dX1_openNew_49
abbrev cX10_drawing : ByteArray := prog_1_method_36_code
def yX10_drawing : MethodName := ⟨RX10, "drawing", "(II)I"⟩
theorem dX10_drawing_0 : decode cX10_drawing 0 = .ok (.iload_n 1, 1) := by decide +kernel
theorem dX10_drawing_1 : decode cX10_drawing 1 = .ok (.iconst 1, 1) := by decide +kernel
theorem dX10_drawing_2 : decode cX10_drawing 2 = .ok (.if_icmp .lt 18, 3) := by decide +kernel
theorem dX10_drawing_20 : decode cX10_drawing 20 = .ok (.bipush (-3), 2) := by decide +kernel
theorem dX10_drawing_22 : decode cX10_drawing 22 = .ok (.ireturn, 1) := by decide +kernel
theorem dX10_drawing_5 : decode cX10_drawing 5 = .ok (.iload_n 1, 1) := by decide +kernel
theorem dX10_drawing_6 : decode cX10_drawing 6 = .ok (.iconst 4, 1) := by decide +kernel
theorem dX10_drawing_7 : decode cX10_drawing 7 = .ok (.if_icmp .gt 13, 3) := by decide +kernel
theorem dX10_drawing_10 : decode cX10_drawing 10 = .ok (.iload_n 2, 1) := by decide +kernel
theorem dX10_drawing_11 : decode cX10_drawing 11 = .ok (.iconst 1, 1) := by decide +kernel
theorem dX10_drawing_12 : decode cX10_drawing 12 = .ok (.if_icmp .lt 8, 3) := by decide +kernel
theorem dX10_drawing_15 : decode cX10_drawing 15 = .ok (.iload_n 2, 1) := by decide +kernel
theorem dX10_drawing_16 : decode cX10_drawing 16 = .ok (.iconst 3, 1) := by decide +kernel
theorem dX10_drawing_17 : decode cX10_drawing 17 = .ok (.if_icmp .le 6, 3) := by decide +kernel
theorem dX10_drawing_23 : decode cX10_drawing 23 = .ok (.aload_n 0, 1) := by decide +kernel
theorem dX10_drawing_24 : decode cX10_drawing 24 = .ok (.getfield 53, 3) := by decide +kernel
theorem dX10_drawing_27 : decode cX10_drawing 27 = .ok (.iload_n 1, 1) := by decide +kernel
theorem dX10_drawing_28 : decode cX10_drawing 28 = .ok (.iload_n 2, 1) := by decide +kernel
theorem dX10_drawing_29 : decode cX10_drawing 29 = .ok (.invokevirtual 380, 3) := by decide +kernel
theorem kw_1325 : Cond.methodLink RX10 380 yX1_openNew ∈ lw_g := lw_at 1325 (by decide +kernel) rfl
theorem kw_1326 : Cond.instanceMethod yX1_openNew ∈ lw_g := lw_at 1326 (by decide +kernel) rfl
theorem kw_1327 : Cond.selects RX1 yX1_openNew yX1_openNew ∈ lw_g := lw_at 1327 (by decide +kernel) rfl
theorem kw_1328 : Cond.code yX1_openNew cX1_openNew 3 none ∈ lw_g := lw_at 1328 (by decide +kernel) rfl
theorem gv_X10_380 : GoodIn lw_g (wsV RX10 380 RX1 yX1_openNew (.code yX1_openNew cX1_openNew 3 none :: lw_g)) := gi_V kw_1325 kw_1326 kw_1327 kw_8 kw_1328
theorem dX10_drawing_32 : decode cX10_drawing 32 = .ok (.iconst 1, 1) := by decide +kernel
theorem dX10_drawing_33 : decode cX10_drawing 33 = .ok (.ireturn, 1) := by decide +kernel
def sp_X10_drawing (na : Int32) (nb : Int32) : Int32 := if na < 1 then (-3) else if 4 < na then (-3) else if nb < 1 then (-3) else if nb ≤ 3 then 1 else (-3)
set_option maxHeartbeats 4000000 in
set_option maxRecDepth 100000 in
theorem ct_X10_drawing (l : Launch) (dC : Nat → ClassId) (dI : Nat → Nat → Nat) (x0 : Nat) (lo : Nat) (ay : Nat) (au : Nat) (aw : Nat) (fx : List Value) (flo : List Value) (kay : ClassId) (gay : Nat → Int32) (kau : ClassId) (gau : Nat → Int32) (kaw : ClassId) (gaw : Nat → Int32) (hfx_5 : fx[5]? = some (.ref lo)) (hn_flo : flo.length = 16) (hflo_8 : flo[8]? = some (.ref ay)) (hflo_9 : flo[9]? = some (.ref au)) (hflo_10 : flo[10]? = some (.ref aw)) (sz : Nat) (na : Int32) (nb : Int32) : Met l yX10_drawing (.code yX10_drawing cX10_drawing 3 (some .int) :: lw_g) ({ frames := 2, cells := 0, slots := 0, locals := 120 }) (ro_P dC dI [(x0, .inr (10, fx)), (lo, .inr (1, flo)), (ay, .inl (kay, 12, .inl gay)), (au, .inl (kau, 12, .inl gau)), (aw, .inl (kaw, 3, .inl gaw))] [(kay, .int), (kau, .int), (kaw, .int)] sz [.ref x0, .int na, .int nb]) (ri_Q (sp_X10_drawing na nb) (va_A [(x0, .inr (10, fx)), (lo, .inr (1, flo)), (ay, .inl (kay, 12, .inl gay)), (au, .inl (kau, 12, .inl gau)), (aw, .inl (kaw, 3, .inl gaw))] sz)) 0 0 (va_A [(x0, .inr (10, fx)), (lo, .inr (1, flo)), (ay, .inl (kay, 12, .inl gay)), (au, .inl (kau, 12, .inl gau)), (aw, .inl (kaw, 3, .inl gaw))] sz) := by
  refine ro_entry (by decide) (Nat.le_of_ble_eq_true rfl) ?_
  intro p e s m below meth c ls hx hb hr hlocks ht hown hin hml hsz hP hK hD hE hl
  subst hsz
  have hD := hD.self (sz := s.heap.size)
  generalize hAe : va_A [(x0, .inr (10, fx)), (lo, .inr (1, flo)), (ay, .inl (kay, 12, .inl gay)), (au, .inl (kau, 12, .inl gau)), (aw, .inl (kaw, 3, .inl gaw))] s.heap.size = A at hD ⊢
  have hA : ∀ q, s.heap.size ≤ q → A q := fun q h => by rw [← hAe]; exact Or.inr h
  have hS : va_S A s.heap s.heap [] := va_S.rf
  have hl : lv_has ls 3 [(0, .ref x0), (1, .int na), (2, .int nb)] := hl
  have hown : s.vm.findClass RX10 = some m.cls := hown
  refine lv_iload_n hx hb dX10_drawing_0 rfl (lv_at hl 1 rfl) ?_
  refine lv_iconst (v := 1) hx hb dX10_drawing_1 (by decide) ?_
  refine lv_icmp_lt (tgt := 20) hx hb dX10_drawing_2 (by decide) (fun c1 => ?_) (fun c1 => ?_)
  · refine lv_bipush (v := (-3)) hx hb dX10_drawing_20 (by decide) ?_
    exact W.iret hx hb hr (fun t ht9 hW => ⟨⟨_, (), rfl, (by unfold sp_X10_drawing; rw [if_pos c1]), trivial⟩, hS.F ht9⟩) hS.2.2 dX10_drawing_22
  · refine lv_iload_n hx hb dX10_drawing_5 rfl (lv_at hl 1 rfl) ?_
    refine lv_iconst (v := 4) hx hb dX10_drawing_6 (by decide) ?_
    refine lv_icmp_gt (tgt := 20) hx hb dX10_drawing_7 (by decide) (fun c2 => ?_) (fun c2 => ?_)
    · refine lv_bipush (v := (-3)) hx hb dX10_drawing_20 (by decide) ?_
      exact W.iret hx hb hr (fun t ht9 hW => ⟨⟨_, (), rfl, (by unfold sp_X10_drawing; rw [if_neg c1, if_pos c2]), trivial⟩, hS.F ht9⟩) hS.2.2 dX10_drawing_22
    · refine lv_iload_n hx hb dX10_drawing_10 rfl (lv_at hl 2 rfl) ?_
      refine lv_iconst (v := 1) hx hb dX10_drawing_11 (by decide) ?_
      refine lv_icmp_lt (tgt := 20) hx hb dX10_drawing_12 (by decide) (fun c3 => ?_) (fun c3 => ?_)
      · refine lv_bipush (v := (-3)) hx hb dX10_drawing_20 (by decide) ?_
        exact W.iret hx hb hr (fun t ht9 hW => ⟨⟨_, (), rfl, (by unfold sp_X10_drawing; rw [if_neg c1, if_neg c2, if_pos c3]), trivial⟩, hS.F ht9⟩) hS.2.2 dX10_drawing_22
      · refine lv_iload_n hx hb dX10_drawing_15 rfl (lv_at hl 2 rfl) ?_
        refine lv_iconst (v := 3) hx hb dX10_drawing_16 (by decide) ?_
        refine lv_icmp_le (tgt := 23) hx hb dX10_drawing_17 (by decide) (fun c4 => ?_) (fun c4 => ?_)
        · refine lv_aload_n hx hb dX10_drawing_23 rfl (lv_at hl 0 rfl) ?_
          refine va_get (D := (dC, dI)) (ci := 10) (v := .ref lo) (C := RX10) (T := TX10) (N := 7) hx hb ht inX10 hown hK hP 0 rfl rfl 5 (by decide) (ht _ kw_410) (fun _ h9 => h9) hfx_5 dX10_drawing_24 ?_
          refine lv_iload_n hx hb dX10_drawing_27 rfl (lv_at hl 1 rfl) ?_
          refine lv_iload_n hx hb dX10_drawing_28 rfl (lv_at hl 2 rfl) ?_
          have hPc := hP.sub (ws' := [(lo, .inr (1, flo)), (ay, .inl (kay, 12, .inl gay)), (au, .inl (kau, 12, .inl gau)), (aw, .inl (kaw, 3, .inl gaw))]) [1, 2, 3, 4] rfl
          have hDc := hD.sub (ws' := [(lo, .inr (1, flo)), (ay, .inl (kay, 12, .inl gay)), (au, .inl (kau, 12, .inl gau)), (aw, .inl (kaw, 3, .inl gaw))]) [1, 2, 3, 4] (by decide) rfl
          have hKc := hK.sub (tys' := [(kay, .int), (kau, .int), (kaw, .int)]) [0, 1, 2] rfl
          have hFc := va_free (wc := [(lo, .inr (1, flo)), (ay, .inl (kay, 12, .inl gay)), (au, .inl (kau, 12, .inl gau)), (aw, .inl (kaw, 3, .inl gaw))]) hD hS hA [1, 2, 3, 4] rfl
          refine va_callv (va_runV (As := [.int na, .int nb]) (rest := []) ⟨hx, hb, hml, hown, ht⟩ (ct_X1_openNew l dC dI lo ay au aw (flo) kay gay kau gau kaw gaw hn_flo hflo_8 hflo_9 hflo_10 _ na nb) (cwV 2 ht gv_X10_380 rfl rfl rfl (by decide +kernel) ⟨Nat.le_of_ble_eq_true rfl, Nat.le_of_ble_eq_true rfl⟩) ⟨ro_blind, va_recv hKc hPc (ci := 1) (q0 := 0) rfl rfl, fun U hU hW => ⟨rfl, by rw [hU], by rw [hU]; exact hPc, va_K.moved hW.alike hKc, hDc.weaken (fun _ _ _ _ => trivial), ex_warm hW hE⟩⟩ rfl rfl hl.1 rfl (lv_room (Nat.le_of_ble_eq_true rfl)) dX10_drawing_29 ⟨Nat.le_of_ble_eq_true rfl, Nat.le_of_ble_eq_true rfl⟩) hS (fun q _ h => hFc q h) hFc (fun u t H1 locs ht1 hvm hw hB hz1 hk1 hS => ?_)
          obtain ⟨g5, g6, g7, hP1, hK1, hD1⟩ := hB
          rw [ht1] at hP1
          obtain ⟨hP, hD⟩ := va_join (wr := [(x0, .inr (10, fx))]) (w1 := [(lo, .inr (1, (((((flo.set 1 (.int na)).set 2 (.int nb)).set 3 (.int 0)).set 4 (.int 0)).set 7 (.int 0)))), (ay, .inl (kay, 12, .inl g5)), (au, .inl (kau, 12, .inl g6)), (aw, .inl (kaw, 3, .inl g7))]) hP hD [1, 2, 3, 4] [0] rfl rfl (by decide) (by decide) hk1 hFc hP1 hD1
          generalize H1 = H at hP hS ⊢
          have hP : va_P (dC, dI) vwCl [(x0, .inr (10, fx)), (lo, .inr (1, (((((flo.set 1 (.int na)).set 2 (.int nb)).set 3 (.int 0)).set 4 (.int 0)).set 7 (.int 0)))), (ay, .inl (kay, 12, .inl g5)), (au, .inl (kau, 12, .inl g6)), (aw, .inl (kaw, 3, .inl g7))] H := hP
          have hD : va_D A [(x0, .inr (10, fx)), (lo, .inr (1, (((((flo.set 1 (.int na)).set 2 (.int nb)).set 3 (.int 0)).set 4 (.int 0)).set 7 (.int 0)))), (ay, .inl (kay, 12, .inl g5)), (au, .inl (kau, 12, .inl g6)), (aw, .inl (kaw, 3, .inl g7))] := hD
          refine lv_iconst (v := 1) hx hb dX10_drawing_32 (by decide) ?_
          exact W.iret hx hb hr (fun t ht9 hW => ⟨⟨_, (), rfl, (by unfold sp_X10_drawing; rw [if_neg c1, if_neg c2, if_neg c3, if_pos c4]), trivial⟩, hS.F ht9⟩) hS.2.2 dX10_drawing_33
        · refine lv_bipush (v := (-3)) hx hb dX10_drawing_20 (by decide) ?_
          exact W.iret hx hb hr (fun t ht9 hW => ⟨⟨_, (), rfl, (by unfold sp_X10_drawing; rw [if_neg c1, if_neg c2, if_neg c3, if_neg c4]), trivial⟩, hS.F ht9⟩) hS.2.2 dX10_drawing_22
abbrev cX4_listMatches : ByteArray := prog_6_method_3_code
def yX4_listMatches : MethodName := ⟨RX4, "listMatches", "(I)V"⟩
theorem dX4_listMatches_0 : decode cX4_listMatches 0 = .ok (.aload_n 0, 1) := by decide +kernel
theorem dX4_listMatches_1 : decode cX4_listMatches 1 = .ok (.iconst 0, 1) := by decide +kernel
theorem dX4_listMatches_2 : decode cX4_listMatches 2 = .ok (.putfield 39, 3) := by decide +kernel
theorem kw_392 : Cond.fieldLink RX4 39 "SportsHouse$Referees" "serveCount" "I" ∈ lw_g := lw_at 392 (by decide +kernel) rfl
theorem dX4_listMatches_5 : decode cX4_listMatches 5 = .ok (.iconst 0, 1) := by decide +kernel
theorem dX4_listMatches_6 : decode cX4_listMatches 6 = .ok (.istore_n 2, 1) := by decide +kernel
theorem dX4_listMatches_7 : decode cX4_listMatches 7 = .ok (.iload_n 2, 1) := by decide +kernel
theorem dX4_listMatches_8 : decode cX4_listMatches 8 = .ok (.aload_n 0, 1) := by decide +kernel
theorem dX4_listMatches_9 : decode cX4_listMatches 9 = .ok (.getfield 18, 3) := by decide +kernel
theorem dX4_listMatches_12 : decode cX4_listMatches 12 = .ok (.getfield 57, 3) := by decide +kernel
theorem kw_156 : Cond.fieldLink RX4 57 "SportsHouse$Season" "matchCount" "I" ∈ lw_g := lw_at 156 (by decide +kernel) rfl
theorem dX4_listMatches_15 : decode cX4_listMatches 15 = .ok (.if_icmp .ge 54, 3) := by decide +kernel
theorem dX4_listMatches_69 : decode cX4_listMatches 69 = .ok (.return_, 1) := by decide +kernel
set_option maxHeartbeats 4000000 in
set_option maxRecDepth 100000 in
theorem ct_X4_listMatches (l : Launch) (dC : Nat → ClassId) (dI : Nat → Nat → Nat) (re : Nat) (se : Nat) (fre : List Value) (fse : List Value) (hn_fre : fre.length = 5) (hfre_0 : fre[0]? = some (.ref se)) (hfse_4 : fse[4]? = some (.int 0)) (sz : Nat) (na : Int32) : Met l yX4_listMatches (.code yX4_listMatches cX4_listMatches 4 none :: lw_g) ({ frames := 1, cells := 0, slots := 0, locals := 60 }) (ro_P dC dI [(re, .inr (4, fre)), (se, .inr (6, fse))] [] sz [.ref re, .int na]) (va_Qv (fun (_ : Unit) => True) (fun _ t => va_P (dC, dI) vwCl [(re, .inr (4, (fre.set 3 (.int 0)))), (se, .inr (6, fse))] t.heap ∧ va_K (dC, dI) vwCl [] t ∧ va_D (va_A [(re, .inr (4, fre)), (se, .inr (6, fse))] sz) [(re, .inr (4, (fre.set 3 (.int 0)))), (se, .inr (6, fse))]) (va_A [(re, .inr (4, fre)), (se, .inr (6, fse))] sz)) 0 0 (va_A [(re, .inr (4, fre)), (se, .inr (6, fse))] sz) := by
  refine ro_entry (by decide) (Nat.le_of_ble_eq_true rfl) ?_
  intro p e s m below meth c ls hx hb hr hlocks ht hown hin hml hsz hP hK hD hE hl
  subst hsz
  have hD := hD.self (sz := s.heap.size)
  generalize hAe : va_A [(re, .inr (4, fre)), (se, .inr (6, fse))] s.heap.size = A at hD ⊢
  have hA : ∀ q, s.heap.size ≤ q → A q := fun q h => by rw [← hAe]; exact Or.inr h
  have hS : va_S A s.heap s.heap [] := va_S.rf
  have hl : lv_has ls 4 [(0, .ref re), (1, .int na)] := hl
  have hown : s.vm.findClass RX4 = some m.cls := hown
  refine lv_aload_n hx hb dX4_listMatches_0 rfl (lv_at hl 0 rfl) ?_
  refine lv_iconst (v := 0) hx hb dX4_listMatches_1 (by decide) ?_
  refine va_put (D := (dC, dI)) (ci := 4) (v := .int 0) (ty := .int) (C := RX4) (T := TX4) (N := 5) hx hb ht inX4 tyX4 tyX4_ok nmX4 hown hK hP hD hS 0 rfl rfl 3 (by decide) (ht _ kw_392) (fun _ h9 => h9) rfl (by decide +kernel) rfl rfl (gs_lt hn_fre (by decide)) dX4_listMatches_2 (fun H locs hP hD hS => ?_)
  have hP : va_P (dC, dI) vwCl [(re, .inr (4, (fre.set 3 (.int 0)))), (se, .inr (6, fse))] H := hP
  have hD : va_D A [(re, .inr (4, (fre.set 3 (.int 0)))), (se, .inr (6, fse))] := hD
  refine lv_iconst (v := 0) hx hb dX4_listMatches_5 (by decide) ?_
  refine lv_istore_n (lv' := [(2, .int 0), (0, .ref re), (1, .int na)]) hx hb dX4_listMatches_6 rfl hl (by decide) rfl (fun ls hl => ?_)
  refine lv_iload_n hx hb dX4_listMatches_7 rfl (lv_at hl 0 rfl) ?_
  refine lv_aload_n hx hb dX4_listMatches_8 rfl (lv_at hl 1 rfl) ?_
  refine va_get (D := (dC, dI)) (ci := 4) (v := .ref se) (C := RX4) (T := TX4) (N := 5) hx hb ht inX4 hown hK hP 0 rfl rfl 0 (by decide) (ht _ kw_389) (fun _ h9 => h9) (gs_ne (by decide) hfre_0) dX4_listMatches_9 ?_
  refine va_get (D := (dC, dI)) (ci := 6) (v := .int 0) (C := RX6) (T := TX6) (N := 16) hx hb ht inX6 hown hK hP 1 rfl rfl 4 (by decide) (ht _ kw_156) (fun _ h9 => h9) hfse_4 dX4_listMatches_12 ?_
  refine lv_icmp_ge (tgt := 69) hx hb dX4_listMatches_15 (by decide) (fun c1 => ?_) (fun c1 => ?_)
  rotate_left
  · exact absurd (by decide) c1
  exact W.vret hx hb hr (fun t ht9 hW => ⟨⟨(), rfl, trivial, by rw [ht9]; exact hP, va_K.moved hW.alike hK, hD⟩, hS.F ht9⟩) hS.2.2 dX4_listMatches_69
abbrev cX4_weighAll : ByteArray := prog_6_method_4_code
def yX4_weighAll : MethodName := ⟨RX4, "weighAll", "(I)V"⟩
theorem dX4_weighAll_0 : decode cX4_weighAll 0 = .ok (.aload_n 0, 1) := by decide +kernel
theorem dX4_weighAll_1 : decode cX4_weighAll 1 = .ok (.getfield 39, 3) := by decide +kernel
theorem dX4_weighAll_4 : decode cX4_weighAll 4 = .ok (.iconst 1, 1) := by decide +kernel
theorem dX4_weighAll_5 : decode cX4_weighAll 5 = .ok (.iadd, 1) := by decide +kernel
theorem dX4_weighAll_6 : decode cX4_weighAll 6 = .ok (.iload_n 1, 1) := by decide +kernel
theorem dX4_weighAll_7 : decode cX4_weighAll 7 = .ok (.imul, 1) := by decide +kernel
theorem dX4_weighAll_8 : decode cX4_weighAll 8 = .ok (.istore_n 2, 1) := by decide +kernel
theorem dX4_weighAll_9 : decode cX4_weighAll 9 = .ok (.aload_n 0, 1) := by decide +kernel
theorem dX4_weighAll_10 : decode cX4_weighAll 10 = .ok (.getfield 15, 3) := by decide +kernel
theorem dX4_weighAll_13 : decode cX4_weighAll 13 = .ok (.arraylength, 1) := by decide +kernel
theorem dX4_weighAll_14 : decode cX4_weighAll 14 = .ok (.iload_n 2, 1) := by decide +kernel
theorem dX4_weighAll_15 : decode cX4_weighAll 15 = .ok (.if_icmp .ge 10, 3) := by decide +kernel
theorem dX4_weighAll_25 : decode cX4_weighAll 25 = .ok (.iconst 0, 1) := by decide +kernel
theorem dX4_weighAll_26 : decode cX4_weighAll 26 = .ok (.istore_n 3, 1) := by decide +kernel
theorem dX4_weighAll_27 : decode cX4_weighAll 27 = .ok (.iload_n 3, 1) := by decide +kernel
theorem dX4_weighAll_28 : decode cX4_weighAll 28 = .ok (.iload_n 1, 1) := by decide +kernel
theorem dX4_weighAll_29 : decode cX4_weighAll 29 = .ok (.if_icmp .ge 23, 3) := by decide +kernel
theorem dX4_weighAll_32 : decode cX4_weighAll 32 = .ok (.aload_n 0, 1) := by decide +kernel
theorem dX4_weighAll_33 : decode cX4_weighAll 33 = .ok (.getfield 15, 3) := by decide +kernel
theorem dX4_weighAll_36 : decode cX4_weighAll 36 = .ok (.aload_n 0, 1) := by decide +kernel
theorem dX4_weighAll_37 : decode cX4_weighAll 37 = .ok (.getfield 39, 3) := by decide +kernel
theorem dX4_weighAll_40 : decode cX4_weighAll 40 = .ok (.iload_n 1, 1) := by decide +kernel
theorem dX4_weighAll_41 : decode cX4_weighAll 41 = .ok (.imul, 1) := by decide +kernel
theorem dX4_weighAll_42 : decode cX4_weighAll 42 = .ok (.iload_n 3, 1) := by decide +kernel
theorem dX4_weighAll_43 : decode cX4_weighAll 43 = .ok (.iadd, 1) := by decide +kernel
theorem dX4_weighAll_44 : decode cX4_weighAll 44 = .ok (.iconst 0, 1) := by decide +kernel
theorem dX4_weighAll_45 : decode cX4_weighAll 45 = .ok (.iastore, 1) := by decide +kernel
theorem dX4_weighAll_46 : decode cX4_weighAll 46 = .ok (.iinc 3 1, 3) := by decide +kernel
theorem dX4_weighAll_49 : decode cX4_weighAll 49 = .ok (.goto (-22), 3) := by decide +kernel
theorem dX4_weighAll_52 : decode cX4_weighAll 52 = .ok (.aload_n 0, 1) := by decide +kernel
theorem dX4_weighAll_53 : decode cX4_weighAll 53 = .ok (.getfield 39, 3) := by decide +kernel
theorem dX4_weighAll_56 : decode cX4_weighAll 56 = .ok (.iconst 1, 1) := by decide +kernel
theorem dX4_weighAll_57 : decode cX4_weighAll 57 = .ok (.isub, 1) := by decide +kernel
theorem dX4_weighAll_58 : decode cX4_weighAll 58 = .ok (.istore_n 3, 1) := by decide +kernel
theorem dX4_weighAll_59 : decode cX4_weighAll 59 = .ok (.iload_n 3, 1) := by decide +kernel
theorem dX4_weighAll_60 : decode cX4_weighAll 60 = .ok (.ifCond .lt 61, 3) := by decide +kernel
theorem dX4_weighAll_121 : decode cX4_weighAll 121 = .ok (.return_, 1) := by decide +kernel
set_option maxHeartbeats 4000000 in
set_option maxRecDepth 100000 in
theorem ct_X4_weighAll (l : Launch) (dC : Nat → ClassId) (dI : Nat → Nat → Nat) (re : Nat) (ax : Nat) (fre : List Value) (kax : ClassId) (gax : Nat → Int32) (hfre_3 : fre[3]? = some (.int 0)) (hfre_4 : fre[4]? = some (.ref ax)) (sz : Nat)  : Met l yX4_weighAll (.code yX4_weighAll cX4_weighAll 6 none :: lw_g) ({ frames := 1, cells := 0, slots := 0, locals := 60 }) (ro_P dC dI [(re, .inr (4, fre)), (ax, .inl (kax, 1, .inl gax))] [(kax, .int)] sz [.ref re, .int 1]) (va_Qv (fun (_ : Unit) => True) (fun _ t => ∃ (g7 : Nat → Int32), va_P (dC, dI) vwCl [(re, .inr (4, fre)), (ax, .inl (kax, 1, .inl g7))] t.heap ∧ va_K (dC, dI) vwCl [(kax, .int)] t ∧ va_D (va_A [(re, .inr (4, fre)), (ax, .inl (kax, 1, .inl gax))] sz) [(re, .inr (4, fre)), (ax, .inl (kax, 1, .inl g7))]) (va_A [(re, .inr (4, fre)), (ax, .inl (kax, 1, .inl gax))] sz)) 0 0 (va_A [(re, .inr (4, fre)), (ax, .inl (kax, 1, .inl gax))] sz) := by
  refine ro_entry (by decide) (Nat.le_of_ble_eq_true rfl) ?_
  intro p e s m below meth c ls hx hb hr hlocks ht hown hin hml hsz hP hK hD hE hl
  subst hsz
  have hD := hD.self (sz := s.heap.size)
  generalize hAe : va_A [(re, .inr (4, fre)), (ax, .inl (kax, 1, .inl gax))] s.heap.size = A at hD ⊢
  have hA : ∀ q, s.heap.size ≤ q → A q := fun q h => by rw [← hAe]; exact Or.inr h
  have hS : va_S A s.heap s.heap [] := va_S.rf
  have hl : lv_has ls 6 [(0, .ref re), (1, .int 1)] := hl
  have hown : s.vm.findClass RX4 = some m.cls := hown
  refine lv_aload_n hx hb dX4_weighAll_0 rfl (lv_at hl 0 rfl) ?_
  refine va_get (D := (dC, dI)) (ci := 4) (v := .int 0) (C := RX4) (T := TX4) (N := 5) hx hb ht inX4 hown hK hP 0 rfl rfl 3 (by decide) (ht _ kw_392) (fun _ h9 => h9) hfre_3 dX4_weighAll_1 ?_
  refine lv_iconst (v := 1) hx hb dX4_weighAll_4 (by decide) ?_
  refine lv_iadd hx hb dX4_weighAll_5 ?_
  refine lv_topi (fun r1 er1 => ?_)
  have er1 : r1 = 1 := er1.trans (by decide)
  subst er1
  refine lv_iload_n hx hb dX4_weighAll_6 rfl (lv_at hl 1 rfl) ?_
  refine lv_imul hx hb dX4_weighAll_7 ?_
  refine lv_topi (fun r2 er2 => ?_)
  have er2 : r2 = 1 := er2.trans (by decide)
  subst er2
  refine lv_istore_n (lv' := [(2, .int 1), (0, .ref re), (1, .int 1)]) hx hb dX4_weighAll_8 rfl hl (by decide) rfl (fun ls hl => ?_)
  refine lv_aload_n hx hb dX4_weighAll_9 rfl (lv_at hl 1 rfl) ?_
  refine va_get (D := (dC, dI)) (ci := 4) (v := .ref ax) (C := RX4) (T := TX4) (N := 5) hx hb ht inX4 hown hK hP 0 rfl rfl 4 (by decide) (ht _ kw_393) (fun _ h9 => h9) hfre_4 dX4_weighAll_10 ?_
  refine va_alen hx hb hK hP 1 0 rfl rfl (v := 1) rfl dX4_weighAll_13 ?_
  refine lv_iload_n hx hb dX4_weighAll_14 rfl (lv_at hl 0 rfl) ?_
  refine lv_icmp_ge (tgt := 25) hx hb dX4_weighAll_15 (by decide) (fun c3 => ?_) (fun c3 => ?_)
  rotate_left
  · exact absurd (by decide) c3
  refine lv_iconst (v := 0) hx hb dX4_weighAll_25 (by decide) ?_
  refine lv_istore_n (lv' := [(3, .int 0), (2, .int 1), (0, .ref re), (1, .int 1)]) hx hb dX4_weighAll_26 rfl hl (by decide) rfl (fun ls hl => ?_)
  refine lv_iload_n hx hb dX4_weighAll_27 rfl (lv_at hl 0 rfl) ?_
  refine lv_iload_n hx hb dX4_weighAll_28 rfl (lv_at hl 3 rfl) ?_
  refine lv_icmp_ge (tgt := 52) hx hb dX4_weighAll_29 (by decide) (fun c4 => ?_) (fun c4 => ?_)
  · exact absurd c4 (by decide)
  refine lv_aload_n hx hb dX4_weighAll_32 rfl (lv_at hl 2 rfl) ?_
  refine va_get (D := (dC, dI)) (ci := 4) (v := .ref ax) (C := RX4) (T := TX4) (N := 5) hx hb ht inX4 hown hK hP 0 rfl rfl 4 (by decide) (ht _ kw_393) (fun _ h9 => h9) hfre_4 dX4_weighAll_33 ?_
  refine lv_aload_n hx hb dX4_weighAll_36 rfl (lv_at hl 2 rfl) ?_
  refine va_get (D := (dC, dI)) (ci := 4) (v := .int 0) (C := RX4) (T := TX4) (N := 5) hx hb ht inX4 hown hK hP 0 rfl rfl 3 (by decide) (ht _ kw_392) (fun _ h9 => h9) hfre_3 dX4_weighAll_37 ?_
  refine lv_iload_n hx hb dX4_weighAll_40 rfl (lv_at hl 3 rfl) ?_
  refine lv_imul hx hb dX4_weighAll_41 ?_
  refine lv_topi (fun r5 er5 => ?_)
  have er5 : r5 = 0 := er5.trans (by decide)
  subst er5
  refine lv_iload_n hx hb dX4_weighAll_42 rfl (lv_at hl 0 rfl) ?_
  refine lv_iadd hx hb dX4_weighAll_43 ?_
  refine lv_topi (fun r6 er6 => ?_)
  have er6 : r6 = 0 := er6.trans (by decide)
  subst er6
  refine lv_iconst (v := 0) hx hb dX4_weighAll_44 (by decide) ?_
  refine va_iast hx hb hK hP hD hS 1 0 rfl rfl (by unfold vp_in; decide) dX4_weighAll_45 (fun H locs hP hD hS => ?_)
  generalize upd gax (0 : Int32).toNatClampNeg 0 = g7 at hP hD
  have hP : va_P (dC, dI) vwCl [(re, .inr (4, fre)), (ax, .inl (kax, 1, .inl g7))] H := hP
  have hD : va_D A [(re, .inr (4, fre)), (ax, .inl (kax, 1, .inl g7))] := hD
  refine lv_iinc (v := 1) (lv' := [(3, .int 1), (2, .int 1), (0, .ref re), (1, .int 1)]) hx hb dX4_weighAll_46 hl (k := 0) rfl (by decide) (by decide) rfl (fun ls hl => ?_)
  refine lv_goto (tgt := 27) hx hb dX4_weighAll_49 (by decide) ?_
  refine lv_iload_n hx hb dX4_weighAll_27 rfl (lv_at hl 0 rfl) ?_
  refine lv_iload_n hx hb dX4_weighAll_28 rfl (lv_at hl 3 rfl) ?_
  refine lv_icmp_ge (tgt := 52) hx hb dX4_weighAll_29 (by decide) (fun c8 => ?_) (fun c8 => ?_)
  rotate_left
  · exact absurd (by decide) c8
  refine lv_aload_n hx hb dX4_weighAll_52 rfl (lv_at hl 2 rfl) ?_
  refine va_get (D := (dC, dI)) (ci := 4) (v := .int 0) (C := RX4) (T := TX4) (N := 5) hx hb ht inX4 hown hK hP 0 rfl rfl 3 (by decide) (ht _ kw_392) (fun _ h9 => h9) hfre_3 dX4_weighAll_53 ?_
  refine lv_iconst (v := 1) hx hb dX4_weighAll_56 (by decide) ?_
  refine lv_isub hx hb dX4_weighAll_57 ?_
  refine lv_topi (fun r9 er9 => ?_)
  have er9 : r9 = (-1) := er9.trans (by decide)
  subst er9
  refine lv_istore_n (lv' := [(3, .int (-1)), (2, .int 1), (0, .ref re), (1, .int 1)]) hx hb dX4_weighAll_58 rfl hl (by decide) rfl (fun ls hl => ?_)
  refine lv_iload_n hx hb dX4_weighAll_59 rfl (lv_at hl 0 rfl) ?_
  refine lv_if_lt (tgt := 121) hx hb dX4_weighAll_60 (by decide) (fun c10 => ?_) (fun c10 => ?_)
  rotate_left
  · exact absurd (by decide) c10
  exact W.vret hx hb hr (fun t ht9 hW => ⟨⟨(), rfl, trivial, g7, by rw [ht9]; exact hP, va_K.moved hW.alike hK, hD⟩, hS.F ht9⟩) hS.2.2 dX4_weighAll_121
abbrev cX4_share : ByteArray := prog_6_method_2_code
def yX4_share : MethodName := ⟨RX4, "share", "(I)I"⟩
theorem dX4_share_0 : decode cX4_share 0 = .ok (.aload_n 0, 1) := by decide +kernel
theorem dX4_share_1 : decode cX4_share 1 = .ok (.iload_n 1, 1) := by decide +kernel
theorem dX4_share_2 : decode cX4_share 2 = .ok (.invokevirtual 26, 3) := by decide +kernel
theorem kw_1390 : Cond.methodLink RX4 26 yX4_listMatches ∈ lw_g := lw_at 1390 (by decide +kernel) rfl
theorem kw_1392 : Cond.instanceMethod yX4_listMatches ∈ lw_g := lw_at 1392 (by decide +kernel) rfl
theorem ks_X4_listMatches : Cond.selects RX4 yX4_listMatches yX4_listMatches ∈ lw_g := lw_sel 5 rfl
theorem kw_1393 : Cond.code yX4_listMatches cX4_listMatches 4 none ∈ lw_g := lw_at 1393 (by decide +kernel) rfl
theorem gv_X4_26 : GoodIn lw_g (wsV RX4 26 RX4 yX4_listMatches (.code yX4_listMatches cX4_listMatches 4 none :: lw_g)) := gi_V kw_1390 kw_1392 ks_X4_listMatches kw_9 kw_1393
theorem dX4_share_5 : decode cX4_share 5 = .ok (.iconst 1, 1) := by decide +kernel
theorem dX4_share_6 : decode cX4_share 6 = .ok (.aload_n 0, 1) := by decide +kernel
theorem dX4_share_7 : decode cX4_share 7 = .ok (.getfield 22, 3) := by decide +kernel
theorem dX4_share_10 : decode cX4_share 10 = .ok (.getfield 30, 3) := by decide +kernel
theorem kw_103 : Cond.fieldLink RX4 30 "SportsHouse$Things" "officials" "I" ∈ lw_g := lw_at 103 (by decide +kernel) rfl
theorem dX4_share_13 : decode cX4_share 13 = .ok (.ishl, 1) := by decide +kernel
theorem dX4_share_14 : decode cX4_share 14 = .ok (.istore_n 2, 1) := by decide +kernel
theorem dX4_share_15 : decode cX4_share 15 = .ok (.aload_n 0, 1) := by decide +kernel
theorem dX4_share_16 : decode cX4_share 16 = .ok (.iload_n 2, 1) := by decide +kernel
theorem dX4_share_17 : decode cX4_share 17 = .ok (.invokevirtual 36, 3) := by decide +kernel
theorem kw_1395 : Cond.methodLink RX4 36 yX4_weighAll ∈ lw_g := lw_at 1395 (by decide +kernel) rfl
theorem kw_1397 : Cond.instanceMethod yX4_weighAll ∈ lw_g := lw_at 1397 (by decide +kernel) rfl
theorem ks_X4_weighAll : Cond.selects RX4 yX4_weighAll yX4_weighAll ∈ lw_g := lw_sel 6 rfl
theorem kw_1398 : Cond.code yX4_weighAll cX4_weighAll 6 none ∈ lw_g := lw_at 1398 (by decide +kernel) rfl
theorem gv_X4_36 : GoodIn lw_g (wsV RX4 36 RX4 yX4_weighAll (.code yX4_weighAll cX4_weighAll 6 none :: lw_g)) := gi_V kw_1395 kw_1397 ks_X4_weighAll kw_9 kw_1398
theorem dX4_share_20 : decode cX4_share 20 = .ok (.iconst 0, 1) := by decide +kernel
theorem dX4_share_21 : decode cX4_share 21 = .ok (.istore_n 3, 1) := by decide +kernel
theorem dX4_share_22 : decode cX4_share 22 = .ok (.iconst 0, 1) := by decide +kernel
theorem dX4_share_23 : decode cX4_share 23 = .ok (.istore 4, 2) := by decide +kernel
theorem dX4_share_25 : decode cX4_share 25 = .ok (.iconst 0, 1) := by decide +kernel
theorem dX4_share_26 : decode cX4_share 26 = .ok (.istore 5, 2) := by decide +kernel
theorem dX4_share_28 : decode cX4_share 28 = .ok (.iload 5, 2) := by decide +kernel
theorem dX4_share_30 : decode cX4_share 30 = .ok (.aload_n 0, 1) := by decide +kernel
theorem dX4_share_31 : decode cX4_share 31 = .ok (.getfield 39, 3) := by decide +kernel
theorem dX4_share_34 : decode cX4_share 34 = .ok (.if_icmp .ge 61, 3) := by decide +kernel
theorem dX4_share_95 : decode cX4_share 95 = .ok (.iload 4, 2) := by decide +kernel
theorem dX4_share_97 : decode cX4_share 97 = .ok (.ireturn, 1) := by decide +kernel
set_option maxHeartbeats 4000000 in
set_option maxRecDepth 100000 in
theorem ct_X4_share (l : Launch) (dC : Nat → ClassId) (dI : Nat → Nat → Nat) (re : Nat) (se : Nat) (th : Nat) (ax : Nat) (fre : List Value) (fse : List Value) (fth : List Value) (kax : ClassId) (gax : Nat → Int32) (hn_fre : fre.length = 5) (hfre_0 : fre[0]? = some (.ref se)) (hfre_1 : fre[1]? = some (.ref th)) (hfre_3 : fre[3]? = some (.int 0)) (hfre_4 : fre[4]? = some (.ref ax)) (hfse_4 : fse[4]? = some (.int 0)) (hfth_12 : fth[12]? = some (.int 0)) (sz : Nat) (na : Int32) : Met l yX4_share (.code yX4_share cX4_share 8 (some .int) :: lw_g) ({ frames := 2, cells := 0, slots := 0, locals := 120 }) (ro_P dC dI [(re, .inr (4, fre)), (se, .inr (6, fse)), (th, .inr (8, fth)), (ax, .inl (kax, 1, .inl gax))] [(kax, .int)] sz [.ref re, .int na]) (va_Qi (fun (r : Int32) (_ : Unit) => r = 0) (fun _ t => ∃ (g2 : Nat → Int32), va_P (dC, dI) vwCl [(th, .inr (8, fth)), (se, .inr (6, fse)), (re, .inr (4, (fre.set 3 (.int 0)))), (ax, .inl (kax, 1, .inl g2))] t.heap ∧ va_K (dC, dI) vwCl [(kax, .int)] t ∧ va_D (va_A [(re, .inr (4, fre)), (se, .inr (6, fse)), (th, .inr (8, fth)), (ax, .inl (kax, 1, .inl gax))] sz) [(th, .inr (8, fth)), (se, .inr (6, fse)), (re, .inr (4, (fre.set 3 (.int 0)))), (ax, .inl (kax, 1, .inl g2))]) (va_A [(re, .inr (4, fre)), (se, .inr (6, fse)), (th, .inr (8, fth)), (ax, .inl (kax, 1, .inl gax))] sz)) 0 0 (va_A [(re, .inr (4, fre)), (se, .inr (6, fse)), (th, .inr (8, fth)), (ax, .inl (kax, 1, .inl gax))] sz) := by
  refine ro_entry (by decide) (Nat.le_of_ble_eq_true rfl) ?_
  intro p e s m below meth c ls hx hb hr hlocks ht hown hin hml hsz hP hK hD hE hl
  subst hsz
  have hD := hD.self (sz := s.heap.size)
  generalize hAe : va_A [(re, .inr (4, fre)), (se, .inr (6, fse)), (th, .inr (8, fth)), (ax, .inl (kax, 1, .inl gax))] s.heap.size = A at hD ⊢
  have hA : ∀ q, s.heap.size ≤ q → A q := fun q h => by rw [← hAe]; exact Or.inr h
  have hS : va_S A s.heap s.heap [] := va_S.rf
  have hl : lv_has ls 8 [(0, .ref re), (1, .int na)] := hl
  have hown : s.vm.findClass RX4 = some m.cls := hown
  refine lv_aload_n hx hb dX4_share_0 rfl (lv_at hl 0 rfl) ?_
  refine lv_iload_n hx hb dX4_share_1 rfl (lv_at hl 1 rfl) ?_
  have hPc := hP.sub (ws' := [(re, .inr (4, fre)), (se, .inr (6, fse))]) [0, 1] rfl
  have hDc := hD.sub (ws' := [(re, .inr (4, fre)), (se, .inr (6, fse))]) [0, 1] (by decide) rfl
  have hKc := hK.sub (tys' := []) [] rfl
  have hFc := va_free (wc := [(re, .inr (4, fre)), (se, .inr (6, fse))]) hD hS hA [0, 1] rfl
  refine va_callv (va_runV (As := [.int na]) (rest := []) ⟨hx, hb, hml, hown, ht⟩ (ct_X4_listMatches l dC dI re se (fre) (fse) hn_fre hfre_0 hfse_4 _ na) (cwV 1 ht gv_X4_26 rfl rfl rfl (by decide +kernel) ⟨Nat.le_of_ble_eq_true rfl, Nat.le_of_ble_eq_true rfl⟩) ⟨ro_blind, va_recv hKc hPc (ci := 4) (q0 := 0) rfl rfl, fun U hU hW => ⟨rfl, by rw [hU], by rw [hU]; exact hPc, va_K.moved hW.alike hKc, hDc.weaken (fun _ _ _ _ => trivial), ex_warm hW hE⟩⟩ rfl rfl hl.1 rfl (lv_room (Nat.le_of_ble_eq_true rfl)) dX4_share_2 ⟨Nat.le_of_ble_eq_true rfl, Nat.le_of_ble_eq_true rfl⟩) hS (fun q _ h => hFc q h) hFc (fun u t H1 locs ht1 hvm hw hB hz1 hk1 hS => ?_)
  obtain ⟨hP1, hK1, hD1⟩ := hB
  rw [ht1] at hP1
  obtain ⟨hP, hD⟩ := va_join (wr := [(th, .inr (8, fth)), (ax, .inl (kax, 1, .inl gax))]) (w1 := [(re, .inr (4, (fre.set 3 (.int 0)))), (se, .inr (6, fse))]) hP hD [0, 1] [2, 3] rfl rfl (by decide) (by decide) hk1 hFc hP1 hD1
  generalize H1 = H at hP hS ⊢
  have hP : va_P (dC, dI) vwCl [(th, .inr (8, fth)), (ax, .inl (kax, 1, .inl gax)), (re, .inr (4, (fre.set 3 (.int 0)))), (se, .inr (6, fse))] H := hP
  have hD : va_D A [(th, .inr (8, fth)), (ax, .inl (kax, 1, .inl gax)), (re, .inr (4, (fre.set 3 (.int 0)))), (se, .inr (6, fse))] := hD
  refine lv_iconst (v := 1) hx hb dX4_share_5 (by decide) ?_
  refine lv_aload_n hx hb dX4_share_6 rfl (lv_at hl 0 rfl) ?_
  refine va_get (D := (dC, dI)) (ci := 4) (v := .ref th) (C := RX4) (T := TX4) (N := 5) hx hb ht inX4 hown hK hP 2 rfl rfl 1 (by decide) (ht _ kw_390) (fun _ h9 => h9) (gs_ne (by decide) hfre_1) dX4_share_7 ?_
  refine va_get (D := (dC, dI)) (ci := 8) (v := .int 0) (C := RX8) (T := TX8) (N := 14) hx hb ht inX8 hown hK hP 0 rfl rfl 12 (by decide) (ht _ kw_103) (fun _ h9 => h9) hfth_12 dX4_share_10 ?_
  refine lv_ishl hx hb dX4_share_13 ?_
  refine lv_topi (fun r1 er1 => ?_)
  have er1 : r1 = 1 := er1.trans (by decide)
  subst er1
  refine lv_istore_n (lv' := [(2, .int 1), (0, .ref re), (1, .int na)]) hx hb dX4_share_14 rfl hl (by decide) rfl (fun ls hl => ?_)
  refine lv_aload_n hx hb dX4_share_15 rfl (lv_at hl 1 rfl) ?_
  refine lv_iload_n hx hb dX4_share_16 rfl (lv_at hl 0 rfl) ?_
  have hPc := hP.sub (ws' := [(re, .inr (4, (fre.set 3 (.int 0)))), (ax, .inl (kax, 1, .inl gax))]) [2, 1] rfl
  have hDc := hD.sub (ws' := [(re, .inr (4, (fre.set 3 (.int 0)))), (ax, .inl (kax, 1, .inl gax))]) [2, 1] (by decide) rfl
  have hKc := hK.sub (tys' := [(kax, .int)]) [0] rfl
  have hFc := va_free (wc := [(re, .inr (4, (fre.set 3 (.int 0)))), (ax, .inl (kax, 1, .inl gax))]) hD hS hA [2, 1] rfl
  refine va_callv (va_runV (As := [.int 1]) (rest := []) ⟨hx, hb, hml, hown, ht⟩ (ct_X4_weighAll l dC dI re ax ((fre.set 3 (.int 0))) kax gax (gs_eq (gs_lt hn_fre (by decide))) (gs_ne (by decide) hfre_4) _ ) (cwV 1 ht gv_X4_36 rfl rfl rfl (by decide +kernel) ⟨Nat.le_of_ble_eq_true rfl, Nat.le_of_ble_eq_true rfl⟩) ⟨ro_blind, va_recv hKc hPc (ci := 4) (q0 := 0) rfl rfl, fun U hU hW => ⟨rfl, by rw [hU], by rw [hU]; exact hPc, va_K.moved hW.alike hKc, hDc.weaken (fun _ _ _ _ => trivial), ex_warm hW hE⟩⟩ rfl rfl hl.1 rfl (lv_room (Nat.le_of_ble_eq_true rfl)) dX4_share_17 ⟨Nat.le_of_ble_eq_true rfl, Nat.le_of_ble_eq_true rfl⟩) hS (fun q _ h => hFc q h) hFc (fun u t H1 locs ht1 hvm hw hB hz1 hk1 hS => ?_)
  obtain ⟨g2, hP1, hK1, hD1⟩ := hB
  rw [ht1] at hP1
  obtain ⟨hP, hD⟩ := va_join (wr := [(th, .inr (8, fth)), (se, .inr (6, fse))]) (w1 := [(re, .inr (4, (fre.set 3 (.int 0)))), (ax, .inl (kax, 1, .inl g2))]) hP hD [2, 1] [0, 3] rfl rfl (by decide) (by decide) hk1 hFc hP1 hD1
  generalize H1 = H at hP hS ⊢
  have hP : va_P (dC, dI) vwCl [(th, .inr (8, fth)), (se, .inr (6, fse)), (re, .inr (4, (fre.set 3 (.int 0)))), (ax, .inl (kax, 1, .inl g2))] H := hP
  have hD : va_D A [(th, .inr (8, fth)), (se, .inr (6, fse)), (re, .inr (4, (fre.set 3 (.int 0)))), (ax, .inl (kax, 1, .inl g2))] := hD
  refine lv_iconst (v := 0) hx hb dX4_share_20 (by decide) ?_
  refine lv_istore_n (lv' := [(3, .int 0), (2, .int 1), (0, .ref re), (1, .int na)]) hx hb dX4_share_21 rfl hl (by decide) rfl (fun ls hl => ?_)
  refine lv_iconst (v := 0) hx hb dX4_share_22 (by decide) ?_
  refine lv_istore (lv' := [(4, .int 0), (3, .int 0), (2, .int 1), (0, .ref re), (1, .int na)]) hx hb dX4_share_23 hl (by decide) rfl (fun ls hl => ?_)
  refine lv_iconst (v := 0) hx hb dX4_share_25 (by decide) ?_
  refine lv_istore (lv' := [(5, .int 0), (4, .int 0), (3, .int 0), (2, .int 1), (0, .ref re), (1, .int na)]) hx hb dX4_share_26 hl (by decide) rfl (fun ls hl => ?_)
  refine lv_iload hx hb dX4_share_28 (lv_at hl 0 rfl) ?_
  refine lv_aload_n hx hb dX4_share_30 rfl (lv_at hl 4 rfl) ?_
  refine va_get (D := (dC, dI)) (ci := 4) (v := .int 0) (C := RX4) (T := TX4) (N := 5) hx hb ht inX4 hown hK hP 2 rfl rfl 3 (by decide) (ht _ kw_392) (fun _ h9 => h9) (gs_eq (gs_lt hn_fre (by decide))) dX4_share_31 ?_
  refine lv_icmp_ge (tgt := 95) hx hb dX4_share_34 (by decide) (fun c3 => ?_) (fun c3 => ?_)
  rotate_left
  · exact absurd (by decide) c3
  refine lv_iload hx hb dX4_share_95 (lv_at hl 1 rfl) ?_
  exact W.iret hx hb hr (fun t ht9 hW => ⟨⟨_, (), rfl, rfl, g2, by rw [ht9]; exact hP, va_K.moved hW.alike hK, hD⟩, hS.F ht9⟩) hS.2.2 dX4_share_97
abbrev cX10_assign : ByteArray := prog_1_method_42_code
def yX10_assign : MethodName := ⟨RX10, "assign", "(I)I"⟩
theorem dX10_assign_0 : decode cX10_assign 0 = .ok (.iload_n 1, 1) := by decide +kernel
theorem dX10_assign_1 : decode cX10_assign 1 = .ok (.invokestatic 140, 3) := by decide +kernel
theorem dX10_assign_4 : decode cX10_assign 4 = .ok (.ifCond .ne 6, 3) := by decide +kernel
theorem dX10_assign_10 : decode cX10_assign 10 = .ok (.aload_n 0, 1) := by decide +kernel
theorem dX10_assign_11 : decode cX10_assign 11 = .ok (.getfield 62, 3) := by decide +kernel
theorem dX10_assign_14 : decode cX10_assign 14 = .ok (.iload_n 1, 1) := by decide +kernel
theorem dX10_assign_15 : decode cX10_assign 15 = .ok (.invokevirtual 423, 3) := by decide +kernel
theorem kw_1386 : Cond.methodLink RX10 423 yX4_share ∈ lw_g := lw_at 1386 (by decide +kernel) rfl
theorem kw_1387 : Cond.instanceMethod yX4_share ∈ lw_g := lw_at 1387 (by decide +kernel) rfl
theorem kw_1388 : Cond.selects RX4 yX4_share yX4_share ∈ lw_g := lw_at 1388 (by decide +kernel) rfl
theorem kw_1389 : Cond.code yX4_share cX4_share 8 (some .int) ∈ lw_g := lw_at 1389 (by decide +kernel) rfl
theorem gv_X10_423 : GoodIn lw_g (wsV RX10 423 RX4 yX4_share (.code yX4_share cX4_share 8 (some .int) :: lw_g)) := gi_V kw_1386 kw_1387 kw_1388 kw_9 kw_1389
theorem dX10_assign_18 : decode cX10_assign 18 = .ok (.ireturn, 1) := by decide +kernel
theorem dX10_assign_7 : decode cX10_assign 7 = .ok (.bipush (-3), 2) := by decide +kernel
theorem dX10_assign_9 : decode cX10_assign 9 = .ok (.ireturn, 1) := by decide +kernel
def sp_X10_assign (na : Int32) : Int32 := if (sp_X10_isDay na) = 0 then (-3) else 0
set_option maxHeartbeats 4000000 in
set_option maxRecDepth 100000 in
theorem ct_X10_assign (l : Launch) (dC : Nat → ClassId) (dI : Nat → Nat → Nat) (x0 : Nat) (th : Nat) (se : Nat) (re : Nat) (ax : Nat) (fx : List Value) (fth : List Value) (fse : List Value) (fre : List Value) (kax : ClassId) (gax : Nat → Int32) (hfx_6 : fx[6]? = some (.ref re)) (hfth_12 : fth[12]? = some (.int 0)) (hfse_4 : fse[4]? = some (.int 0)) (hn_fre : fre.length = 5) (hfre_0 : fre[0]? = some (.ref se)) (hfre_1 : fre[1]? = some (.ref th)) (hfre_3 : fre[3]? = some (.int 0)) (hfre_4 : fre[4]? = some (.ref ax)) (sz : Nat) (na : Int32) : Met l yX10_assign (.code yX10_assign cX10_assign 2 (some .int) :: lw_g) ({ frames := 3, cells := 0, slots := 0, locals := 180 }) (ro_P dC dI [(x0, .inr (10, fx)), (th, .inr (8, fth)), (se, .inr (6, fse)), (re, .inr (4, fre)), (ax, .inl (kax, 1, .inl gax))] [(kax, .int)] sz [.ref x0, .int na]) (ri_Q (sp_X10_assign na) (va_A [(x0, .inr (10, fx)), (th, .inr (8, fth)), (se, .inr (6, fse)), (re, .inr (4, fre)), (ax, .inl (kax, 1, .inl gax))] sz)) 0 0 (va_A [(x0, .inr (10, fx)), (th, .inr (8, fth)), (se, .inr (6, fse)), (re, .inr (4, fre)), (ax, .inl (kax, 1, .inl gax))] sz) := by
  refine ro_entry (by decide) (Nat.le_of_ble_eq_true rfl) ?_
  intro p e s m below meth c ls hx hb hr hlocks ht hown hin hml hsz hP hK hD hE hl
  subst hsz
  have hD := hD.self (sz := s.heap.size)
  generalize hAe : va_A [(x0, .inr (10, fx)), (th, .inr (8, fth)), (se, .inr (6, fse)), (re, .inr (4, fre)), (ax, .inl (kax, 1, .inl gax))] s.heap.size = A at hD ⊢
  have hA : ∀ q, s.heap.size ≤ q → A q := fun q h => by rw [← hAe]; exact Or.inr h
  have hS : va_S A s.heap s.heap [] := va_S.rf
  have hl : lv_has ls 2 [(0, .ref x0), (1, .int na)] := hl
  have hown : s.vm.findClass RX10 = some m.cls := hown
  refine lv_iload_n hx hb dX10_assign_0 rfl (lv_at hl 1 rfl) ?_
  refine ro_callS (n := 1) (As := [.int na]) (rest := []) hx hb hml hown ht hK hP hS hA hE (ct_X10_isDay l dC dI  _ na) gv_X10_140 rfl rfl (by decide +kernel) ⟨Nat.le_of_ble_eq_true rfl, Nat.le_of_ble_eq_true rfl⟩ rfl hl.1 (Nat.le_of_ble_eq_true rfl) ⟨Nat.le_of_ble_eq_true rfl, Nat.le_of_ble_eq_true rfl⟩ rfl dX10_assign_1 (fun H locs hP hS => ?_)
  refine lv_if_ne (tgt := 10) hx hb dX10_assign_4 (by decide) (fun c1 => ?_) (fun c1 => ?_)
  · refine lv_aload_n hx hb dX10_assign_10 rfl (lv_at hl 0 rfl) ?_
    refine va_get (D := (dC, dI)) (ci := 10) (v := .ref re) (C := RX10) (T := TX10) (N := 7) hx hb ht inX10 hown hK hP 0 rfl rfl 6 (by decide) (ht _ kw_411) (fun _ h9 => h9) hfx_6 dX10_assign_11 ?_
    refine lv_iload_n hx hb dX10_assign_14 rfl (lv_at hl 1 rfl) ?_
    have hPc := hP.sub (ws' := [(re, .inr (4, fre)), (se, .inr (6, fse)), (th, .inr (8, fth)), (ax, .inl (kax, 1, .inl gax))]) [3, 2, 1, 4] rfl
    have hDc := hD.sub (ws' := [(re, .inr (4, fre)), (se, .inr (6, fse)), (th, .inr (8, fth)), (ax, .inl (kax, 1, .inl gax))]) [3, 2, 1, 4] (by decide) rfl
    have hKc := hK.sub (tys' := [(kax, .int)]) [0] rfl
    have hFc := va_free (wc := [(re, .inr (4, fre)), (se, .inr (6, fse)), (th, .inr (8, fth)), (ax, .inl (kax, 1, .inl gax))]) hD hS hA [3, 2, 1, 4] rfl
    refine va_calli (va_runV (As := [.int na]) (rest := []) ⟨hx, hb, hml, hown, ht⟩ (ct_X4_share l dC dI re se th ax (fre) (fse) (fth) kax gax hn_fre hfre_0 hfre_1 hfre_3 hfre_4 hfse_4 hfth_12 _ na) (cwV 1 ht gv_X10_423 rfl rfl rfl (by decide +kernel) ⟨Nat.le_of_ble_eq_true rfl, Nat.le_of_ble_eq_true rfl⟩) ⟨ro_blind, va_recv hKc hPc (ci := 4) (q0 := 0) rfl rfl, fun U hU hW => ⟨rfl, by rw [hU], by rw [hU]; exact hPc, va_K.moved hW.alike hKc, hDc.weaken (fun _ _ _ _ => trivial), ex_warm hW hE⟩⟩ rfl rfl hl.1 rfl (lv_room (Nat.le_of_ble_eq_true rfl)) dX10_assign_15 ⟨Nat.le_of_ble_eq_true rfl, Nat.le_of_ble_eq_true rfl⟩) hS (fun q _ h => hFc q h) hFc (fun rr u t H1 locs ht1 hvm hw hB hz1 hk1 hS => ?_)
    obtain ⟨g2, hP1, hK1, hD1⟩ := hB
    rw [ht1] at hP1
    obtain ⟨hP, hD⟩ := va_join (wr := [(x0, .inr (10, fx))]) (w1 := [(th, .inr (8, fth)), (se, .inr (6, fse)), (re, .inr (4, (fre.set 3 (.int 0)))), (ax, .inl (kax, 1, .inl g2))]) hP hD [3, 2, 1, 4] [0] rfl rfl (by decide) (by decide) hk1 hFc hP1 hD1
    generalize H1 = H at hP hS ⊢
    have hP : va_P (dC, dI) vwCl [(x0, .inr (10, fx)), (th, .inr (8, fth)), (se, .inr (6, fse)), (re, .inr (4, (fre.set 3 (.int 0)))), (ax, .inl (kax, 1, .inl g2))] H := hP
    have hD : va_D A [(x0, .inr (10, fx)), (th, .inr (8, fth)), (se, .inr (6, fse)), (re, .inr (4, (fre.set 3 (.int 0)))), (ax, .inl (kax, 1, .inl g2))] := hD
    subst hw
    exact W.iret hx hb hr (fun t ht9 hW => ⟨⟨_, (), rfl, (by unfold sp_X10_assign; rw [if_neg c1]), trivial⟩, hS.F ht9⟩) hS.2.2 dX10_assign_18
  · refine lv_bipush (v := (-3)) hx hb dX10_assign_7 (by decide) ?_
    exact W.iret hx hb hr (fun t ht9 hW => ⟨⟨_, (), rfl, (by unfold sp_X10_assign; rw [if_pos c1]), trivial⟩, hS.F ht9⟩) hS.2.2 dX10_assign_9
abbrev cX5_nextToken : ByteArray := prog_7_method_11_code
def yX5_nextToken : MethodName := ⟨RX5, "nextToken", "()V"⟩
theorem dX5_nextToken_0 : decode cX5_nextToken 0 = .ok (.aload_n 0, 1) := by decide +kernel
theorem dX5_nextToken_1 : decode cX5_nextToken 1 = .ok (.getfield 31, 3) := by decide +kernel
theorem kw_50 : Cond.fieldLink RX5 31 "SportsHouse$RuleText" "tokenEnd" "I" ∈ lw_g := lw_at 50 (by decide +kernel) rfl
theorem dX5_nextToken_4 : decode cX5_nextToken 4 = .ok (.istore_n 1, 1) := by decide +kernel
theorem dX5_nextToken_5 : decode cX5_nextToken 5 = .ok (.iload_n 1, 1) := by decide +kernel
theorem dX5_nextToken_6 : decode cX5_nextToken 6 = .ok (.aload_n 0, 1) := by decide +kernel
theorem dX5_nextToken_7 : decode cX5_nextToken 7 = .ok (.getfield 102, 3) := by decide +kernel
theorem kw_38 : Cond.fieldLink RX5 102 "SportsHouse$RuleText" "length" "I" ∈ lw_g := lw_at 38 (by decide +kernel) rfl
theorem dX5_nextToken_10 : decode cX5_nextToken 10 = .ok (.if_icmp .ge 31, 3) := by decide +kernel
theorem dX5_nextToken_41 : decode cX5_nextToken 41 = .ok (.aload_n 0, 1) := by decide +kernel
theorem dX5_nextToken_42 : decode cX5_nextToken 42 = .ok (.iload_n 1, 1) := by decide +kernel
theorem dX5_nextToken_43 : decode cX5_nextToken 43 = .ok (.putfield 84, 3) := by decide +kernel
theorem kw_49 : Cond.fieldLink RX5 84 "SportsHouse$RuleText" "tokenStart" "I" ∈ lw_g := lw_at 49 (by decide +kernel) rfl
theorem dX5_nextToken_46 : decode cX5_nextToken 46 = .ok (.aload_n 0, 1) := by decide +kernel
theorem dX5_nextToken_47 : decode cX5_nextToken 47 = .ok (.iload_n 1, 1) := by decide +kernel
theorem dX5_nextToken_48 : decode cX5_nextToken 48 = .ok (.putfield 31, 3) := by decide +kernel
theorem dX5_nextToken_51 : decode cX5_nextToken 51 = .ok (.iload_n 1, 1) := by decide +kernel
theorem dX5_nextToken_52 : decode cX5_nextToken 52 = .ok (.aload_n 0, 1) := by decide +kernel
theorem dX5_nextToken_53 : decode cX5_nextToken 53 = .ok (.getfield 102, 3) := by decide +kernel
theorem dX5_nextToken_56 : decode cX5_nextToken 56 = .ok (.if_icmp .lt 11, 3) := by decide +kernel
theorem dX5_nextToken_59 : decode cX5_nextToken 59 = .ok (.aload_n 0, 1) := by decide +kernel
theorem dX5_nextToken_60 : decode cX5_nextToken 60 = .ok (.iconst 0, 1) := by decide +kernel
theorem dX5_nextToken_61 : decode cX5_nextToken 61 = .ok (.putfield 46, 3) := by decide +kernel
theorem kw_48 : Cond.fieldLink RX5 46 "SportsHouse$RuleText" "tokenKind" "I" ∈ lw_g := lw_at 48 (by decide +kernel) rfl
theorem dX5_nextToken_64 : decode cX5_nextToken 64 = .ok (.goto 96, 3) := by decide +kernel
theorem dX5_nextToken_160 : decode cX5_nextToken 160 = .ok (.return_, 1) := by decide +kernel
set_option maxHeartbeats 4000000 in
set_option maxRecDepth 100000 in
theorem ct_X5_nextToken (l : Launch) (dC : Nat → ClassId) (dI : Nat → Nat → Nat) (rt : Nat) (frt : List Value) (hn_frt : frt.length = 10) (hfrt_1 : frt[1]? = some (.int 0)) (hfrt_9 : frt[9]? = some (.int 0)) (sz : Nat)  : Met l yX5_nextToken (.code yX5_nextToken cX5_nextToken 2 none :: lw_g) ({ frames := 1, cells := 0, slots := 0, locals := 60 }) (ro_P dC dI [(rt, .inr (5, frt))] [] sz [.ref rt]) (va_Qv (fun (_ : Unit) => True) (fun _ t => va_P (dC, dI) vwCl [(rt, .inr (5, (((frt.set 8 (.int 0)).set 9 (.int 0)).set 7 (.int 0))))] t.heap ∧ va_K (dC, dI) vwCl [] t ∧ va_D (va_A [(rt, .inr (5, frt))] sz) [(rt, .inr (5, (((frt.set 8 (.int 0)).set 9 (.int 0)).set 7 (.int 0))))]) (va_A [(rt, .inr (5, frt))] sz)) 0 0 (va_A [(rt, .inr (5, frt))] sz) := by
  refine ro_entry (by decide) (Nat.le_of_ble_eq_true rfl) ?_
  intro p e s m below meth c ls hx hb hr hlocks ht hown hin hml hsz hP hK hD hE hl
  subst hsz
  have hD := hD.self (sz := s.heap.size)
  generalize hAe : va_A [(rt, .inr (5, frt))] s.heap.size = A at hD ⊢
  have hA : ∀ q, s.heap.size ≤ q → A q := fun q h => by rw [← hAe]; exact Or.inr h
  have hS : va_S A s.heap s.heap [] := va_S.rf
  have hl : lv_has ls 2 [(0, .ref rt)] := hl
  have hown : s.vm.findClass RX5 = some m.cls := hown
  refine lv_aload_n hx hb dX5_nextToken_0 rfl (lv_at hl 0 rfl) ?_
  refine va_get (D := (dC, dI)) (ci := 5) (v := .int 0) (C := RX5) (T := TX5) (N := 10) hx hb ht inX5 hown hK hP 0 rfl rfl 9 (by decide) (ht _ kw_50) (fun _ h9 => h9) hfrt_9 dX5_nextToken_1 ?_
  refine lv_istore_n (lv' := [(1, .int 0), (0, .ref rt)]) hx hb dX5_nextToken_4 rfl hl (by decide) rfl (fun ls hl => ?_)
  refine lv_iload_n hx hb dX5_nextToken_5 rfl (lv_at hl 0 rfl) ?_
  refine lv_aload_n hx hb dX5_nextToken_6 rfl (lv_at hl 1 rfl) ?_
  refine va_get (D := (dC, dI)) (ci := 5) (v := .int 0) (C := RX5) (T := TX5) (N := 10) hx hb ht inX5 hown hK hP 0 rfl rfl 1 (by decide) (ht _ kw_38) (fun _ h9 => h9) hfrt_1 dX5_nextToken_7 ?_
  refine lv_icmp_ge (tgt := 41) hx hb dX5_nextToken_10 (by decide) (fun c1 => ?_) (fun c1 => ?_)
  rotate_left
  · exact absurd (by decide) c1
  refine lv_aload_n hx hb dX5_nextToken_41 rfl (lv_at hl 1 rfl) ?_
  refine lv_iload_n hx hb dX5_nextToken_42 rfl (lv_at hl 0 rfl) ?_
  refine va_put (D := (dC, dI)) (ci := 5) (v := .int 0) (ty := .int) (C := RX5) (T := TX5) (N := 10) hx hb ht inX5 tyX5 tyX5_ok nmX5 hown hK hP hD hS 0 rfl rfl 8 (by decide) (ht _ kw_49) (fun _ h9 => h9) rfl (by decide +kernel) rfl rfl (gs_lt hn_frt (by decide)) dX5_nextToken_43 (fun H locs hP hD hS => ?_)
  have hP : va_P (dC, dI) vwCl [(rt, .inr (5, (frt.set 8 (.int 0))))] H := hP
  have hD : va_D A [(rt, .inr (5, (frt.set 8 (.int 0))))] := hD
  refine lv_aload_n hx hb dX5_nextToken_46 rfl (lv_at hl 1 rfl) ?_
  refine lv_iload_n hx hb dX5_nextToken_47 rfl (lv_at hl 0 rfl) ?_
  refine va_put (D := (dC, dI)) (ci := 5) (v := .int 0) (ty := .int) (C := RX5) (T := TX5) (N := 10) hx hb ht inX5 tyX5 tyX5_ok nmX5 hown hK hP hD hS 0 rfl rfl 9 (by decide) (ht _ kw_50) (fun _ h9 => h9) rfl (by decide +kernel) rfl rfl (gs_lt (gs_len hn_frt) (by decide)) dX5_nextToken_48 (fun H locs hP hD hS => ?_)
  have hP : va_P (dC, dI) vwCl [(rt, .inr (5, ((frt.set 8 (.int 0)).set 9 (.int 0))))] H := hP
  have hD : va_D A [(rt, .inr (5, ((frt.set 8 (.int 0)).set 9 (.int 0))))] := hD
  refine lv_iload_n hx hb dX5_nextToken_51 rfl (lv_at hl 0 rfl) ?_
  refine lv_aload_n hx hb dX5_nextToken_52 rfl (lv_at hl 1 rfl) ?_
  refine va_get (D := (dC, dI)) (ci := 5) (v := .int 0) (C := RX5) (T := TX5) (N := 10) hx hb ht inX5 hown hK hP 0 rfl rfl 1 (by decide) (ht _ kw_38) (fun _ h9 => h9) (gs_ne (by decide) (gs_ne (by decide) hfrt_1)) dX5_nextToken_53 ?_
  refine lv_icmp_lt (tgt := 67) hx hb dX5_nextToken_56 (by decide) (fun c2 => ?_) (fun c2 => ?_)
  · exact absurd c2 (by decide)
  refine lv_aload_n hx hb dX5_nextToken_59 rfl (lv_at hl 1 rfl) ?_
  refine lv_iconst (v := 0) hx hb dX5_nextToken_60 (by decide) ?_
  refine va_put (D := (dC, dI)) (ci := 5) (v := .int 0) (ty := .int) (C := RX5) (T := TX5) (N := 10) hx hb ht inX5 tyX5 tyX5_ok nmX5 hown hK hP hD hS 0 rfl rfl 7 (by decide) (ht _ kw_48) (fun _ h9 => h9) rfl (by decide +kernel) rfl rfl (gs_lt (gs_len (gs_len hn_frt)) (by decide)) dX5_nextToken_61 (fun H locs hP hD hS => ?_)
  have hP : va_P (dC, dI) vwCl [(rt, .inr (5, (((frt.set 8 (.int 0)).set 9 (.int 0)).set 7 (.int 0))))] H := hP
  have hD : va_D A [(rt, .inr (5, (((frt.set 8 (.int 0)).set 9 (.int 0)).set 7 (.int 0))))] := hD
  refine lv_goto (tgt := 160) hx hb dX5_nextToken_64 (by decide) ?_
  exact W.vret hx hb hr (fun t ht9 hW => ⟨⟨(), rfl, trivial, by rw [ht9]; exact hP, va_K.moved hW.alike hK, hD⟩, hS.F ht9⟩) hS.2.2 dX5_nextToken_160
abbrev cX5_read : ByteArray := prog_7_method_2_code
def yX5_read : MethodName := ⟨RX5, "read", "()Z"⟩
theorem dX5_read_0 : decode cX5_read 0 = .ok (.aload_n 0, 1) := by decide +kernel
theorem dX5_read_1 : decode cX5_read 1 = .ok (.iconst 0, 1) := by decide +kernel
theorem dX5_read_2 : decode cX5_read 2 = .ok (.putfield 25, 3) := by decide +kernel
theorem kw_39 : Cond.fieldLink RX5 25 "SportsHouse$RuleText" "faultKind" "I" ∈ lw_g := lw_at 39 (by decide +kernel) rfl
theorem dX5_read_5 : decode cX5_read 5 = .ok (.aload_n 0, 1) := by decide +kernel
theorem dX5_read_6 : decode cX5_read 6 = .ok (.iconst (-1), 1) := by decide +kernel
theorem dX5_read_7 : decode cX5_read 7 = .ok (.putfield 15, 3) := by decide +kernel
theorem dX5_read_10 : decode cX5_read 10 = .ok (.aload_n 0, 1) := by decide +kernel
theorem dX5_read_11 : decode cX5_read 11 = .ok (.iconst 0, 1) := by decide +kernel
theorem dX5_read_12 : decode cX5_read 12 = .ok (.putfield 28, 3) := by decide +kernel
theorem kw_47 : Cond.fieldLink RX5 28 "SportsHouse$RuleText" "toldBits" "I" ∈ lw_g := lw_at 47 (by decide +kernel) rfl
theorem dX5_read_15 : decode cX5_read 15 = .ok (.aload_n 0, 1) := by decide +kernel
theorem dX5_read_16 : decode cX5_read 16 = .ok (.iconst 0, 1) := by decide +kernel
theorem dX5_read_17 : decode cX5_read 17 = .ok (.putfield 31, 3) := by decide +kernel
theorem dX5_read_20 : decode cX5_read 20 = .ok (.iconst 0, 1) := by decide +kernel
theorem dX5_read_21 : decode cX5_read 21 = .ok (.istore_n 1, 1) := by decide +kernel
theorem dX5_read_22 : decode cX5_read 22 = .ok (.iload_n 1, 1) := by decide +kernel
theorem dX5_read_23 : decode cX5_read 23 = .ok (.bipush 16, 2) := by decide +kernel
theorem dX5_read_25 : decode cX5_read 25 = .ok (.if_icmp .ge 20, 3) := by decide +kernel
theorem dX5_read_28 : decode cX5_read 28 = .ok (.aload_n 0, 1) := by decide +kernel
theorem dX5_read_29 : decode cX5_read 29 = .ok (.getfield 19, 3) := by decide +kernel
theorem dX5_read_32 : decode cX5_read 32 = .ok (.iload_n 1, 1) := by decide +kernel
theorem dX5_read_33 : decode cX5_read 33 = .ok (.getstatic 34, 3) := by decide +kernel
theorem kw_443 : Cond.fieldLink RX5 34 "SportsHouse$RuleText" "AT_FIRST" "[I" ∈ lw_g := lw_at 443 (by decide +kernel) rfl
theorem dX5_read_36 : decode cX5_read 36 = .ok (.iload_n 1, 1) := by decide +kernel
theorem dX5_read_37 : decode cX5_read 37 = .ok (.iaload, 1) := by decide +kernel
theorem dX5_read_38 : decode cX5_read 38 = .ok (.iastore, 1) := by decide +kernel
theorem dX5_read_39 : decode cX5_read 39 = .ok (.iinc 1 1, 3) := by decide +kernel
theorem dX5_read_42 : decode cX5_read 42 = .ok (.goto (-20), 3) := by decide +kernel
theorem dX5_read_45 : decode cX5_read 45 = .ok (.aload_n 0, 1) := by decide +kernel
theorem dX5_read_46 : decode cX5_read 46 = .ok (.getfield 22, 3) := by decide +kernel
theorem dX5_read_49 : decode cX5_read 49 = .ok (.iconst (-1), 1) := by decide +kernel
theorem dX5_read_50 : decode cX5_read 50 = .ok (.invokestatic 37, 3) := by decide +kernel
theorem kw_445 : Cond.methodLink RX5 37 yJ7_fill_53178 ∈ lw_g := lw_at 445 (by decide +kernel) rfl
theorem gv_X5_37 : GoodIn lw_g (va_wsS RX5 37 yJ7_fill_53178 (.code yJ7_fill_53178 cJ7_fill_53178 4 none :: lw_g)) := gi_S kw_445 kw_266 kw_7 kw_267
theorem dX5_read_53 : decode cX5_read 53 = .ok (.aload_n 0, 1) := by decide +kernel
theorem dX5_read_54 : decode cX5_read 54 = .ok (.getfield 22, 3) := by decide +kernel
theorem dX5_read_57 : decode cX5_read 57 = .ok (.iconst 0, 1) := by decide +kernel
theorem dX5_read_58 : decode cX5_read 58 = .ok (.iconst 0, 1) := by decide +kernel
theorem dX5_read_59 : decode cX5_read 59 = .ok (.iastore, 1) := by decide +kernel
theorem dX5_read_60 : decode cX5_read 60 = .ok (.aload_n 0, 1) := by decide +kernel
theorem dX5_read_61 : decode cX5_read 61 = .ok (.getfield 22, 3) := by decide +kernel
theorem dX5_read_64 : decode cX5_read 64 = .ok (.iconst 1, 1) := by decide +kernel
theorem dX5_read_65 : decode cX5_read 65 = .ok (.iconst 1, 1) := by decide +kernel
theorem dX5_read_66 : decode cX5_read 66 = .ok (.iastore, 1) := by decide +kernel
theorem dX5_read_67 : decode cX5_read 67 = .ok (.aload_n 0, 1) := by decide +kernel
theorem dX5_read_68 : decode cX5_read 68 = .ok (.invokevirtual 43, 3) := by decide +kernel
theorem kw_446 : Cond.methodLink RX5 43 yX5_nextToken ∈ lw_g := lw_at 446 (by decide +kernel) rfl
theorem kw_448 : Cond.instanceMethod yX5_nextToken ∈ lw_g := lw_at 448 (by decide +kernel) rfl
theorem ks_X5_nextToken : Cond.selects RX5 yX5_nextToken yX5_nextToken ∈ lw_g := lw_sel 4 rfl
theorem kw_449 : Cond.code yX5_nextToken cX5_nextToken 2 none ∈ lw_g := lw_at 449 (by decide +kernel) rfl
theorem gv_X5_43 : GoodIn lw_g (wsV RX5 43 RX5 yX5_nextToken (.code yX5_nextToken cX5_nextToken 2 none :: lw_g)) := gi_V kw_446 kw_448 ks_X5_nextToken kw_2 kw_449
theorem dX5_read_71 : decode cX5_read 71 = .ok (.iconst 0, 1) := by decide +kernel
theorem dX5_read_72 : decode cX5_read 72 = .ok (.istore_n 1, 1) := by decide +kernel
theorem dX5_read_73 : decode cX5_read 73 = .ok (.aload_n 0, 1) := by decide +kernel
theorem dX5_read_74 : decode cX5_read 74 = .ok (.getfield 46, 3) := by decide +kernel
theorem dX5_read_77 : decode cX5_read 77 = .ok (.ifCond .eq 29, 3) := by decide +kernel
theorem dX5_read_106 : decode cX5_read 106 = .ok (.iconst 1, 1) := by decide +kernel
theorem dX5_read_107 : decode cX5_read 107 = .ok (.ireturn, 1) := by decide +kernel
set_option maxHeartbeats 4000000 in
set_option maxRecDepth 100000 in
theorem ct_X5_read (l : Launch) (dC : Nat → ClassId) (dI : Nat → Nat → Nat) (rt : Nat) (av : Nat) (ak : Nat) (frt : List Value) (kav : ClassId) (gav : Nat → Int32) (kak : ClassId) (gak : Nat → Int32) (hn_frt : frt.length = 10) (hfrt_1 : frt[1]? = some (.int 0)) (hfrt_4 : frt[4]? = some (.ref av)) (hfrt_5 : frt[5]? = some (.ref ak)) (hfrt_7 : frt[7]? = some (.int 0)) (hfrt_9 : frt[9]? = some (.int 0)) (sz : Nat)  : Met l yX5_read (.code yX5_read cX5_read 2 (some .boolean) :: lw_g) ({ frames := 2, cells := 0, slots := 0, locals := 120 }) (ra_P dC dI [(rt, .inr (5, frt)), (av, .inl (kav, 16, .inl gav)), (ak, .inl (kak, 7, .inl gak))] [(kav, .int), (kak, .int)] sz [.ref rt]) (va_Qi (fun (r : Int32) (_ : Unit) => r = 1) (fun _ t => ∃ (g48 : Nat → Int32) (g52 : Nat → Int32), va_P (dC, dI) vwCl [(av, .inl (kav, 16, .inl g48)), (ak, .inl (kak, 7, .inl g52)), (rt, .inr (5, (((((((frt.set 2 (.int 0)).set 3 (.int (-1))).set 6 (.int 0)).set 9 (.int 0)).set 8 (.int 0)).set 9 (.int 0)).set 7 (.int 0))))] t.heap ∧ va_K (dC, dI) vwCl [(kav, .int), (kak, .int)] t ∧ va_D (va_A [(rt, .inr (5, frt)), (av, .inl (kav, 16, .inl gav)), (ak, .inl (kak, 7, .inl gak))] sz) [(av, .inl (kav, 16, .inl g48)), (ak, .inl (kak, 7, .inl g52)), (rt, .inr (5, (((((((frt.set 2 (.int 0)).set 3 (.int (-1))).set 6 (.int 0)).set 9 (.int 0)).set 8 (.int 0)).set 9 (.int 0)).set 7 (.int 0))))]) (va_A [(rt, .inr (5, frt)), (av, .inl (kav, 16, .inl gav)), (ak, .inl (kak, 7, .inl gak))] sz)) 0 0 (va_A [(rt, .inr (5, frt)), (av, .inl (kav, 16, .inl gav)), (ak, .inl (kak, 7, .inl gak))] sz) := by
  refine ra_entry (by decide) (Nat.le_of_ble_eq_true rfl) ?_
  intro p e s m below meth c ls hx hb hr hlocks ht hown hin hml hsz hP hK hD hE hEa hl
  subst hsz
  have hD := hD.self (sz := s.heap.size)
  generalize hAe : va_A [(rt, .inr (5, frt)), (av, .inl (kav, 16, .inl gav)), (ak, .inl (kak, 7, .inl gak))] s.heap.size = A at hD hEa ⊢
  obtain ⟨af, xf, hZf, hTf⟩ := id hEa
  have hA : ∀ q, s.heap.size ≤ q → A q := fun q h => by rw [← hAe]; exact Or.inr h
  have hS : va_S A s.heap s.heap [] := va_S.rf
  have hl : lv_has ls 2 [(0, .ref rt)] := hl
  have hown : s.vm.findClass RX5 = some m.cls := hown
  refine lv_aload_n hx hb dX5_read_0 rfl (lv_at hl 0 rfl) ?_
  refine lv_iconst (v := 0) hx hb dX5_read_1 (by decide) ?_
  refine va_put (D := (dC, dI)) (ci := 5) (v := .int 0) (ty := .int) (C := RX5) (T := TX5) (N := 10) hx hb ht inX5 tyX5 tyX5_ok nmX5 hown hK hP hD hS 0 rfl rfl 2 (by decide) (ht _ kw_39) (fun _ h9 => h9) rfl (by decide +kernel) rfl rfl (gs_lt hn_frt (by decide)) dX5_read_2 (fun H locs hP hD hS => ?_)
  have hP : va_P (dC, dI) vwCl [(rt, .inr (5, (frt.set 2 (.int 0)))), (av, .inl (kav, 16, .inl gav)), (ak, .inl (kak, 7, .inl gak))] H := hP
  have hD : va_D A [(rt, .inr (5, (frt.set 2 (.int 0)))), (av, .inl (kav, 16, .inl gav)), (ak, .inl (kak, 7, .inl gak))] := hD
  refine lv_aload_n hx hb dX5_read_5 rfl (lv_at hl 0 rfl) ?_
  refine lv_iconst (v := (-1)) hx hb dX5_read_6 (by decide) ?_
  refine va_put (D := (dC, dI)) (ci := 5) (v := .int (-1)) (ty := .int) (C := RX5) (T := TX5) (N := 10) hx hb ht inX5 tyX5 tyX5_ok nmX5 hown hK hP hD hS 0 rfl rfl 3 (by decide) (ht _ kw_41) (fun _ h9 => h9) rfl (by decide +kernel) rfl rfl (gs_lt (gs_len hn_frt) (by decide)) dX5_read_7 (fun H locs hP hD hS => ?_)
  have hP : va_P (dC, dI) vwCl [(rt, .inr (5, ((frt.set 2 (.int 0)).set 3 (.int (-1))))), (av, .inl (kav, 16, .inl gav)), (ak, .inl (kak, 7, .inl gak))] H := hP
  have hD : va_D A [(rt, .inr (5, ((frt.set 2 (.int 0)).set 3 (.int (-1))))), (av, .inl (kav, 16, .inl gav)), (ak, .inl (kak, 7, .inl gak))] := hD
  refine lv_aload_n hx hb dX5_read_10 rfl (lv_at hl 0 rfl) ?_
  refine lv_iconst (v := 0) hx hb dX5_read_11 (by decide) ?_
  refine va_put (D := (dC, dI)) (ci := 5) (v := .int 0) (ty := .int) (C := RX5) (T := TX5) (N := 10) hx hb ht inX5 tyX5 tyX5_ok nmX5 hown hK hP hD hS 0 rfl rfl 6 (by decide) (ht _ kw_47) (fun _ h9 => h9) rfl (by decide +kernel) rfl rfl (gs_lt (gs_len (gs_len hn_frt)) (by decide)) dX5_read_12 (fun H locs hP hD hS => ?_)
  have hP : va_P (dC, dI) vwCl [(rt, .inr (5, (((frt.set 2 (.int 0)).set 3 (.int (-1))).set 6 (.int 0)))), (av, .inl (kav, 16, .inl gav)), (ak, .inl (kak, 7, .inl gak))] H := hP
  have hD : va_D A [(rt, .inr (5, (((frt.set 2 (.int 0)).set 3 (.int (-1))).set 6 (.int 0)))), (av, .inl (kav, 16, .inl gav)), (ak, .inl (kak, 7, .inl gak))] := hD
  refine lv_aload_n hx hb dX5_read_15 rfl (lv_at hl 0 rfl) ?_
  refine lv_iconst (v := 0) hx hb dX5_read_16 (by decide) ?_
  refine va_put (D := (dC, dI)) (ci := 5) (v := .int 0) (ty := .int) (C := RX5) (T := TX5) (N := 10) hx hb ht inX5 tyX5 tyX5_ok nmX5 hown hK hP hD hS 0 rfl rfl 9 (by decide) (ht _ kw_50) (fun _ h9 => h9) rfl (by decide +kernel) rfl rfl (gs_lt (gs_len (gs_len (gs_len hn_frt))) (by decide)) dX5_read_17 (fun H locs hP hD hS => ?_)
  have hP : va_P (dC, dI) vwCl [(rt, .inr (5, ((((frt.set 2 (.int 0)).set 3 (.int (-1))).set 6 (.int 0)).set 9 (.int 0)))), (av, .inl (kav, 16, .inl gav)), (ak, .inl (kak, 7, .inl gak))] H := hP
  have hD : va_D A [(rt, .inr (5, ((((frt.set 2 (.int 0)).set 3 (.int (-1))).set 6 (.int 0)).set 9 (.int 0)))), (av, .inl (kav, 16, .inl gav)), (ak, .inl (kak, 7, .inl gak))] := hD
  refine lv_iconst (v := 0) hx hb dX5_read_20 (by decide) ?_
  refine lv_istore_n (lv' := [(1, .int 0), (0, .ref rt)]) hx hb dX5_read_21 rfl hl (by decide) rfl (fun ls hl => ?_)
  refine lv_iload_n hx hb dX5_read_22 rfl (lv_at hl 0 rfl) ?_
  refine lv_bipush (v := 16) hx hb dX5_read_23 (by decide) ?_
  refine lv_icmp_ge (tgt := 45) hx hb dX5_read_25 (by decide) (fun c1 => ?_) (fun c1 => ?_)
  · exact absurd c1 (by decide)
  refine lv_aload_n hx hb dX5_read_28 rfl (lv_at hl 1 rfl) ?_
  refine va_get (D := (dC, dI)) (ci := 5) (v := .ref av) (C := RX5) (T := TX5) (N := 10) hx hb ht inX5 hown hK hP 0 rfl rfl 4 (by decide) (ht _ kw_43) (fun _ h9 => h9) (gs_ne (by decide) (gs_ne (by decide) (gs_ne (by decide) (gs_ne (by decide) hfrt_4)))) dX5_read_29 ?_
  refine lv_iload_n hx hb dX5_read_32 rfl (lv_at hl 0 rfl) ?_
  refine va_gets hx hb hZf hS hown (ht _ kw_443) (fun _ h9 => h9) dX5_read_33 ?_
  refine lv_iload_n hx hb dX5_read_36 rfl (lv_at hl 0 rfl) ?_
  refine va_ti (v := .int (xf (0 : Int32).toNatClampNeg)) hx hb hTf hS (by unfold vp_in; decide) rfl dX5_read_37 ?_
  refine lv_topi (fun r2 er2 => ?_)
  refine va_iast hx hb hK hP hD hS 1 0 rfl rfl (by unfold vp_in; decide) dX5_read_38 (fun H locs hP hD hS => ?_)
  generalize upd gav (0 : Int32).toNatClampNeg r2 = g3 at hP hD
  have hP : va_P (dC, dI) vwCl [(rt, .inr (5, ((((frt.set 2 (.int 0)).set 3 (.int (-1))).set 6 (.int 0)).set 9 (.int 0)))), (av, .inl (kav, 16, .inl g3)), (ak, .inl (kak, 7, .inl gak))] H := hP
  have hD : va_D A [(rt, .inr (5, ((((frt.set 2 (.int 0)).set 3 (.int (-1))).set 6 (.int 0)).set 9 (.int 0)))), (av, .inl (kav, 16, .inl g3)), (ak, .inl (kak, 7, .inl gak))] := hD
  refine lv_iinc (v := 1) (lv' := [(1, .int 1), (0, .ref rt)]) hx hb dX5_read_39 hl (k := 0) rfl (by decide) (by decide) rfl (fun ls hl => ?_)
  refine lv_goto (tgt := 22) hx hb dX5_read_42 (by decide) ?_
  refine lv_iload_n hx hb dX5_read_22 rfl (lv_at hl 0 rfl) ?_
  refine lv_bipush (v := 16) hx hb dX5_read_23 (by decide) ?_
  refine lv_icmp_ge (tgt := 45) hx hb dX5_read_25 (by decide) (fun c4 => ?_) (fun c4 => ?_)
  · exact absurd c4 (by decide)
  refine lv_aload_n hx hb dX5_read_28 rfl (lv_at hl 1 rfl) ?_
  refine va_get (D := (dC, dI)) (ci := 5) (v := .ref av) (C := RX5) (T := TX5) (N := 10) hx hb ht inX5 hown hK hP 0 rfl rfl 4 (by decide) (ht _ kw_43) (fun _ h9 => h9) (gs_ne (by decide) (gs_ne (by decide) (gs_ne (by decide) (gs_ne (by decide) hfrt_4)))) dX5_read_29 ?_
  refine lv_iload_n hx hb dX5_read_32 rfl (lv_at hl 0 rfl) ?_
  refine va_gets hx hb hZf hS hown (ht _ kw_443) (fun _ h9 => h9) dX5_read_33 ?_
  refine lv_iload_n hx hb dX5_read_36 rfl (lv_at hl 0 rfl) ?_
  refine va_ti (v := .int (xf (1 : Int32).toNatClampNeg)) hx hb hTf hS (by unfold vp_in; decide) rfl dX5_read_37 ?_
  refine lv_topi (fun r5 er5 => ?_)
  refine va_iast hx hb hK hP hD hS 1 0 rfl rfl (by unfold vp_in; decide) dX5_read_38 (fun H locs hP hD hS => ?_)
  generalize upd g3 (1 : Int32).toNatClampNeg r5 = g6 at hP hD
  have hP : va_P (dC, dI) vwCl [(rt, .inr (5, ((((frt.set 2 (.int 0)).set 3 (.int (-1))).set 6 (.int 0)).set 9 (.int 0)))), (av, .inl (kav, 16, .inl g6)), (ak, .inl (kak, 7, .inl gak))] H := hP
  have hD : va_D A [(rt, .inr (5, ((((frt.set 2 (.int 0)).set 3 (.int (-1))).set 6 (.int 0)).set 9 (.int 0)))), (av, .inl (kav, 16, .inl g6)), (ak, .inl (kak, 7, .inl gak))] := hD
  refine lv_iinc (v := 2) (lv' := [(1, .int 2), (0, .ref rt)]) hx hb dX5_read_39 hl (k := 0) rfl (by decide) (by decide) rfl (fun ls hl => ?_)
  refine lv_goto (tgt := 22) hx hb dX5_read_42 (by decide) ?_
  refine lv_iload_n hx hb dX5_read_22 rfl (lv_at hl 0 rfl) ?_
  refine lv_bipush (v := 16) hx hb dX5_read_23 (by decide) ?_
  refine lv_icmp_ge (tgt := 45) hx hb dX5_read_25 (by decide) (fun c7 => ?_) (fun c7 => ?_)
  · exact absurd c7 (by decide)
  refine lv_aload_n hx hb dX5_read_28 rfl (lv_at hl 1 rfl) ?_
  refine va_get (D := (dC, dI)) (ci := 5) (v := .ref av) (C := RX5) (T := TX5) (N := 10) hx hb ht inX5 hown hK hP 0 rfl rfl 4 (by decide) (ht _ kw_43) (fun _ h9 => h9) (gs_ne (by decide) (gs_ne (by decide) (gs_ne (by decide) (gs_ne (by decide) hfrt_4)))) dX5_read_29 ?_
  refine lv_iload_n hx hb dX5_read_32 rfl (lv_at hl 0 rfl) ?_
  refine va_gets hx hb hZf hS hown (ht _ kw_443) (fun _ h9 => h9) dX5_read_33 ?_
  refine lv_iload_n hx hb dX5_read_36 rfl (lv_at hl 0 rfl) ?_
  refine va_ti (v := .int (xf (2 : Int32).toNatClampNeg)) hx hb hTf hS (by unfold vp_in; decide) rfl dX5_read_37 ?_
  refine lv_topi (fun r8 er8 => ?_)
  refine va_iast hx hb hK hP hD hS 1 0 rfl rfl (by unfold vp_in; decide) dX5_read_38 (fun H locs hP hD hS => ?_)
  generalize upd g6 (2 : Int32).toNatClampNeg r8 = g9 at hP hD
  have hP : va_P (dC, dI) vwCl [(rt, .inr (5, ((((frt.set 2 (.int 0)).set 3 (.int (-1))).set 6 (.int 0)).set 9 (.int 0)))), (av, .inl (kav, 16, .inl g9)), (ak, .inl (kak, 7, .inl gak))] H := hP
  have hD : va_D A [(rt, .inr (5, ((((frt.set 2 (.int 0)).set 3 (.int (-1))).set 6 (.int 0)).set 9 (.int 0)))), (av, .inl (kav, 16, .inl g9)), (ak, .inl (kak, 7, .inl gak))] := hD
  refine lv_iinc (v := 3) (lv' := [(1, .int 3), (0, .ref rt)]) hx hb dX5_read_39 hl (k := 0) rfl (by decide) (by decide) rfl (fun ls hl => ?_)
  refine lv_goto (tgt := 22) hx hb dX5_read_42 (by decide) ?_
  refine lv_iload_n hx hb dX5_read_22 rfl (lv_at hl 0 rfl) ?_
  refine lv_bipush (v := 16) hx hb dX5_read_23 (by decide) ?_
  refine lv_icmp_ge (tgt := 45) hx hb dX5_read_25 (by decide) (fun c10 => ?_) (fun c10 => ?_)
  · exact absurd c10 (by decide)
  refine lv_aload_n hx hb dX5_read_28 rfl (lv_at hl 1 rfl) ?_
  refine va_get (D := (dC, dI)) (ci := 5) (v := .ref av) (C := RX5) (T := TX5) (N := 10) hx hb ht inX5 hown hK hP 0 rfl rfl 4 (by decide) (ht _ kw_43) (fun _ h9 => h9) (gs_ne (by decide) (gs_ne (by decide) (gs_ne (by decide) (gs_ne (by decide) hfrt_4)))) dX5_read_29 ?_
  refine lv_iload_n hx hb dX5_read_32 rfl (lv_at hl 0 rfl) ?_
  refine va_gets hx hb hZf hS hown (ht _ kw_443) (fun _ h9 => h9) dX5_read_33 ?_
  refine lv_iload_n hx hb dX5_read_36 rfl (lv_at hl 0 rfl) ?_
  refine va_ti (v := .int (xf (3 : Int32).toNatClampNeg)) hx hb hTf hS (by unfold vp_in; decide) rfl dX5_read_37 ?_
  refine lv_topi (fun r11 er11 => ?_)
  refine va_iast hx hb hK hP hD hS 1 0 rfl rfl (by unfold vp_in; decide) dX5_read_38 (fun H locs hP hD hS => ?_)
  generalize upd g9 (3 : Int32).toNatClampNeg r11 = g12 at hP hD
  have hP : va_P (dC, dI) vwCl [(rt, .inr (5, ((((frt.set 2 (.int 0)).set 3 (.int (-1))).set 6 (.int 0)).set 9 (.int 0)))), (av, .inl (kav, 16, .inl g12)), (ak, .inl (kak, 7, .inl gak))] H := hP
  have hD : va_D A [(rt, .inr (5, ((((frt.set 2 (.int 0)).set 3 (.int (-1))).set 6 (.int 0)).set 9 (.int 0)))), (av, .inl (kav, 16, .inl g12)), (ak, .inl (kak, 7, .inl gak))] := hD
  refine lv_iinc (v := 4) (lv' := [(1, .int 4), (0, .ref rt)]) hx hb dX5_read_39 hl (k := 0) rfl (by decide) (by decide) rfl (fun ls hl => ?_)
  refine lv_goto (tgt := 22) hx hb dX5_read_42 (by decide) ?_
  refine lv_iload_n hx hb dX5_read_22 rfl (lv_at hl 0 rfl) ?_
  refine lv_bipush (v := 16) hx hb dX5_read_23 (by decide) ?_
  refine lv_icmp_ge (tgt := 45) hx hb dX5_read_25 (by decide) (fun c13 => ?_) (fun c13 => ?_)
  · exact absurd c13 (by decide)
  refine lv_aload_n hx hb dX5_read_28 rfl (lv_at hl 1 rfl) ?_
  refine va_get (D := (dC, dI)) (ci := 5) (v := .ref av) (C := RX5) (T := TX5) (N := 10) hx hb ht inX5 hown hK hP 0 rfl rfl 4 (by decide) (ht _ kw_43) (fun _ h9 => h9) (gs_ne (by decide) (gs_ne (by decide) (gs_ne (by decide) (gs_ne (by decide) hfrt_4)))) dX5_read_29 ?_
  refine lv_iload_n hx hb dX5_read_32 rfl (lv_at hl 0 rfl) ?_
  refine va_gets hx hb hZf hS hown (ht _ kw_443) (fun _ h9 => h9) dX5_read_33 ?_
  refine lv_iload_n hx hb dX5_read_36 rfl (lv_at hl 0 rfl) ?_
  refine va_ti (v := .int (xf (4 : Int32).toNatClampNeg)) hx hb hTf hS (by unfold vp_in; decide) rfl dX5_read_37 ?_
  refine lv_topi (fun r14 er14 => ?_)
  refine va_iast hx hb hK hP hD hS 1 0 rfl rfl (by unfold vp_in; decide) dX5_read_38 (fun H locs hP hD hS => ?_)
  generalize upd g12 (4 : Int32).toNatClampNeg r14 = g15 at hP hD
  have hP : va_P (dC, dI) vwCl [(rt, .inr (5, ((((frt.set 2 (.int 0)).set 3 (.int (-1))).set 6 (.int 0)).set 9 (.int 0)))), (av, .inl (kav, 16, .inl g15)), (ak, .inl (kak, 7, .inl gak))] H := hP
  have hD : va_D A [(rt, .inr (5, ((((frt.set 2 (.int 0)).set 3 (.int (-1))).set 6 (.int 0)).set 9 (.int 0)))), (av, .inl (kav, 16, .inl g15)), (ak, .inl (kak, 7, .inl gak))] := hD
  refine lv_iinc (v := 5) (lv' := [(1, .int 5), (0, .ref rt)]) hx hb dX5_read_39 hl (k := 0) rfl (by decide) (by decide) rfl (fun ls hl => ?_)
  refine lv_goto (tgt := 22) hx hb dX5_read_42 (by decide) ?_
  refine lv_iload_n hx hb dX5_read_22 rfl (lv_at hl 0 rfl) ?_
  refine lv_bipush (v := 16) hx hb dX5_read_23 (by decide) ?_
  refine lv_icmp_ge (tgt := 45) hx hb dX5_read_25 (by decide) (fun c16 => ?_) (fun c16 => ?_)
  · exact absurd c16 (by decide)
  refine lv_aload_n hx hb dX5_read_28 rfl (lv_at hl 1 rfl) ?_
  refine va_get (D := (dC, dI)) (ci := 5) (v := .ref av) (C := RX5) (T := TX5) (N := 10) hx hb ht inX5 hown hK hP 0 rfl rfl 4 (by decide) (ht _ kw_43) (fun _ h9 => h9) (gs_ne (by decide) (gs_ne (by decide) (gs_ne (by decide) (gs_ne (by decide) hfrt_4)))) dX5_read_29 ?_
  refine lv_iload_n hx hb dX5_read_32 rfl (lv_at hl 0 rfl) ?_
  refine va_gets hx hb hZf hS hown (ht _ kw_443) (fun _ h9 => h9) dX5_read_33 ?_
  refine lv_iload_n hx hb dX5_read_36 rfl (lv_at hl 0 rfl) ?_
  refine va_ti (v := .int (xf (5 : Int32).toNatClampNeg)) hx hb hTf hS (by unfold vp_in; decide) rfl dX5_read_37 ?_
  refine lv_topi (fun r17 er17 => ?_)
  refine va_iast hx hb hK hP hD hS 1 0 rfl rfl (by unfold vp_in; decide) dX5_read_38 (fun H locs hP hD hS => ?_)
  generalize upd g15 (5 : Int32).toNatClampNeg r17 = g18 at hP hD
  have hP : va_P (dC, dI) vwCl [(rt, .inr (5, ((((frt.set 2 (.int 0)).set 3 (.int (-1))).set 6 (.int 0)).set 9 (.int 0)))), (av, .inl (kav, 16, .inl g18)), (ak, .inl (kak, 7, .inl gak))] H := hP
  have hD : va_D A [(rt, .inr (5, ((((frt.set 2 (.int 0)).set 3 (.int (-1))).set 6 (.int 0)).set 9 (.int 0)))), (av, .inl (kav, 16, .inl g18)), (ak, .inl (kak, 7, .inl gak))] := hD
  refine lv_iinc (v := 6) (lv' := [(1, .int 6), (0, .ref rt)]) hx hb dX5_read_39 hl (k := 0) rfl (by decide) (by decide) rfl (fun ls hl => ?_)
  refine lv_goto (tgt := 22) hx hb dX5_read_42 (by decide) ?_
  refine lv_iload_n hx hb dX5_read_22 rfl (lv_at hl 0 rfl) ?_
  refine lv_bipush (v := 16) hx hb dX5_read_23 (by decide) ?_
  refine lv_icmp_ge (tgt := 45) hx hb dX5_read_25 (by decide) (fun c19 => ?_) (fun c19 => ?_)
  · exact absurd c19 (by decide)
  refine lv_aload_n hx hb dX5_read_28 rfl (lv_at hl 1 rfl) ?_
  refine va_get (D := (dC, dI)) (ci := 5) (v := .ref av) (C := RX5) (T := TX5) (N := 10) hx hb ht inX5 hown hK hP 0 rfl rfl 4 (by decide) (ht _ kw_43) (fun _ h9 => h9) (gs_ne (by decide) (gs_ne (by decide) (gs_ne (by decide) (gs_ne (by decide) hfrt_4)))) dX5_read_29 ?_
  refine lv_iload_n hx hb dX5_read_32 rfl (lv_at hl 0 rfl) ?_
  refine va_gets hx hb hZf hS hown (ht _ kw_443) (fun _ h9 => h9) dX5_read_33 ?_
  refine lv_iload_n hx hb dX5_read_36 rfl (lv_at hl 0 rfl) ?_
  refine va_ti (v := .int (xf (6 : Int32).toNatClampNeg)) hx hb hTf hS (by unfold vp_in; decide) rfl dX5_read_37 ?_
  refine lv_topi (fun r20 er20 => ?_)
  refine va_iast hx hb hK hP hD hS 1 0 rfl rfl (by unfold vp_in; decide) dX5_read_38 (fun H locs hP hD hS => ?_)
  generalize upd g18 (6 : Int32).toNatClampNeg r20 = g21 at hP hD
  have hP : va_P (dC, dI) vwCl [(rt, .inr (5, ((((frt.set 2 (.int 0)).set 3 (.int (-1))).set 6 (.int 0)).set 9 (.int 0)))), (av, .inl (kav, 16, .inl g21)), (ak, .inl (kak, 7, .inl gak))] H := hP
  have hD : va_D A [(rt, .inr (5, ((((frt.set 2 (.int 0)).set 3 (.int (-1))).set 6 (.int 0)).set 9 (.int 0)))), (av, .inl (kav, 16, .inl g21)), (ak, .inl (kak, 7, .inl gak))] := hD
  refine lv_iinc (v := 7) (lv' := [(1, .int 7), (0, .ref rt)]) hx hb dX5_read_39 hl (k := 0) rfl (by decide) (by decide) rfl (fun ls hl => ?_)
  refine lv_goto (tgt := 22) hx hb dX5_read_42 (by decide) ?_
  refine lv_iload_n hx hb dX5_read_22 rfl (lv_at hl 0 rfl) ?_
  refine lv_bipush (v := 16) hx hb dX5_read_23 (by decide) ?_
  refine lv_icmp_ge (tgt := 45) hx hb dX5_read_25 (by decide) (fun c22 => ?_) (fun c22 => ?_)
  · exact absurd c22 (by decide)
  refine lv_aload_n hx hb dX5_read_28 rfl (lv_at hl 1 rfl) ?_
  refine va_get (D := (dC, dI)) (ci := 5) (v := .ref av) (C := RX5) (T := TX5) (N := 10) hx hb ht inX5 hown hK hP 0 rfl rfl 4 (by decide) (ht _ kw_43) (fun _ h9 => h9) (gs_ne (by decide) (gs_ne (by decide) (gs_ne (by decide) (gs_ne (by decide) hfrt_4)))) dX5_read_29 ?_
  refine lv_iload_n hx hb dX5_read_32 rfl (lv_at hl 0 rfl) ?_
  refine va_gets hx hb hZf hS hown (ht _ kw_443) (fun _ h9 => h9) dX5_read_33 ?_
  refine lv_iload_n hx hb dX5_read_36 rfl (lv_at hl 0 rfl) ?_
  refine va_ti (v := .int (xf (7 : Int32).toNatClampNeg)) hx hb hTf hS (by unfold vp_in; decide) rfl dX5_read_37 ?_
  refine lv_topi (fun r23 er23 => ?_)
  refine va_iast hx hb hK hP hD hS 1 0 rfl rfl (by unfold vp_in; decide) dX5_read_38 (fun H locs hP hD hS => ?_)
  generalize upd g21 (7 : Int32).toNatClampNeg r23 = g24 at hP hD
  have hP : va_P (dC, dI) vwCl [(rt, .inr (5, ((((frt.set 2 (.int 0)).set 3 (.int (-1))).set 6 (.int 0)).set 9 (.int 0)))), (av, .inl (kav, 16, .inl g24)), (ak, .inl (kak, 7, .inl gak))] H := hP
  have hD : va_D A [(rt, .inr (5, ((((frt.set 2 (.int 0)).set 3 (.int (-1))).set 6 (.int 0)).set 9 (.int 0)))), (av, .inl (kav, 16, .inl g24)), (ak, .inl (kak, 7, .inl gak))] := hD
  refine lv_iinc (v := 8) (lv' := [(1, .int 8), (0, .ref rt)]) hx hb dX5_read_39 hl (k := 0) rfl (by decide) (by decide) rfl (fun ls hl => ?_)
  refine lv_goto (tgt := 22) hx hb dX5_read_42 (by decide) ?_
  refine lv_iload_n hx hb dX5_read_22 rfl (lv_at hl 0 rfl) ?_
  refine lv_bipush (v := 16) hx hb dX5_read_23 (by decide) ?_
  refine lv_icmp_ge (tgt := 45) hx hb dX5_read_25 (by decide) (fun c25 => ?_) (fun c25 => ?_)
  · exact absurd c25 (by decide)
  refine lv_aload_n hx hb dX5_read_28 rfl (lv_at hl 1 rfl) ?_
  refine va_get (D := (dC, dI)) (ci := 5) (v := .ref av) (C := RX5) (T := TX5) (N := 10) hx hb ht inX5 hown hK hP 0 rfl rfl 4 (by decide) (ht _ kw_43) (fun _ h9 => h9) (gs_ne (by decide) (gs_ne (by decide) (gs_ne (by decide) (gs_ne (by decide) hfrt_4)))) dX5_read_29 ?_
  refine lv_iload_n hx hb dX5_read_32 rfl (lv_at hl 0 rfl) ?_
  refine va_gets hx hb hZf hS hown (ht _ kw_443) (fun _ h9 => h9) dX5_read_33 ?_
  refine lv_iload_n hx hb dX5_read_36 rfl (lv_at hl 0 rfl) ?_
  refine va_ti (v := .int (xf (8 : Int32).toNatClampNeg)) hx hb hTf hS (by unfold vp_in; decide) rfl dX5_read_37 ?_
  refine lv_topi (fun r26 er26 => ?_)
  refine va_iast hx hb hK hP hD hS 1 0 rfl rfl (by unfold vp_in; decide) dX5_read_38 (fun H locs hP hD hS => ?_)
  generalize upd g24 (8 : Int32).toNatClampNeg r26 = g27 at hP hD
  have hP : va_P (dC, dI) vwCl [(rt, .inr (5, ((((frt.set 2 (.int 0)).set 3 (.int (-1))).set 6 (.int 0)).set 9 (.int 0)))), (av, .inl (kav, 16, .inl g27)), (ak, .inl (kak, 7, .inl gak))] H := hP
  have hD : va_D A [(rt, .inr (5, ((((frt.set 2 (.int 0)).set 3 (.int (-1))).set 6 (.int 0)).set 9 (.int 0)))), (av, .inl (kav, 16, .inl g27)), (ak, .inl (kak, 7, .inl gak))] := hD
  refine lv_iinc (v := 9) (lv' := [(1, .int 9), (0, .ref rt)]) hx hb dX5_read_39 hl (k := 0) rfl (by decide) (by decide) rfl (fun ls hl => ?_)
  refine lv_goto (tgt := 22) hx hb dX5_read_42 (by decide) ?_
  refine lv_iload_n hx hb dX5_read_22 rfl (lv_at hl 0 rfl) ?_
  refine lv_bipush (v := 16) hx hb dX5_read_23 (by decide) ?_
  refine lv_icmp_ge (tgt := 45) hx hb dX5_read_25 (by decide) (fun c28 => ?_) (fun c28 => ?_)
  · exact absurd c28 (by decide)
  refine lv_aload_n hx hb dX5_read_28 rfl (lv_at hl 1 rfl) ?_
  refine va_get (D := (dC, dI)) (ci := 5) (v := .ref av) (C := RX5) (T := TX5) (N := 10) hx hb ht inX5 hown hK hP 0 rfl rfl 4 (by decide) (ht _ kw_43) (fun _ h9 => h9) (gs_ne (by decide) (gs_ne (by decide) (gs_ne (by decide) (gs_ne (by decide) hfrt_4)))) dX5_read_29 ?_
  refine lv_iload_n hx hb dX5_read_32 rfl (lv_at hl 0 rfl) ?_
  refine va_gets hx hb hZf hS hown (ht _ kw_443) (fun _ h9 => h9) dX5_read_33 ?_
  refine lv_iload_n hx hb dX5_read_36 rfl (lv_at hl 0 rfl) ?_
  refine va_ti (v := .int (xf (9 : Int32).toNatClampNeg)) hx hb hTf hS (by unfold vp_in; decide) rfl dX5_read_37 ?_
  refine lv_topi (fun r29 er29 => ?_)
  refine va_iast hx hb hK hP hD hS 1 0 rfl rfl (by unfold vp_in; decide) dX5_read_38 (fun H locs hP hD hS => ?_)
  generalize upd g27 (9 : Int32).toNatClampNeg r29 = g30 at hP hD
  have hP : va_P (dC, dI) vwCl [(rt, .inr (5, ((((frt.set 2 (.int 0)).set 3 (.int (-1))).set 6 (.int 0)).set 9 (.int 0)))), (av, .inl (kav, 16, .inl g30)), (ak, .inl (kak, 7, .inl gak))] H := hP
  have hD : va_D A [(rt, .inr (5, ((((frt.set 2 (.int 0)).set 3 (.int (-1))).set 6 (.int 0)).set 9 (.int 0)))), (av, .inl (kav, 16, .inl g30)), (ak, .inl (kak, 7, .inl gak))] := hD
  refine lv_iinc (v := 10) (lv' := [(1, .int 10), (0, .ref rt)]) hx hb dX5_read_39 hl (k := 0) rfl (by decide) (by decide) rfl (fun ls hl => ?_)
  refine lv_goto (tgt := 22) hx hb dX5_read_42 (by decide) ?_
  refine lv_iload_n hx hb dX5_read_22 rfl (lv_at hl 0 rfl) ?_
  refine lv_bipush (v := 16) hx hb dX5_read_23 (by decide) ?_
  refine lv_icmp_ge (tgt := 45) hx hb dX5_read_25 (by decide) (fun c31 => ?_) (fun c31 => ?_)
  · exact absurd c31 (by decide)
  refine lv_aload_n hx hb dX5_read_28 rfl (lv_at hl 1 rfl) ?_
  refine va_get (D := (dC, dI)) (ci := 5) (v := .ref av) (C := RX5) (T := TX5) (N := 10) hx hb ht inX5 hown hK hP 0 rfl rfl 4 (by decide) (ht _ kw_43) (fun _ h9 => h9) (gs_ne (by decide) (gs_ne (by decide) (gs_ne (by decide) (gs_ne (by decide) hfrt_4)))) dX5_read_29 ?_
  refine lv_iload_n hx hb dX5_read_32 rfl (lv_at hl 0 rfl) ?_
  refine va_gets hx hb hZf hS hown (ht _ kw_443) (fun _ h9 => h9) dX5_read_33 ?_
  refine lv_iload_n hx hb dX5_read_36 rfl (lv_at hl 0 rfl) ?_
  refine va_ti (v := .int (xf (10 : Int32).toNatClampNeg)) hx hb hTf hS (by unfold vp_in; decide) rfl dX5_read_37 ?_
  refine lv_topi (fun r32 er32 => ?_)
  refine va_iast hx hb hK hP hD hS 1 0 rfl rfl (by unfold vp_in; decide) dX5_read_38 (fun H locs hP hD hS => ?_)
  generalize upd g30 (10 : Int32).toNatClampNeg r32 = g33 at hP hD
  have hP : va_P (dC, dI) vwCl [(rt, .inr (5, ((((frt.set 2 (.int 0)).set 3 (.int (-1))).set 6 (.int 0)).set 9 (.int 0)))), (av, .inl (kav, 16, .inl g33)), (ak, .inl (kak, 7, .inl gak))] H := hP
  have hD : va_D A [(rt, .inr (5, ((((frt.set 2 (.int 0)).set 3 (.int (-1))).set 6 (.int 0)).set 9 (.int 0)))), (av, .inl (kav, 16, .inl g33)), (ak, .inl (kak, 7, .inl gak))] := hD
  refine lv_iinc (v := 11) (lv' := [(1, .int 11), (0, .ref rt)]) hx hb dX5_read_39 hl (k := 0) rfl (by decide) (by decide) rfl (fun ls hl => ?_)
  refine lv_goto (tgt := 22) hx hb dX5_read_42 (by decide) ?_
  refine lv_iload_n hx hb dX5_read_22 rfl (lv_at hl 0 rfl) ?_
  refine lv_bipush (v := 16) hx hb dX5_read_23 (by decide) ?_
  refine lv_icmp_ge (tgt := 45) hx hb dX5_read_25 (by decide) (fun c34 => ?_) (fun c34 => ?_)
  · exact absurd c34 (by decide)
  refine lv_aload_n hx hb dX5_read_28 rfl (lv_at hl 1 rfl) ?_
  refine va_get (D := (dC, dI)) (ci := 5) (v := .ref av) (C := RX5) (T := TX5) (N := 10) hx hb ht inX5 hown hK hP 0 rfl rfl 4 (by decide) (ht _ kw_43) (fun _ h9 => h9) (gs_ne (by decide) (gs_ne (by decide) (gs_ne (by decide) (gs_ne (by decide) hfrt_4)))) dX5_read_29 ?_
  refine lv_iload_n hx hb dX5_read_32 rfl (lv_at hl 0 rfl) ?_
  refine va_gets hx hb hZf hS hown (ht _ kw_443) (fun _ h9 => h9) dX5_read_33 ?_
  refine lv_iload_n hx hb dX5_read_36 rfl (lv_at hl 0 rfl) ?_
  refine va_ti (v := .int (xf (11 : Int32).toNatClampNeg)) hx hb hTf hS (by unfold vp_in; decide) rfl dX5_read_37 ?_
  refine lv_topi (fun r35 er35 => ?_)
  refine va_iast hx hb hK hP hD hS 1 0 rfl rfl (by unfold vp_in; decide) dX5_read_38 (fun H locs hP hD hS => ?_)
  generalize upd g33 (11 : Int32).toNatClampNeg r35 = g36 at hP hD
  have hP : va_P (dC, dI) vwCl [(rt, .inr (5, ((((frt.set 2 (.int 0)).set 3 (.int (-1))).set 6 (.int 0)).set 9 (.int 0)))), (av, .inl (kav, 16, .inl g36)), (ak, .inl (kak, 7, .inl gak))] H := hP
  have hD : va_D A [(rt, .inr (5, ((((frt.set 2 (.int 0)).set 3 (.int (-1))).set 6 (.int 0)).set 9 (.int 0)))), (av, .inl (kav, 16, .inl g36)), (ak, .inl (kak, 7, .inl gak))] := hD
  refine lv_iinc (v := 12) (lv' := [(1, .int 12), (0, .ref rt)]) hx hb dX5_read_39 hl (k := 0) rfl (by decide) (by decide) rfl (fun ls hl => ?_)
  refine lv_goto (tgt := 22) hx hb dX5_read_42 (by decide) ?_
  refine lv_iload_n hx hb dX5_read_22 rfl (lv_at hl 0 rfl) ?_
  refine lv_bipush (v := 16) hx hb dX5_read_23 (by decide) ?_
  refine lv_icmp_ge (tgt := 45) hx hb dX5_read_25 (by decide) (fun c37 => ?_) (fun c37 => ?_)
  · exact absurd c37 (by decide)
  refine lv_aload_n hx hb dX5_read_28 rfl (lv_at hl 1 rfl) ?_
  refine va_get (D := (dC, dI)) (ci := 5) (v := .ref av) (C := RX5) (T := TX5) (N := 10) hx hb ht inX5 hown hK hP 0 rfl rfl 4 (by decide) (ht _ kw_43) (fun _ h9 => h9) (gs_ne (by decide) (gs_ne (by decide) (gs_ne (by decide) (gs_ne (by decide) hfrt_4)))) dX5_read_29 ?_
  refine lv_iload_n hx hb dX5_read_32 rfl (lv_at hl 0 rfl) ?_
  refine va_gets hx hb hZf hS hown (ht _ kw_443) (fun _ h9 => h9) dX5_read_33 ?_
  refine lv_iload_n hx hb dX5_read_36 rfl (lv_at hl 0 rfl) ?_
  refine va_ti (v := .int (xf (12 : Int32).toNatClampNeg)) hx hb hTf hS (by unfold vp_in; decide) rfl dX5_read_37 ?_
  refine lv_topi (fun r38 er38 => ?_)
  refine va_iast hx hb hK hP hD hS 1 0 rfl rfl (by unfold vp_in; decide) dX5_read_38 (fun H locs hP hD hS => ?_)
  generalize upd g36 (12 : Int32).toNatClampNeg r38 = g39 at hP hD
  have hP : va_P (dC, dI) vwCl [(rt, .inr (5, ((((frt.set 2 (.int 0)).set 3 (.int (-1))).set 6 (.int 0)).set 9 (.int 0)))), (av, .inl (kav, 16, .inl g39)), (ak, .inl (kak, 7, .inl gak))] H := hP
  have hD : va_D A [(rt, .inr (5, ((((frt.set 2 (.int 0)).set 3 (.int (-1))).set 6 (.int 0)).set 9 (.int 0)))), (av, .inl (kav, 16, .inl g39)), (ak, .inl (kak, 7, .inl gak))] := hD
  refine lv_iinc (v := 13) (lv' := [(1, .int 13), (0, .ref rt)]) hx hb dX5_read_39 hl (k := 0) rfl (by decide) (by decide) rfl (fun ls hl => ?_)
  refine lv_goto (tgt := 22) hx hb dX5_read_42 (by decide) ?_
  refine lv_iload_n hx hb dX5_read_22 rfl (lv_at hl 0 rfl) ?_
  refine lv_bipush (v := 16) hx hb dX5_read_23 (by decide) ?_
  refine lv_icmp_ge (tgt := 45) hx hb dX5_read_25 (by decide) (fun c40 => ?_) (fun c40 => ?_)
  · exact absurd c40 (by decide)
  refine lv_aload_n hx hb dX5_read_28 rfl (lv_at hl 1 rfl) ?_
  refine va_get (D := (dC, dI)) (ci := 5) (v := .ref av) (C := RX5) (T := TX5) (N := 10) hx hb ht inX5 hown hK hP 0 rfl rfl 4 (by decide) (ht _ kw_43) (fun _ h9 => h9) (gs_ne (by decide) (gs_ne (by decide) (gs_ne (by decide) (gs_ne (by decide) hfrt_4)))) dX5_read_29 ?_
  refine lv_iload_n hx hb dX5_read_32 rfl (lv_at hl 0 rfl) ?_
  refine va_gets hx hb hZf hS hown (ht _ kw_443) (fun _ h9 => h9) dX5_read_33 ?_
  refine lv_iload_n hx hb dX5_read_36 rfl (lv_at hl 0 rfl) ?_
  refine va_ti (v := .int (xf (13 : Int32).toNatClampNeg)) hx hb hTf hS (by unfold vp_in; decide) rfl dX5_read_37 ?_
  refine lv_topi (fun r41 er41 => ?_)
  refine va_iast hx hb hK hP hD hS 1 0 rfl rfl (by unfold vp_in; decide) dX5_read_38 (fun H locs hP hD hS => ?_)
  generalize upd g39 (13 : Int32).toNatClampNeg r41 = g42 at hP hD
  have hP : va_P (dC, dI) vwCl [(rt, .inr (5, ((((frt.set 2 (.int 0)).set 3 (.int (-1))).set 6 (.int 0)).set 9 (.int 0)))), (av, .inl (kav, 16, .inl g42)), (ak, .inl (kak, 7, .inl gak))] H := hP
  have hD : va_D A [(rt, .inr (5, ((((frt.set 2 (.int 0)).set 3 (.int (-1))).set 6 (.int 0)).set 9 (.int 0)))), (av, .inl (kav, 16, .inl g42)), (ak, .inl (kak, 7, .inl gak))] := hD
  refine lv_iinc (v := 14) (lv' := [(1, .int 14), (0, .ref rt)]) hx hb dX5_read_39 hl (k := 0) rfl (by decide) (by decide) rfl (fun ls hl => ?_)
  refine lv_goto (tgt := 22) hx hb dX5_read_42 (by decide) ?_
  refine lv_iload_n hx hb dX5_read_22 rfl (lv_at hl 0 rfl) ?_
  refine lv_bipush (v := 16) hx hb dX5_read_23 (by decide) ?_
  refine lv_icmp_ge (tgt := 45) hx hb dX5_read_25 (by decide) (fun c43 => ?_) (fun c43 => ?_)
  · exact absurd c43 (by decide)
  refine lv_aload_n hx hb dX5_read_28 rfl (lv_at hl 1 rfl) ?_
  refine va_get (D := (dC, dI)) (ci := 5) (v := .ref av) (C := RX5) (T := TX5) (N := 10) hx hb ht inX5 hown hK hP 0 rfl rfl 4 (by decide) (ht _ kw_43) (fun _ h9 => h9) (gs_ne (by decide) (gs_ne (by decide) (gs_ne (by decide) (gs_ne (by decide) hfrt_4)))) dX5_read_29 ?_
  refine lv_iload_n hx hb dX5_read_32 rfl (lv_at hl 0 rfl) ?_
  refine va_gets hx hb hZf hS hown (ht _ kw_443) (fun _ h9 => h9) dX5_read_33 ?_
  refine lv_iload_n hx hb dX5_read_36 rfl (lv_at hl 0 rfl) ?_
  refine va_ti (v := .int (xf (14 : Int32).toNatClampNeg)) hx hb hTf hS (by unfold vp_in; decide) rfl dX5_read_37 ?_
  refine lv_topi (fun r44 er44 => ?_)
  refine va_iast hx hb hK hP hD hS 1 0 rfl rfl (by unfold vp_in; decide) dX5_read_38 (fun H locs hP hD hS => ?_)
  generalize upd g42 (14 : Int32).toNatClampNeg r44 = g45 at hP hD
  have hP : va_P (dC, dI) vwCl [(rt, .inr (5, ((((frt.set 2 (.int 0)).set 3 (.int (-1))).set 6 (.int 0)).set 9 (.int 0)))), (av, .inl (kav, 16, .inl g45)), (ak, .inl (kak, 7, .inl gak))] H := hP
  have hD : va_D A [(rt, .inr (5, ((((frt.set 2 (.int 0)).set 3 (.int (-1))).set 6 (.int 0)).set 9 (.int 0)))), (av, .inl (kav, 16, .inl g45)), (ak, .inl (kak, 7, .inl gak))] := hD
  refine lv_iinc (v := 15) (lv' := [(1, .int 15), (0, .ref rt)]) hx hb dX5_read_39 hl (k := 0) rfl (by decide) (by decide) rfl (fun ls hl => ?_)
  refine lv_goto (tgt := 22) hx hb dX5_read_42 (by decide) ?_
  refine lv_iload_n hx hb dX5_read_22 rfl (lv_at hl 0 rfl) ?_
  refine lv_bipush (v := 16) hx hb dX5_read_23 (by decide) ?_
  refine lv_icmp_ge (tgt := 45) hx hb dX5_read_25 (by decide) (fun c46 => ?_) (fun c46 => ?_)
  · exact absurd c46 (by decide)
  refine lv_aload_n hx hb dX5_read_28 rfl (lv_at hl 1 rfl) ?_
  refine va_get (D := (dC, dI)) (ci := 5) (v := .ref av) (C := RX5) (T := TX5) (N := 10) hx hb ht inX5 hown hK hP 0 rfl rfl 4 (by decide) (ht _ kw_43) (fun _ h9 => h9) (gs_ne (by decide) (gs_ne (by decide) (gs_ne (by decide) (gs_ne (by decide) hfrt_4)))) dX5_read_29 ?_
  refine lv_iload_n hx hb dX5_read_32 rfl (lv_at hl 0 rfl) ?_
  refine va_gets hx hb hZf hS hown (ht _ kw_443) (fun _ h9 => h9) dX5_read_33 ?_
  refine lv_iload_n hx hb dX5_read_36 rfl (lv_at hl 0 rfl) ?_
  refine va_ti (v := .int (xf (15 : Int32).toNatClampNeg)) hx hb hTf hS (by unfold vp_in; decide) rfl dX5_read_37 ?_
  refine lv_topi (fun r47 er47 => ?_)
  refine va_iast hx hb hK hP hD hS 1 0 rfl rfl (by unfold vp_in; decide) dX5_read_38 (fun H locs hP hD hS => ?_)
  generalize upd g45 (15 : Int32).toNatClampNeg r47 = g48 at hP hD
  have hP : va_P (dC, dI) vwCl [(rt, .inr (5, ((((frt.set 2 (.int 0)).set 3 (.int (-1))).set 6 (.int 0)).set 9 (.int 0)))), (av, .inl (kav, 16, .inl g48)), (ak, .inl (kak, 7, .inl gak))] H := hP
  have hD : va_D A [(rt, .inr (5, ((((frt.set 2 (.int 0)).set 3 (.int (-1))).set 6 (.int 0)).set 9 (.int 0)))), (av, .inl (kav, 16, .inl g48)), (ak, .inl (kak, 7, .inl gak))] := hD
  refine lv_iinc (v := 16) (lv' := [(1, .int 16), (0, .ref rt)]) hx hb dX5_read_39 hl (k := 0) rfl (by decide) (by decide) rfl (fun ls hl => ?_)
  refine lv_goto (tgt := 22) hx hb dX5_read_42 (by decide) ?_
  refine lv_iload_n hx hb dX5_read_22 rfl (lv_at hl 0 rfl) ?_
  refine lv_bipush (v := 16) hx hb dX5_read_23 (by decide) ?_
  refine lv_icmp_ge (tgt := 45) hx hb dX5_read_25 (by decide) (fun c49 => ?_) (fun c49 => ?_)
  rotate_left
  · exact absurd (by decide) c49
  refine lv_aload_n hx hb dX5_read_45 rfl (lv_at hl 1 rfl) ?_
  refine va_get (D := (dC, dI)) (ci := 5) (v := .ref ak) (C := RX5) (T := TX5) (N := 10) hx hb ht inX5 hown hK hP 0 rfl rfl 5 (by decide) (ht _ kw_45) (fun _ h9 => h9) (gs_ne (by decide) (gs_ne (by decide) (gs_ne (by decide) (gs_ne (by decide) hfrt_5)))) dX5_read_46 ?_
  refine lv_iconst (v := (-1)) hx hb dX5_read_49 (by decide) ?_
  have hPc := hP.sub (ws' := [(ak, .inl (kak, 7, .inl gak))]) [2] rfl
  have hDc := hD.sub (ws' := [(ak, .inl (kak, 7, .inl gak))]) [2] (by decide) rfl
  have hKc := hK.sub (tys' := [(kak, .int)]) [1] rfl
  have hFc := va_free (wc := [(ak, .inl (kak, 7, .inl gak))]) hD hS hA [2] rfl
  refine va_callv (va_runS (As := [.ref ak, .int (-1)]) (rest := []) ⟨hx, hb, hml, hown, ht⟩ (ct_J7_fill_53178 l dC dI ak kak 7 gak (by decide) _ (-1)) (va_cwS 2 ht gv_X5_37 rfl rfl rfl (by decide +kernel) ⟨Nat.le_of_ble_eq_true rfl, Nat.le_of_ble_eq_true rfl⟩) ⟨ro_blind, fun U hU hW => ⟨rfl, by rw [hU], by rw [hU]; exact hPc, va_K.moved hW.alike hKc, hDc.weaken (fun _ _ _ _ => trivial), ex_warm hW hE⟩⟩ rfl rfl hl.1 rfl (lv_room (Nat.le_of_ble_eq_true rfl)) dX5_read_50 ⟨Nat.le_of_ble_eq_true rfl, Nat.le_of_ble_eq_true rfl⟩) hS (fun q _ h => hFc q h) hFc (fun u t H1 locs ht1 hvm hw hB hz1 hk1 hS => ?_)
  obtain ⟨g50, hP1, hK1, hD1⟩ := hB
  rw [ht1] at hP1
  obtain ⟨hP, hD⟩ := va_join (wr := [(rt, .inr (5, ((((frt.set 2 (.int 0)).set 3 (.int (-1))).set 6 (.int 0)).set 9 (.int 0)))), (av, .inl (kav, 16, .inl g48))]) (w1 := [(ak, .inl (kak, 7, .inl g50))]) hP hD [2] [0, 1] rfl rfl (by decide) (by decide) hk1 hFc hP1 hD1
  generalize H1 = H at hP hS ⊢
  have hP : va_P (dC, dI) vwCl [(rt, .inr (5, ((((frt.set 2 (.int 0)).set 3 (.int (-1))).set 6 (.int 0)).set 9 (.int 0)))), (av, .inl (kav, 16, .inl g48)), (ak, .inl (kak, 7, .inl g50))] H := hP
  have hD : va_D A [(rt, .inr (5, ((((frt.set 2 (.int 0)).set 3 (.int (-1))).set 6 (.int 0)).set 9 (.int 0)))), (av, .inl (kav, 16, .inl g48)), (ak, .inl (kak, 7, .inl g50))] := hD
  refine lv_aload_n hx hb dX5_read_53 rfl (lv_at hl 1 rfl) ?_
  refine va_get (D := (dC, dI)) (ci := 5) (v := .ref ak) (C := RX5) (T := TX5) (N := 10) hx hb ht inX5 hown hK hP 0 rfl rfl 5 (by decide) (ht _ kw_45) (fun _ h9 => h9) (gs_ne (by decide) (gs_ne (by decide) (gs_ne (by decide) (gs_ne (by decide) hfrt_5)))) dX5_read_54 ?_
  refine lv_iconst (v := 0) hx hb dX5_read_57 (by decide) ?_
  refine lv_iconst (v := 0) hx hb dX5_read_58 (by decide) ?_
  refine va_iast hx hb hK hP hD hS 2 1 rfl rfl (by unfold vp_in; decide) dX5_read_59 (fun H locs hP hD hS => ?_)
  generalize upd g50 (0 : Int32).toNatClampNeg 0 = g51 at hP hD
  have hP : va_P (dC, dI) vwCl [(rt, .inr (5, ((((frt.set 2 (.int 0)).set 3 (.int (-1))).set 6 (.int 0)).set 9 (.int 0)))), (av, .inl (kav, 16, .inl g48)), (ak, .inl (kak, 7, .inl g51))] H := hP
  have hD : va_D A [(rt, .inr (5, ((((frt.set 2 (.int 0)).set 3 (.int (-1))).set 6 (.int 0)).set 9 (.int 0)))), (av, .inl (kav, 16, .inl g48)), (ak, .inl (kak, 7, .inl g51))] := hD
  refine lv_aload_n hx hb dX5_read_60 rfl (lv_at hl 1 rfl) ?_
  refine va_get (D := (dC, dI)) (ci := 5) (v := .ref ak) (C := RX5) (T := TX5) (N := 10) hx hb ht inX5 hown hK hP 0 rfl rfl 5 (by decide) (ht _ kw_45) (fun _ h9 => h9) (gs_ne (by decide) (gs_ne (by decide) (gs_ne (by decide) (gs_ne (by decide) hfrt_5)))) dX5_read_61 ?_
  refine lv_iconst (v := 1) hx hb dX5_read_64 (by decide) ?_
  refine lv_iconst (v := 1) hx hb dX5_read_65 (by decide) ?_
  refine va_iast hx hb hK hP hD hS 2 1 rfl rfl (by unfold vp_in; decide) dX5_read_66 (fun H locs hP hD hS => ?_)
  generalize upd g51 (1 : Int32).toNatClampNeg 1 = g52 at hP hD
  have hP : va_P (dC, dI) vwCl [(rt, .inr (5, ((((frt.set 2 (.int 0)).set 3 (.int (-1))).set 6 (.int 0)).set 9 (.int 0)))), (av, .inl (kav, 16, .inl g48)), (ak, .inl (kak, 7, .inl g52))] H := hP
  have hD : va_D A [(rt, .inr (5, ((((frt.set 2 (.int 0)).set 3 (.int (-1))).set 6 (.int 0)).set 9 (.int 0)))), (av, .inl (kav, 16, .inl g48)), (ak, .inl (kak, 7, .inl g52))] := hD
  refine lv_aload_n hx hb dX5_read_67 rfl (lv_at hl 1 rfl) ?_
  have hPc := hP.sub (ws' := [(rt, .inr (5, ((((frt.set 2 (.int 0)).set 3 (.int (-1))).set 6 (.int 0)).set 9 (.int 0))))]) [0] rfl
  have hDc := hD.sub (ws' := [(rt, .inr (5, ((((frt.set 2 (.int 0)).set 3 (.int (-1))).set 6 (.int 0)).set 9 (.int 0))))]) [0] (by decide) rfl
  have hKc := hK.sub (tys' := []) [] rfl
  have hFc := va_free (wc := [(rt, .inr (5, ((((frt.set 2 (.int 0)).set 3 (.int (-1))).set 6 (.int 0)).set 9 (.int 0))))]) hD hS hA [0] rfl
  refine va_callv (va_runV (As := []) (rest := []) ⟨hx, hb, hml, hown, ht⟩ (ct_X5_nextToken l dC dI rt (((((frt.set 2 (.int 0)).set 3 (.int (-1))).set 6 (.int 0)).set 9 (.int 0))) (gs_len (gs_len (gs_len (gs_len hn_frt)))) (gs_ne (by decide) (gs_ne (by decide) (gs_ne (by decide) (gs_ne (by decide) hfrt_1)))) (gs_eq (gs_lt (gs_len (gs_len (gs_len hn_frt))) (by decide))) _ ) (cwV 0 ht gv_X5_43 rfl rfl rfl (by decide +kernel) ⟨Nat.le_of_ble_eq_true rfl, Nat.le_of_ble_eq_true rfl⟩) ⟨ro_blind, va_recv hKc hPc (ci := 5) (q0 := 0) rfl rfl, fun U hU hW => ⟨rfl, by rw [hU], by rw [hU]; exact hPc, va_K.moved hW.alike hKc, hDc.weaken (fun _ _ _ _ => trivial), ex_warm hW hE⟩⟩ rfl rfl hl.1 rfl (lv_room (Nat.le_of_ble_eq_true rfl)) dX5_read_68 ⟨Nat.le_of_ble_eq_true rfl, Nat.le_of_ble_eq_true rfl⟩) hS (fun q _ h => hFc q h) hFc (fun u t H1 locs ht1 hvm hw hB hz1 hk1 hS => ?_)
  obtain ⟨hP1, hK1, hD1⟩ := hB
  rw [ht1] at hP1
  obtain ⟨hP, hD⟩ := va_join (wr := [(av, .inl (kav, 16, .inl g48)), (ak, .inl (kak, 7, .inl g52))]) (w1 := [(rt, .inr (5, (((((((frt.set 2 (.int 0)).set 3 (.int (-1))).set 6 (.int 0)).set 9 (.int 0)).set 8 (.int 0)).set 9 (.int 0)).set 7 (.int 0))))]) hP hD [0] [1, 2] rfl rfl (by decide) (by decide) hk1 hFc hP1 hD1
  generalize H1 = H at hP hS ⊢
  have hP : va_P (dC, dI) vwCl [(av, .inl (kav, 16, .inl g48)), (ak, .inl (kak, 7, .inl g52)), (rt, .inr (5, (((((((frt.set 2 (.int 0)).set 3 (.int (-1))).set 6 (.int 0)).set 9 (.int 0)).set 8 (.int 0)).set 9 (.int 0)).set 7 (.int 0))))] H := hP
  have hD : va_D A [(av, .inl (kav, 16, .inl g48)), (ak, .inl (kak, 7, .inl g52)), (rt, .inr (5, (((((((frt.set 2 (.int 0)).set 3 (.int (-1))).set 6 (.int 0)).set 9 (.int 0)).set 8 (.int 0)).set 9 (.int 0)).set 7 (.int 0))))] := hD
  refine lv_iconst (v := 0) hx hb dX5_read_71 (by decide) ?_
  refine lv_istore_n (lv' := [(1, .int 0), (0, .ref rt)]) hx hb dX5_read_72 rfl hl (by decide) rfl (fun ls hl => ?_)
  refine lv_aload_n hx hb dX5_read_73 rfl (lv_at hl 1 rfl) ?_
  refine va_get (D := (dC, dI)) (ci := 5) (v := .int 0) (C := RX5) (T := TX5) (N := 10) hx hb ht inX5 hown hK hP 2 rfl rfl 7 (by decide) (ht _ kw_48) (fun _ h9 => h9) (gs_eq (gs_lt (gs_len (gs_len (gs_len (gs_len (gs_len (gs_len hn_frt)))))) (by decide))) dX5_read_74 ?_
  refine lv_if_eq (tgt := 106) hx hb dX5_read_77 (by decide) (fun c53 => ?_) (fun c53 => ?_)
  rotate_left
  · exact absurd (by decide) c53
  refine lv_iconst (v := 1) hx hb dX5_read_106 (by decide) ?_
  exact W.zret (ty := .boolean) hx hb hr (by decide) (fun t ht9 hW => ⟨⟨_, (), rfl, rfl, g48, g52, by rw [ht9]; exact hP, va_K.moved hW.alike hK, hD⟩, hS.F ht9⟩) hS.2.2 dX5_read_107
abbrev cX0_init : ByteArray := prog_2_method_1_code
def yX0_init : MethodName := ⟨RX0, "<init>", "(I[I[I)V"⟩
theorem dX0_init_0 : decode cX0_init 0 = .ok (.aload_n 0, 1) := by decide +kernel
theorem dX0_init_1 : decode cX0_init 1 = .ok (.invokespecial 3, 3) := by decide +kernel
theorem kw_557 : Cond.methodLink RX0 3 objectInit ∈ lw_g := lw_at 557 (by decide +kernel) rfl
theorem dX0_init_4 : decode cX0_init 4 = .ok (.aload_n 0, 1) := by decide +kernel
theorem dX0_init_5 : decode cX0_init 5 = .ok (.bipush 12, 2) := by decide +kernel
theorem dX0_init_7 : decode cX0_init 7 = .ok (.newarray .int, 2) := by decide +kernel
theorem dX0_init_9 : decode cX0_init 9 = .ok (.putfield 9, 3) := by decide +kernel
theorem kw_571 : Cond.fieldLink RX0 9 "SportsHouse$Competition" "clubs" "[I" ∈ lw_g := lw_at 571 (by decide +kernel) rfl
theorem dX0_init_12 : decode cX0_init 12 = .ok (.aload_n 0, 1) := by decide +kernel
theorem dX0_init_13 : decode cX0_init 13 = .ok (.bipush 12, 2) := by decide +kernel
theorem dX0_init_15 : decode cX0_init 15 = .ok (.newarray .int, 2) := by decide +kernel
theorem dX0_init_17 : decode cX0_init 17 = .ok (.putfield 15, 3) := by decide +kernel
theorem kw_576 : Cond.fieldLink RX0 15 "SportsHouse$Competition" "seat" "[I" ∈ lw_g := lw_at 576 (by decide +kernel) rfl
theorem dX0_init_20 : decode cX0_init 20 = .ok (.aload_n 0, 1) := by decide +kernel
theorem dX0_init_21 : decode cX0_init 21 = .ok (.iload_n 1, 1) := by decide +kernel
theorem dX0_init_22 : decode cX0_init 22 = .ok (.putfield 18, 3) := by decide +kernel
theorem kw_559 : Cond.fieldLink RX0 18 "SportsHouse$Competition" "number" "I" ∈ lw_g := lw_at 559 (by decide +kernel) rfl
theorem dX0_init_25 : decode cX0_init 25 = .ok (.aload_n 0, 1) := by decide +kernel
theorem dX0_init_26 : decode cX0_init 26 = .ok (.aload_n 2, 1) := by decide +kernel
theorem dX0_init_27 : decode cX0_init 27 = .ok (.putfield 22, 3) := by decide +kernel
theorem kw_562 : Cond.fieldLink RX0 22 "SportsHouse$Competition" "rules" "[I" ∈ lw_g := lw_at 562 (by decide +kernel) rfl
theorem dX0_init_30 : decode cX0_init 30 = .ok (.aload_n 0, 1) := by decide +kernel
theorem dX0_init_31 : decode cX0_init 31 = .ok (.aload_n 3, 1) := by decide +kernel
theorem dX0_init_32 : decode cX0_init 32 = .ok (.putfield 25, 3) := by decide +kernel
theorem kw_568 : Cond.fieldLink RX0 25 "SportsHouse$Competition" "keys" "[I" ∈ lw_g := lw_at 568 (by decide +kernel) rfl
theorem dX0_init_35 : decode cX0_init 35 = .ok (.aload_n 0, 1) := by decide +kernel
theorem dX0_init_36 : decode cX0_init 36 = .ok (.getfield 15, 3) := by decide +kernel
theorem dX0_init_39 : decode cX0_init 39 = .ok (.iconst (-1), 1) := by decide +kernel
theorem dX0_init_40 : decode cX0_init 40 = .ok (.invokestatic 28, 3) := by decide +kernel
theorem kw_558 : Cond.methodLink RX0 28 yJ7_fill_53178 ∈ lw_g := lw_at 558 (by decide +kernel) rfl
theorem gv_X0_28 : GoodIn lw_g (va_wsS RX0 28 yJ7_fill_53178 (.code yJ7_fill_53178 cJ7_fill_53178 4 none :: lw_g)) := gi_S kw_558 kw_266 kw_7 kw_267
theorem dX0_init_43 : decode cX0_init 43 = .ok (.return_, 1) := by decide +kernel
set_option maxHeartbeats 4000000 in
set_option maxRecDepth 100000 in
theorem ct_X0_init (l : Launch) (dC : Nat → ClassId) (dI : Nat → Nat → Nat) (h0 : Nat) (bv : Nat) (bk : Nat) (sz : Nat) (na : Int32) : Met l yX0_init (.code yX0_init cX0_init 4 none :: lw_g) ({ frames := 1, cells := 2, slots := 24, locals := 60 }) (ro_P dC dI [(h0, .inr (0, [.int 0, .null, .null, .null, .null, .int 0, .int 0, .int 0, .int 0]))] [] sz [.ref h0, .int na, .ref bv, .ref bk]) (va_Qv (fun (_ : Unit) => True) (fun _ t => ∃ (q1 : Nat) (q3 : Nat), va_P (dC, dI) vwCl [(h0, .inr (0, [.int na, .ref bv, .ref bk, .ref q1, .ref q3, .int 0, .int 0, .int 0, .int 0]))] t.heap ∧ va_K (dC, dI) vwCl [] t ∧ va_D (va_A [(h0, .inr (0, [.int 0, .null, .null, .null, .null, .int 0, .int 0, .int 0, .int 0]))] sz) [(h0, .inr (0, [.int na, .ref bv, .ref bk, .ref q1, .ref q3, .int 0, .int 0, .int 0, .int 0]))]) (va_A [(h0, .inr (0, [.int 0, .null, .null, .null, .null, .int 0, .int 0, .int 0, .int 0]))] sz)) 2 24 (va_A [(h0, .inr (0, [.int 0, .null, .null, .null, .null, .int 0, .int 0, .int 0, .int 0]))] sz) := by
  refine ro_entry (by decide) (Nat.le_of_ble_eq_true rfl) ?_
  intro p e s m below meth c ls hx hb hr hlocks ht hown hin hml hsz hP hK hD hE hl
  subst hsz
  have hD := hD.self (sz := s.heap.size)
  generalize hAe : va_A [(h0, .inr (0, [.int 0, .null, .null, .null, .null, .int 0, .int 0, .int 0, .int 0]))] s.heap.size = A at hD ⊢
  have hA : ∀ q, s.heap.size ≤ q → A q := fun q h => by rw [← hAe]; exact Or.inr h
  have hS : va_S A s.heap s.heap [] := va_S.rf
  have hl : lv_has ls 4 [(0, .ref h0), (1, .int na), (2, .ref bv), (3, .ref bk)] := hl
  have hown : s.vm.findClass RX0 = some m.cls := hown
  refine lv_aload_n hx hb dX0_init_0 rfl (lv_at hl 0 rfl) ?_
  refine W.objInit hx hb hown (ht _ kw_557) (ht _ kw_27) (ht _ kw_28) rfl (by rw [hml]; exact hl.1) rfl dX0_init_1 (Nat.le_of_ble_eq_true rfl) (Nat.le_of_ble_eq_true rfl) ?_
  refine W.eq (g2 := F0 m 4 ls []) rfl ?_
  refine lv_aload_n hx hb dX0_init_4 rfl (lv_at hl 0 rfl) ?_
  refine lv_bipush (v := 12) hx hb dX0_init_5 (by decide) ?_
  refine va_newa (atype := .int) (ty := .int) (a0 := (12, .inl (fun _ => 0))) hx hb (ht _ kw_72) rfl hK hP hD hS hA (fun _ => rfl) (by decide) (by decide) (Nat.le_of_ble_eq_true rfl) (Nat.le_of_ble_eq_true rfl) (Nat.le_of_ble_eq_true rfl) dX0_init_7 (fun q1 k2 H hK hP hD hS => ?_)
  have hP : va_P (dC, dI) vwCl [(h0, .inr (0, [.int 0, .null, .null, .null, .null, .int 0, .int 0, .int 0, .int 0])), (q1, .inl (k2, 12, .inl (fun _ => 0)))] H := hP
  have hD : va_D A [(h0, .inr (0, [.int 0, .null, .null, .null, .null, .int 0, .int 0, .int 0, .int 0])), (q1, .inl (k2, 12, .inl (fun _ => 0)))] := hD
  have hK : va_K (dC, dI) vwCl [(k2, .int)] s := hK
  refine W.widen (k := 1) (n := 12) (Nat.le_of_ble_eq_true rfl) (Nat.le_of_ble_eq_true rfl) ?_
  refine va_putF (D := (dC, dI)) (ci := 0) (v := .ref q1) (ty := .array .int) (C := RX0) (T := TX0) (N := 9) hx hb ht inX0 tyX0 tyX0_ok nmX0 hown hK hP hD hS 0 rfl rfl 3 (by decide) (ht _ kw_571) (fun _ h9 => h9) rfl hin rfl (by decide +kernel) rfl rfl (Nat.le_of_ble_eq_true rfl) dX0_init_9 (fun H locs hP hD hS => ?_)
  have hP : va_P (dC, dI) vwCl [(h0, .inr (0, [.int 0, .null, .null, .ref q1, .null, .int 0, .int 0, .int 0, .int 0])), (q1, .inl (k2, 12, .inl (fun _ => 0)))] H := hP
  have hD : va_D A [(h0, .inr (0, [.int 0, .null, .null, .ref q1, .null, .int 0, .int 0, .int 0, .int 0])), (q1, .inl (k2, 12, .inl (fun _ => 0)))] := hD
  refine lv_aload_n hx hb dX0_init_12 rfl (lv_at hl 0 rfl) ?_
  refine lv_bipush (v := 12) hx hb dX0_init_13 (by decide) ?_
  refine va_newa (atype := .int) (ty := .int) (a0 := (12, .inl (fun _ => 0))) hx hb (ht _ kw_72) rfl hK hP hD hS hA (fun _ => rfl) (by decide) (by decide) (Nat.le_of_ble_eq_true rfl) (Nat.le_of_ble_eq_true rfl) (Nat.le_of_ble_eq_true rfl) dX0_init_15 (fun q3 k4 H hK hP hD hS => ?_)
  have hP : va_P (dC, dI) vwCl [(h0, .inr (0, [.int 0, .null, .null, .ref q1, .null, .int 0, .int 0, .int 0, .int 0])), (q1, .inl (k2, 12, .inl (fun _ => 0))), (q3, .inl (k4, 12, .inl (fun _ => 0)))] H := hP
  have hD : va_D A [(h0, .inr (0, [.int 0, .null, .null, .ref q1, .null, .int 0, .int 0, .int 0, .int 0])), (q1, .inl (k2, 12, .inl (fun _ => 0))), (q3, .inl (k4, 12, .inl (fun _ => 0)))] := hD
  have hK : va_K (dC, dI) vwCl [(k2, .int), (k4, .int)] s := hK
  refine W.widen (k := 2) (n := 24) (Nat.le_of_ble_eq_true rfl) (Nat.le_of_ble_eq_true rfl) ?_
  refine va_putF (D := (dC, dI)) (ci := 0) (v := .ref q3) (ty := .array .int) (C := RX0) (T := TX0) (N := 9) hx hb ht inX0 tyX0 tyX0_ok nmX0 hown hK hP hD hS 0 rfl rfl 4 (by decide) (ht _ kw_576) (fun _ h9 => h9) rfl hin rfl (by decide +kernel) rfl rfl (Nat.le_of_ble_eq_true rfl) dX0_init_17 (fun H locs hP hD hS => ?_)
  have hP : va_P (dC, dI) vwCl [(h0, .inr (0, [.int 0, .null, .null, .ref q1, .ref q3, .int 0, .int 0, .int 0, .int 0])), (q1, .inl (k2, 12, .inl (fun _ => 0))), (q3, .inl (k4, 12, .inl (fun _ => 0)))] H := hP
  have hD : va_D A [(h0, .inr (0, [.int 0, .null, .null, .ref q1, .ref q3, .int 0, .int 0, .int 0, .int 0])), (q1, .inl (k2, 12, .inl (fun _ => 0))), (q3, .inl (k4, 12, .inl (fun _ => 0)))] := hD
  refine lv_aload_n hx hb dX0_init_20 rfl (lv_at hl 0 rfl) ?_
  refine lv_iload_n hx hb dX0_init_21 rfl (lv_at hl 1 rfl) ?_
  refine va_putF (D := (dC, dI)) (ci := 0) (v := .int na) (ty := .int) (C := RX0) (T := TX0) (N := 9) hx hb ht inX0 tyX0 tyX0_ok nmX0 hown hK hP hD hS 0 rfl rfl 0 (by decide) (ht _ kw_559) (fun _ h9 => h9) rfl hin rfl (by decide +kernel) rfl rfl (Nat.le_of_ble_eq_true rfl) dX0_init_22 (fun H locs hP hD hS => ?_)
  have hP : va_P (dC, dI) vwCl [(h0, .inr (0, [.int na, .null, .null, .ref q1, .ref q3, .int 0, .int 0, .int 0, .int 0])), (q1, .inl (k2, 12, .inl (fun _ => 0))), (q3, .inl (k4, 12, .inl (fun _ => 0)))] H := hP
  have hD : va_D A [(h0, .inr (0, [.int na, .null, .null, .ref q1, .ref q3, .int 0, .int 0, .int 0, .int 0])), (q1, .inl (k2, 12, .inl (fun _ => 0))), (q3, .inl (k4, 12, .inl (fun _ => 0)))] := hD
  refine lv_aload_n hx hb dX0_init_25 rfl (lv_at hl 0 rfl) ?_
  refine lv_aload_n hx hb dX0_init_26 rfl (lv_at hl 2 rfl) ?_
  refine va_putF (D := (dC, dI)) (ci := 0) (v := .ref bv) (ty := .array .int) (C := RX0) (T := TX0) (N := 9) hx hb ht inX0 tyX0 tyX0_ok nmX0 hown hK hP hD hS 0 rfl rfl 1 (by decide) (ht _ kw_562) (fun _ h9 => h9) rfl hin rfl (by decide +kernel) rfl rfl (Nat.le_of_ble_eq_true rfl) dX0_init_27 (fun H locs hP hD hS => ?_)
  have hP : va_P (dC, dI) vwCl [(h0, .inr (0, [.int na, .ref bv, .null, .ref q1, .ref q3, .int 0, .int 0, .int 0, .int 0])), (q1, .inl (k2, 12, .inl (fun _ => 0))), (q3, .inl (k4, 12, .inl (fun _ => 0)))] H := hP
  have hD : va_D A [(h0, .inr (0, [.int na, .ref bv, .null, .ref q1, .ref q3, .int 0, .int 0, .int 0, .int 0])), (q1, .inl (k2, 12, .inl (fun _ => 0))), (q3, .inl (k4, 12, .inl (fun _ => 0)))] := hD
  refine lv_aload_n hx hb dX0_init_30 rfl (lv_at hl 0 rfl) ?_
  refine lv_aload_n hx hb dX0_init_31 rfl (lv_at hl 3 rfl) ?_
  refine va_putF (D := (dC, dI)) (ci := 0) (v := .ref bk) (ty := .array .int) (C := RX0) (T := TX0) (N := 9) hx hb ht inX0 tyX0 tyX0_ok nmX0 hown hK hP hD hS 0 rfl rfl 2 (by decide) (ht _ kw_568) (fun _ h9 => h9) rfl hin rfl (by decide +kernel) rfl rfl (Nat.le_of_ble_eq_true rfl) dX0_init_32 (fun H locs hP hD hS => ?_)
  have hP : va_P (dC, dI) vwCl [(h0, .inr (0, [.int na, .ref bv, .ref bk, .ref q1, .ref q3, .int 0, .int 0, .int 0, .int 0])), (q1, .inl (k2, 12, .inl (fun _ => 0))), (q3, .inl (k4, 12, .inl (fun _ => 0)))] H := hP
  have hD : va_D A [(h0, .inr (0, [.int na, .ref bv, .ref bk, .ref q1, .ref q3, .int 0, .int 0, .int 0, .int 0])), (q1, .inl (k2, 12, .inl (fun _ => 0))), (q3, .inl (k4, 12, .inl (fun _ => 0)))] := hD
  refine lv_aload_n hx hb dX0_init_35 rfl (lv_at hl 0 rfl) ?_
  refine va_get (D := (dC, dI)) (ci := 0) (v := .ref q3) (C := RX0) (T := TX0) (N := 9) hx hb ht inX0 hown hK hP 0 rfl rfl 4 (by decide) (ht _ kw_576) (fun _ h9 => h9) rfl dX0_init_36 ?_
  refine lv_iconst (v := (-1)) hx hb dX0_init_39 (by decide) ?_
  have hPc := hP.sub (ws' := [(q3, .inl (k4, 12, .inl (fun _ => 0)))]) [2] rfl
  have hDc := hD.sub (ws' := [(q3, .inl (k4, 12, .inl (fun _ => 0)))]) [2] (by decide) rfl
  have hKc := hK.sub (tys' := [(k4, .int)]) [1] rfl
  have hFc := va_free (wc := [(q3, .inl (k4, 12, .inl (fun _ => 0)))]) hD hS hA [2] rfl
  refine va_callv (va_runS (As := [.ref q3, .int (-1)]) (rest := []) ⟨hx, hb, hml, hown, ht⟩ (ct_J7_fill_53178 l dC dI q3 k4 12 (fun _ => 0) (by decide) _ (-1)) (va_cwS 2 ht gv_X0_28 rfl rfl rfl (by decide +kernel) ⟨Nat.le_of_ble_eq_true rfl, Nat.le_of_ble_eq_true rfl⟩) ⟨ro_blind, fun U hU hW => ⟨rfl, by rw [hU], by rw [hU]; exact hPc, va_K.moved hW.alike hKc, hDc.weaken (fun _ _ _ _ => trivial), ex_warm hW hE⟩⟩ rfl rfl hl.1 rfl (lv_room (Nat.le_of_ble_eq_true rfl)) dX0_init_40 ⟨Nat.le_of_ble_eq_true rfl, Nat.le_of_ble_eq_true rfl⟩) hS (fun q _ h => hFc q h) hFc (fun u t H1 locs ht1 hvm hw hB hz1 hk1 hS => ?_)
  obtain ⟨g5, hP1, hK1, hD1⟩ := hB
  rw [ht1] at hP1
  obtain ⟨hP, hD⟩ := va_join (wr := [(h0, .inr (0, [.int na, .ref bv, .ref bk, .ref q1, .ref q3, .int 0, .int 0, .int 0, .int 0])), (q1, .inl (k2, 12, .inl (fun _ => 0)))]) (w1 := [(q3, .inl (k4, 12, .inl g5))]) hP hD [2] [0, 1] rfl rfl (by decide) (by decide) hk1 hFc hP1 hD1
  generalize H1 = H at hP hS ⊢
  have hP : va_P (dC, dI) vwCl [(h0, .inr (0, [.int na, .ref bv, .ref bk, .ref q1, .ref q3, .int 0, .int 0, .int 0, .int 0])), (q1, .inl (k2, 12, .inl (fun _ => 0))), (q3, .inl (k4, 12, .inl g5))] H := hP
  have hD : va_D A [(h0, .inr (0, [.int na, .ref bv, .ref bk, .ref q1, .ref q3, .int 0, .int 0, .int 0, .int 0])), (q1, .inl (k2, 12, .inl (fun _ => 0))), (q3, .inl (k4, 12, .inl g5))] := hD
  have hP := hP.sub (ws' := [(h0, .inr (0, [.int na, .ref bv, .ref bk, .ref q1, .ref q3, .int 0, .int 0, .int 0, .int 0]))]) [0] rfl
  have hD := hD.sub (ws' := [(h0, .inr (0, [.int na, .ref bv, .ref bk, .ref q1, .ref q3, .int 0, .int 0, .int 0, .int 0]))]) [0] (by decide) rfl
  have hK := hK.sub (tys' := []) [] rfl
  exact W.vret hx hb hr (fun t ht9 hW => ⟨⟨(), rfl, trivial, q1, q3, by rw [ht9]; exact hP, va_K.moved hW.alike hK, hD⟩, hS.F ht9⟩) hS.2.2 dX0_init_43
abbrev cX10_competition : ByteArray := prog_1_method_4_code
def yX10_competition : MethodName := ⟨RX10, "competition", "()I"⟩
theorem dX10_competition_0 : decode cX10_competition 0 = .ok (.aload_n 0, 1) := by decide +kernel
theorem dX10_competition_1 : decode cX10_competition 1 = .ok (.getfield 28, 3) := by decide +kernel
theorem dX10_competition_4 : decode cX10_competition 4 = .ok (.getfield 74, 3) := by decide +kernel
theorem dX10_competition_7 : decode cX10_competition 7 = .ok (.iconst 4, 1) := by decide +kernel
theorem dX10_competition_8 : decode cX10_competition 8 = .ok (.if_icmp .lt 14, 3) := by decide +kernel
theorem dX10_competition_22 : decode cX10_competition 22 = .ok (.aload_n 0, 1) := by decide +kernel
theorem dX10_competition_23 : decode cX10_competition 23 = .ok (.getfield 12, 3) := by decide +kernel
theorem dX10_competition_26 : decode cX10_competition 26 = .ok (.invokevirtual 80, 3) := by decide +kernel
theorem kw_439 : Cond.methodLink RX10 80 yX5_read ∈ lw_g := lw_at 439 (by decide +kernel) rfl
theorem kw_440 : Cond.instanceMethod yX5_read ∈ lw_g := lw_at 440 (by decide +kernel) rfl
theorem kw_441 : Cond.selects RX5 yX5_read yX5_read ∈ lw_g := lw_at 441 (by decide +kernel) rfl
theorem kw_442 : Cond.code yX5_read cX5_read 2 (some .boolean) ∈ lw_g := lw_at 442 (by decide +kernel) rfl
theorem gv_X10_80 : GoodIn lw_g (wsV RX10 80 RX5 yX5_read (.code yX5_read cX5_read 2 (some .boolean) :: lw_g)) := gi_V kw_439 kw_440 kw_441 kw_2 kw_442
theorem dX10_competition_29 : decode cX10_competition 29 = .ok (.istore_n 1, 1) := by decide +kernel
theorem dX10_competition_30 : decode cX10_competition 30 = .ok (.aload_n 0, 1) := by decide +kernel
theorem dX10_competition_31 : decode cX10_competition 31 = .ok (.getfield 12, 3) := by decide +kernel
theorem dX10_competition_34 : decode cX10_competition 34 = .ok (.iconst 0, 1) := by decide +kernel
theorem dX10_competition_35 : decode cX10_competition 35 = .ok (.putfield 66, 3) := by decide +kernel
theorem dX10_competition_38 : decode cX10_competition 38 = .ok (.iload_n 1, 1) := by decide +kernel
theorem dX10_competition_39 : decode cX10_competition 39 = .ok (.ifCond .ne 14, 3) := by decide +kernel
theorem dX10_competition_53 : decode cX10_competition 53 = .ok (.aload_n 0, 1) := by decide +kernel
theorem dX10_competition_54 : decode cX10_competition 54 = .ok (.getfield 28, 3) := by decide +kernel
theorem dX10_competition_57 : decode cX10_competition 57 = .ok (.getfield 74, 3) := by decide +kernel
theorem dX10_competition_60 : decode cX10_competition 60 = .ok (.istore_n 2, 1) := by decide +kernel
theorem dX10_competition_61 : decode cX10_competition 61 = .ok (.aload_n 0, 1) := by decide +kernel
theorem dX10_competition_62 : decode cX10_competition 62 = .ok (.getfield 28, 3) := by decide +kernel
theorem dX10_competition_65 : decode cX10_competition 65 = .ok (.getfield 87, 3) := by decide +kernel
theorem kw_148 : Cond.fieldLink RX10 87 "SportsHouse$Season" "competitions" "[LSportsHouse$Competition;" ∈ lw_g := lw_at 148 (by decide +kernel) rfl
theorem dX10_competition_68 : decode cX10_competition 68 = .ok (.iload_n 2, 1) := by decide +kernel
theorem dX10_competition_69 : decode cX10_competition 69 = .ok (.new 91, 3) := by decide +kernel
theorem kw_545 : Cond.classLink RX10 91 RX0 ∈ lw_g := lw_at 545 (by decide +kernel) rfl
theorem kw_546 : Cond.instantiable RX0 9 ∈ lw_g := lw_at 546 (by decide +kernel) rfl
theorem kw_15 : Cond.initialized RX0 ∈ lw_g := lw_at 15 (by decide +kernel) rfl
theorem dX10_competition_72 : decode cX10_competition 72 = .ok (.dup, 1) := by decide +kernel
theorem dX10_competition_73 : decode cX10_competition 73 = .ok (.iload_n 2, 1) := by decide +kernel
theorem dX10_competition_74 : decode cX10_competition 74 = .ok (.aload_n 0, 1) := by decide +kernel
theorem dX10_competition_75 : decode cX10_competition 75 = .ok (.getfield 12, 3) := by decide +kernel
theorem dX10_competition_78 : decode cX10_competition 78 = .ok (.getfield 93, 3) := by decide +kernel
theorem kw_44 : Cond.fieldLink RX10 93 "SportsHouse$RuleText" "values" "[I" ∈ lw_g := lw_at 44 (by decide +kernel) rfl
theorem dX10_competition_81 : decode cX10_competition 81 = .ok (.invokevirtual 96, 3) := by decide +kernel
theorem kw_547 : Cond.methodLink RX10 96 ⟨"[I", "clone", "()Ljava/lang/Object;"⟩ ∈ lw_g := lw_at 547 (by decide +kernel) rfl
theorem kw_548 : Cond.sameMethod "[I" "java/lang/Object" "clone" "()Ljava/lang/Object;" ∈ lw_g := lw_at 548 (by decide +kernel) rfl
theorem kw_549 : Cond.native ⟨"java/lang/Object", "clone", "()Ljava/lang/Object;"⟩ ∈ lw_g := lw_at 549 (by decide +kernel) rfl
theorem kw_550 : Cond.instanceMethod ⟨"java/lang/Object", "clone", "()Ljava/lang/Object;"⟩ ∈ lw_g := lw_at 550 (by decide +kernel) rfl
theorem kw_551 : Cond.selects "[I" ⟨"[I", "clone", "()Ljava/lang/Object;"⟩ ⟨"java/lang/Object", "clone", "()Ljava/lang/Object;"⟩ ∈ lw_g := lw_at 551 (by decide +kernel) rfl
theorem dX10_competition_84 : decode cX10_competition 84 = .ok (.checkcast 97, 3) := by decide +kernel
theorem kw_553 : Cond.classLink RX10 97 "[I" ∈ lw_g := lw_at 553 (by decide +kernel) rfl
theorem dX10_competition_87 : decode cX10_competition 87 = .ok (.aload_n 0, 1) := by decide +kernel
theorem dX10_competition_88 : decode cX10_competition 88 = .ok (.getfield 12, 3) := by decide +kernel
theorem dX10_competition_91 : decode cX10_competition 91 = .ok (.getfield 101, 3) := by decide +kernel
theorem kw_46 : Cond.fieldLink RX10 101 "SportsHouse$RuleText" "keys" "[I" ∈ lw_g := lw_at 46 (by decide +kernel) rfl
theorem dX10_competition_94 : decode cX10_competition 94 = .ok (.invokevirtual 96, 3) := by decide +kernel
theorem dX10_competition_97 : decode cX10_competition 97 = .ok (.checkcast 97, 3) := by decide +kernel
theorem dX10_competition_100 : decode cX10_competition 100 = .ok (.invokespecial 104, 3) := by decide +kernel
theorem kw_556 : Cond.code yX0_init cX0_init 4 none ∈ lw_g := lw_at 556 (by decide +kernel) rfl
theorem gc_X0_init : GoodIn lw_g (.code yX0_init cX0_init 4 none :: lw_g) := gi_c kw_556
theorem kw_554 : Cond.methodLink RX10 104 yX0_init ∈ lw_g := lw_at 554 (by decide +kernel) rfl
theorem kw_555 : Cond.instanceMethod yX0_init ∈ lw_g := lw_at 555 (by decide +kernel) rfl
theorem dX10_competition_103 : decode cX10_competition 103 = .ok (.aastore, 1) := by decide +kernel
theorem dX10_competition_104 : decode cX10_competition 104 = .ok (.aload_n 0, 1) := by decide +kernel
theorem dX10_competition_105 : decode cX10_competition 105 = .ok (.getfield 28, 3) := by decide +kernel
theorem dX10_competition_108 : decode cX10_competition 108 = .ok (.dup, 1) := by decide +kernel
theorem dX10_competition_109 : decode cX10_competition 109 = .ok (.getfield 74, 3) := by decide +kernel
theorem dX10_competition_112 : decode cX10_competition 112 = .ok (.iconst 1, 1) := by decide +kernel
theorem dX10_competition_113 : decode cX10_competition 113 = .ok (.iadd, 1) := by decide +kernel
theorem dX10_competition_114 : decode cX10_competition 114 = .ok (.putfield 74, 3) := by decide +kernel
theorem dX10_competition_117 : decode cX10_competition 117 = .ok (.iload_n 2, 1) := by decide +kernel
theorem dX10_competition_118 : decode cX10_competition 118 = .ok (.ireturn, 1) := by decide +kernel
set_option maxHeartbeats 4000000 in
set_option maxRecDepth 100000 in
theorem ct_X10_competition (l : Launch) (dC : Nat → ClassId) (dI : Nat → Nat → Nat) (x0 : Nat) (rt : Nat) (se : Nat) (av : Nat) (ak : Nat) (aq : Nat) (fx : List Value) (frt : List Value) (fse : List Value) (kav : ClassId) (gav : Nat → Int32) (kak : ClassId) (gak : Nat → Int32) (kaq : ClassId) (gaq : Nat → Option Nat) (hfx_0 : fx[0]? = some (.ref rt)) (hfx_2 : fx[2]? = some (.ref se)) (hn_frt : frt.length = 10) (hfrt_1 : frt[1]? = some (.int 0)) (hfrt_4 : frt[4]? = some (.ref av)) (hfrt_5 : frt[5]? = some (.ref ak)) (hfrt_7 : frt[7]? = some (.int 0)) (hfrt_9 : frt[9]? = some (.int 0)) (hn_fse : fse.length = 16) (hfse_1 : fse[1]? = some (.ref aq)) (hfse_2 : fse[2]? = some (.int 0)) (sz : Nat)  : Met l yX10_competition (.code yX10_competition cX10_competition 3 (some .int) :: lw_g) ({ frames := 3, cells := 5, slots := 56, locals := 180 }) (ra_P dC dI [(x0, .inr (10, fx)), (rt, .inr (5, frt)), (se, .inr (6, fse)), (av, .inl (kav, 16, .inl gav)), (ak, .inl (kak, 7, .inl gak)), (aq, .inl (kaq, 4, .inr (.inr (.inr (.inr gaq)))))] [(kav, .int), (kak, .int), (kaq, .object RX0)] sz [.ref x0]) (ri_Q 0 (va_A [(x0, .inr (10, fx)), (rt, .inr (5, frt)), (se, .inr (6, fse)), (av, .inl (kav, 16, .inl gav)), (ak, .inl (kak, 7, .inl gak)), (aq, .inl (kaq, 4, .inr (.inr (.inr (.inr gaq)))))] sz)) 5 56 (va_A [(x0, .inr (10, fx)), (rt, .inr (5, frt)), (se, .inr (6, fse)), (av, .inl (kav, 16, .inl gav)), (ak, .inl (kak, 7, .inl gak)), (aq, .inl (kaq, 4, .inr (.inr (.inr (.inr gaq)))))] sz) := by
  refine ra_entry (by decide) (Nat.le_of_ble_eq_true rfl) ?_
  intro p e s m below meth c ls hx hb hr hlocks ht hown hin hml hsz hP hK hD hE hEa hl
  subst hsz
  have hD := hD.self (sz := s.heap.size)
  generalize hAe : va_A [(x0, .inr (10, fx)), (rt, .inr (5, frt)), (se, .inr (6, fse)), (av, .inl (kav, 16, .inl gav)), (ak, .inl (kak, 7, .inl gak)), (aq, .inl (kaq, 4, .inr (.inr (.inr (.inr gaq)))))] s.heap.size = A at hD hEa ⊢
  obtain ⟨af, xf, hZf, hTf⟩ := id hEa
  have hA : ∀ q, s.heap.size ≤ q → A q := fun q h => by rw [← hAe]; exact Or.inr h
  have hS : va_S A s.heap s.heap [] := va_S.rf
  have hl : lv_has ls 3 [(0, .ref x0)] := hl
  have hown : s.vm.findClass RX10 = some m.cls := hown
  refine lv_aload_n hx hb dX10_competition_0 rfl (lv_at hl 0 rfl) ?_
  refine va_get (D := (dC, dI)) (ci := 10) (v := .ref se) (C := RX10) (T := TX10) (N := 7) hx hb ht inX10 hown hK hP 0 rfl rfl 2 (by decide) (ht _ kw_407) (fun _ h9 => h9) hfx_2 dX10_competition_1 ?_
  refine va_get (D := (dC, dI)) (ci := 6) (v := .int 0) (C := RX6) (T := TX6) (N := 16) hx hb ht inX6 hown hK hP 2 rfl rfl 2 (by decide) (ht _ kw_149) (fun _ h9 => h9) hfse_2 dX10_competition_4 ?_
  refine lv_iconst (v := 4) hx hb dX10_competition_7 (by decide) ?_
  refine lv_icmp_lt (tgt := 22) hx hb dX10_competition_8 (by decide) (fun c1 => ?_) (fun c1 => ?_)
  rotate_left
  · exact absurd (by decide) c1
  refine lv_aload_n hx hb dX10_competition_22 rfl (lv_at hl 0 rfl) ?_
  refine va_get (D := (dC, dI)) (ci := 10) (v := .ref rt) (C := RX10) (T := TX10) (N := 7) hx hb ht inX10 hown hK hP 0 rfl rfl 0 (by decide) (ht _ kw_405) (fun _ h9 => h9) hfx_0 dX10_competition_23 ?_
  have hPc := hP.sub (ws' := [(rt, .inr (5, frt)), (av, .inl (kav, 16, .inl gav)), (ak, .inl (kak, 7, .inl gak))]) [1, 3, 4] rfl
  have hDc := hD.sub (ws' := [(rt, .inr (5, frt)), (av, .inl (kav, 16, .inl gav)), (ak, .inl (kak, 7, .inl gak))]) [1, 3, 4] (by decide) rfl
  have hKc := hK.sub (tys' := [(kav, .int), (kak, .int)]) [0, 1] rfl
  have hFc := va_free (wc := [(rt, .inr (5, frt)), (av, .inl (kav, 16, .inl gav)), (ak, .inl (kak, 7, .inl gak))]) hD hS hA [1, 3, 4] rfl
  refine va_calli (va_runV (As := []) (rest := []) ⟨hx, hb, hml, hown, ht⟩ (ct_X5_read l dC dI rt av ak (frt) kav gav kak gak hn_frt hfrt_1 hfrt_4 hfrt_5 hfrt_7 hfrt_9 _ ) (cwV 0 ht gv_X10_80 rfl rfl rfl (by decide +kernel) ⟨Nat.le_of_ble_eq_true rfl, Nat.le_of_ble_eq_true rfl⟩) ⟨ra_blind, va_recv hKc hPc (ci := 5) (q0 := 0) rfl rfl, fun U hU hW => ⟨rfl, by rw [hU], by rw [hU]; exact hPc, va_K.moved hW.alike hKc, hDc.weaken (fun _ _ _ _ => trivial), ex_warm hW hE, ea_call hEa hS hFc hU hW⟩⟩ rfl rfl hl.1 rfl (lv_room (Nat.le_of_ble_eq_true rfl)) dX10_competition_26 ⟨Nat.le_of_ble_eq_true rfl, Nat.le_of_ble_eq_true rfl⟩) hS (fun q _ h => hFc q h) hFc (fun rr u t H1 locs ht1 hvm hw hB hz1 hk1 hS => ?_)
  obtain ⟨g2, g3, hP1, hK1, hD1⟩ := hB
  rw [ht1] at hP1
  obtain ⟨hP, hD⟩ := va_join (wr := [(x0, .inr (10, fx)), (se, .inr (6, fse)), (aq, .inl (kaq, 4, .inr (.inr (.inr (.inr gaq)))))]) (w1 := [(av, .inl (kav, 16, .inl g2)), (ak, .inl (kak, 7, .inl g3)), (rt, .inr (5, (((((((frt.set 2 (.int 0)).set 3 (.int (-1))).set 6 (.int 0)).set 9 (.int 0)).set 8 (.int 0)).set 9 (.int 0)).set 7 (.int 0))))]) hP hD [1, 3, 4] [0, 2, 5] rfl rfl (by decide) (by decide) hk1 hFc hP1 hD1
  generalize H1 = H at hP hS ⊢
  have hP : va_P (dC, dI) vwCl [(x0, .inr (10, fx)), (se, .inr (6, fse)), (aq, .inl (kaq, 4, .inr (.inr (.inr (.inr gaq))))), (av, .inl (kav, 16, .inl g2)), (ak, .inl (kak, 7, .inl g3)), (rt, .inr (5, (((((((frt.set 2 (.int 0)).set 3 (.int (-1))).set 6 (.int 0)).set 9 (.int 0)).set 8 (.int 0)).set 9 (.int 0)).set 7 (.int 0))))] H := hP
  have hD : va_D A [(x0, .inr (10, fx)), (se, .inr (6, fse)), (aq, .inl (kaq, 4, .inr (.inr (.inr (.inr gaq))))), (av, .inl (kav, 16, .inl g2)), (ak, .inl (kak, 7, .inl g3)), (rt, .inr (5, (((((((frt.set 2 (.int 0)).set 3 (.int (-1))).set 6 (.int 0)).set 9 (.int 0)).set 8 (.int 0)).set 9 (.int 0)).set 7 (.int 0))))] := hD
  subst hw
  refine lv_istore_n (lv' := [(1, .int 1), (0, .ref x0)]) hx hb dX10_competition_29 rfl hl (by decide) rfl (fun ls hl => ?_)
  refine lv_aload_n hx hb dX10_competition_30 rfl (lv_at hl 1 rfl) ?_
  refine va_get (D := (dC, dI)) (ci := 10) (v := .ref rt) (C := RX10) (T := TX10) (N := 7) hx hb ht inX10 hown hK hP 0 rfl rfl 0 (by decide) (ht _ kw_405) (fun _ h9 => h9) hfx_0 dX10_competition_31 ?_
  refine lv_iconst (v := 0) hx hb dX10_competition_34 (by decide) ?_
  refine va_put (D := (dC, dI)) (ci := 5) (v := .int 0) (ty := .int) (C := RX5) (T := TX5) (N := 10) hx hb ht inX5 tyX5 tyX5_ok nmX5 hown hK hP hD hS 5 rfl rfl 1 (by decide) (ht _ kw_37) (fun _ h9 => h9) rfl (by decide +kernel) rfl rfl (gs_lt (gs_len (gs_len (gs_len (gs_len (gs_len (gs_len (gs_len hn_frt))))))) (by decide)) dX10_competition_35 (fun H locs hP hD hS => ?_)
  have hP : va_P (dC, dI) vwCl [(x0, .inr (10, fx)), (se, .inr (6, fse)), (aq, .inl (kaq, 4, .inr (.inr (.inr (.inr gaq))))), (av, .inl (kav, 16, .inl g2)), (ak, .inl (kak, 7, .inl g3)), (rt, .inr (5, ((((((((frt.set 2 (.int 0)).set 3 (.int (-1))).set 6 (.int 0)).set 9 (.int 0)).set 8 (.int 0)).set 9 (.int 0)).set 7 (.int 0)).set 1 (.int 0))))] H := hP
  have hD : va_D A [(x0, .inr (10, fx)), (se, .inr (6, fse)), (aq, .inl (kaq, 4, .inr (.inr (.inr (.inr gaq))))), (av, .inl (kav, 16, .inl g2)), (ak, .inl (kak, 7, .inl g3)), (rt, .inr (5, ((((((((frt.set 2 (.int 0)).set 3 (.int (-1))).set 6 (.int 0)).set 9 (.int 0)).set 8 (.int 0)).set 9 (.int 0)).set 7 (.int 0)).set 1 (.int 0))))] := hD
  refine lv_iload_n hx hb dX10_competition_38 rfl (lv_at hl 0 rfl) ?_
  refine lv_if_ne (tgt := 53) hx hb dX10_competition_39 (by decide) (fun c4 => ?_) (fun c4 => ?_)
  rotate_left
  · exact absurd c4 (by decide)
  refine lv_aload_n hx hb dX10_competition_53 rfl (lv_at hl 1 rfl) ?_
  refine va_get (D := (dC, dI)) (ci := 10) (v := .ref se) (C := RX10) (T := TX10) (N := 7) hx hb ht inX10 hown hK hP 0 rfl rfl 2 (by decide) (ht _ kw_407) (fun _ h9 => h9) hfx_2 dX10_competition_54 ?_
  refine va_get (D := (dC, dI)) (ci := 6) (v := .int 0) (C := RX6) (T := TX6) (N := 16) hx hb ht inX6 hown hK hP 1 rfl rfl 2 (by decide) (ht _ kw_149) (fun _ h9 => h9) hfse_2 dX10_competition_57 ?_
  refine lv_istore_n (lv' := [(2, .int 0), (1, .int 1), (0, .ref x0)]) hx hb dX10_competition_60 rfl hl (by decide) rfl (fun ls hl => ?_)
  refine lv_aload_n hx hb dX10_competition_61 rfl (lv_at hl 2 rfl) ?_
  refine va_get (D := (dC, dI)) (ci := 10) (v := .ref se) (C := RX10) (T := TX10) (N := 7) hx hb ht inX10 hown hK hP 0 rfl rfl 2 (by decide) (ht _ kw_407) (fun _ h9 => h9) hfx_2 dX10_competition_62 ?_
  refine va_get (D := (dC, dI)) (ci := 6) (v := .ref aq) (C := RX6) (T := TX6) (N := 16) hx hb ht inX6 hown hK hP 1 rfl rfl 1 (by decide) (ht _ kw_148) (fun _ h9 => h9) hfse_1 dX10_competition_65 ?_
  refine lv_iload_n hx hb dX10_competition_68 rfl (lv_at hl 0 rfl) ?_
  refine va_new (ci := 0) (fs := [.int 0, .null, .null, .null, .null, .int 0, .int 0, .int 0, .int 0]) (C := RX0) (T := TX0) (N := 9) hx hb ht inX0 tyX0 tyX0_ok hown (ht _ kw_545) (ht _ kw_546) (ht _ kw_15) hK hP hD hS hA rfl nf_X0 (Nat.le_of_ble_eq_true rfl) (Nat.le_of_ble_eq_true rfl) dX10_competition_69 (fun q5 H hP hD hS => ?_)
  have hP : va_P (dC, dI) vwCl [(x0, .inr (10, fx)), (se, .inr (6, fse)), (aq, .inl (kaq, 4, .inr (.inr (.inr (.inr gaq))))), (av, .inl (kav, 16, .inl g2)), (ak, .inl (kak, 7, .inl g3)), (rt, .inr (5, ((((((((frt.set 2 (.int 0)).set 3 (.int (-1))).set 6 (.int 0)).set 9 (.int 0)).set 8 (.int 0)).set 9 (.int 0)).set 7 (.int 0)).set 1 (.int 0)))), (q5, .inr (0, [.int 0, .null, .null, .null, .null, .int 0, .int 0, .int 0, .int 0]))] H := hP
  have hD : va_D A [(x0, .inr (10, fx)), (se, .inr (6, fse)), (aq, .inl (kaq, 4, .inr (.inr (.inr (.inr gaq))))), (av, .inl (kav, 16, .inl g2)), (ak, .inl (kak, 7, .inl g3)), (rt, .inr (5, ((((((((frt.set 2 (.int 0)).set 3 (.int (-1))).set 6 (.int 0)).set 9 (.int 0)).set 8 (.int 0)).set 9 (.int 0)).set 7 (.int 0)).set 1 (.int 0)))), (q5, .inr (0, [.int 0, .null, .null, .null, .null, .int 0, .int 0, .int 0, .int 0]))] := hD
  refine W.widen (k := 1) (n := 9) (Nat.le_of_ble_eq_true rfl) (Nat.le_of_ble_eq_true rfl) ?_
  refine lv_dup hx hb dX10_competition_72 rfl ?_
  refine lv_iload_n hx hb dX10_competition_73 rfl (lv_at hl 0 rfl) ?_
  refine lv_aload_n hx hb dX10_competition_74 rfl (lv_at hl 2 rfl) ?_
  refine va_get (D := (dC, dI)) (ci := 10) (v := .ref rt) (C := RX10) (T := TX10) (N := 7) hx hb ht inX10 hown hK hP 0 rfl rfl 0 (by decide) (ht _ kw_405) (fun _ h9 => h9) hfx_0 dX10_competition_75 ?_
  refine va_get (D := (dC, dI)) (ci := 5) (v := .ref av) (C := RX5) (T := TX5) (N := 10) hx hb ht inX5 hown hK hP 5 rfl rfl 4 (by decide) (ht _ kw_44) (fun _ h9 => h9) (gs_ne (by decide) (gs_ne (by decide) (gs_ne (by decide) (gs_ne (by decide) (gs_ne (by decide) (gs_ne (by decide) (gs_ne (by decide) (gs_ne (by decide) hfrt_4)))))))) dX10_competition_78 ?_
  refine va_clone (ad := "[I") hx hb (by rw [hml]; exact hl.1.symm) hown (ht _ kw_547) (ht _ kw_548) (ht _ kw_549) (ht _ kw_550) (ht _ kw_551) hE.2.2.1 hK hP hD hS hA 3 0 rfl rfl (ar_nm (hK.2 0 _ rfl).2) (va_fit (fun _ _ => rfl)) (Nat.le_of_ble_eq_true rfl) (Nat.le_of_ble_eq_true rfl) (Nat.le_of_ble_eq_true rfl) (Nat.le_of_ble_eq_true rfl) dX10_competition_81 (fun q6 H hK hP hD hS => ?_)
  have hP : va_P (dC, dI) vwCl [(x0, .inr (10, fx)), (se, .inr (6, fse)), (aq, .inl (kaq, 4, .inr (.inr (.inr (.inr gaq))))), (av, .inl (kav, 16, .inl g2)), (ak, .inl (kak, 7, .inl g3)), (rt, .inr (5, ((((((((frt.set 2 (.int 0)).set 3 (.int (-1))).set 6 (.int 0)).set 9 (.int 0)).set 8 (.int 0)).set 9 (.int 0)).set 7 (.int 0)).set 1 (.int 0)))), (q5, .inr (0, [.int 0, .null, .null, .null, .null, .int 0, .int 0, .int 0, .int 0])), (q6, .inl (kav, 16, .inl g2))] H := hP
  have hD : va_D A [(x0, .inr (10, fx)), (se, .inr (6, fse)), (aq, .inl (kaq, 4, .inr (.inr (.inr (.inr gaq))))), (av, .inl (kav, 16, .inl g2)), (ak, .inl (kak, 7, .inl g3)), (rt, .inr (5, ((((((((frt.set 2 (.int 0)).set 3 (.int (-1))).set 6 (.int 0)).set 9 (.int 0)).set 8 (.int 0)).set 9 (.int 0)).set 7 (.int 0)).set 1 (.int 0)))), (q5, .inr (0, [.int 0, .null, .null, .null, .null, .int 0, .int 0, .int 0, .int 0])), (q6, .inl (kav, 16, .inl g2))] := hD
  have hK : va_K (dC, dI) vwCl [(kav, .int), (kak, .int), (kaq, .object RX0), (kav, .int)] s := hK
  refine W.widen (k := 2) (n := 25) (Nat.le_of_ble_eq_true rfl) (Nat.le_of_ble_eq_true rfl) ?_
  refine va_castA (nm := "[I") hx hb hown (ht _ kw_553) hP 7 rfl (ar_nm (hK.2 0 _ rfl).2) dX10_competition_84 ?_
  refine lv_aload_n hx hb dX10_competition_87 rfl (lv_at hl 2 rfl) ?_
  refine va_get (D := (dC, dI)) (ci := 10) (v := .ref rt) (C := RX10) (T := TX10) (N := 7) hx hb ht inX10 hown hK hP 0 rfl rfl 0 (by decide) (ht _ kw_405) (fun _ h9 => h9) hfx_0 dX10_competition_88 ?_
  refine va_get (D := (dC, dI)) (ci := 5) (v := .ref ak) (C := RX5) (T := TX5) (N := 10) hx hb ht inX5 hown hK hP 5 rfl rfl 5 (by decide) (ht _ kw_46) (fun _ h9 => h9) (gs_ne (by decide) (gs_ne (by decide) (gs_ne (by decide) (gs_ne (by decide) (gs_ne (by decide) (gs_ne (by decide) (gs_ne (by decide) (gs_ne (by decide) hfrt_5)))))))) dX10_competition_91 ?_
  refine va_clone (ad := "[I") hx hb (by rw [hml]; exact hl.1.symm) hown (ht _ kw_547) (ht _ kw_548) (ht _ kw_549) (ht _ kw_550) (ht _ kw_551) hE.2.2.1 hK hP hD hS hA 4 1 rfl rfl (ar_nm (hK.2 1 _ rfl).2) (va_fit (fun _ _ => rfl)) (Nat.le_of_ble_eq_true rfl) (Nat.le_of_ble_eq_true rfl) (Nat.le_of_ble_eq_true rfl) (Nat.le_of_ble_eq_true rfl) dX10_competition_94 (fun q7 H hK hP hD hS => ?_)
  have hP : va_P (dC, dI) vwCl [(x0, .inr (10, fx)), (se, .inr (6, fse)), (aq, .inl (kaq, 4, .inr (.inr (.inr (.inr gaq))))), (av, .inl (kav, 16, .inl g2)), (ak, .inl (kak, 7, .inl g3)), (rt, .inr (5, ((((((((frt.set 2 (.int 0)).set 3 (.int (-1))).set 6 (.int 0)).set 9 (.int 0)).set 8 (.int 0)).set 9 (.int 0)).set 7 (.int 0)).set 1 (.int 0)))), (q5, .inr (0, [.int 0, .null, .null, .null, .null, .int 0, .int 0, .int 0, .int 0])), (q6, .inl (kav, 16, .inl g2)), (q7, .inl (kak, 7, .inl g3))] H := hP
  have hD : va_D A [(x0, .inr (10, fx)), (se, .inr (6, fse)), (aq, .inl (kaq, 4, .inr (.inr (.inr (.inr gaq))))), (av, .inl (kav, 16, .inl g2)), (ak, .inl (kak, 7, .inl g3)), (rt, .inr (5, ((((((((frt.set 2 (.int 0)).set 3 (.int (-1))).set 6 (.int 0)).set 9 (.int 0)).set 8 (.int 0)).set 9 (.int 0)).set 7 (.int 0)).set 1 (.int 0)))), (q5, .inr (0, [.int 0, .null, .null, .null, .null, .int 0, .int 0, .int 0, .int 0])), (q6, .inl (kav, 16, .inl g2)), (q7, .inl (kak, 7, .inl g3))] := hD
  have hK : va_K (dC, dI) vwCl [(kav, .int), (kak, .int), (kaq, .object RX0), (kav, .int), (kak, .int)] s := hK
  refine W.widen (k := 3) (n := 32) (Nat.le_of_ble_eq_true rfl) (Nat.le_of_ble_eq_true rfl) ?_
  refine va_castA (nm := "[I") hx hb hown (ht _ kw_553) hP 8 rfl (ar_nm (hK.2 1 _ rfl).2) dX10_competition_97 ?_
  have hPc := hP.sub (ws' := [(q5, .inr (0, [.int 0, .null, .null, .null, .null, .int 0, .int 0, .int 0, .int 0]))]) [6] rfl
  have hDc := hD.sub (ws' := [(q5, .inr (0, [.int 0, .null, .null, .null, .null, .int 0, .int 0, .int 0, .int 0]))]) [6] (by decide) rfl
  have hKc := hK.sub (tys' := []) [] rfl
  have hFc := va_free (wc := [(q5, .inr (0, [.int 0, .null, .null, .null, .null, .int 0, .int 0, .int 0, .int 0]))]) hD hS hA [6] rfl
  refine va_callv (va_runI (As := [.int 0, .ref q6, .ref q7]) (rest := [.ref q5, .int 0, .ref aq]) ⟨hx, hb, hml, hown, ht⟩ (ct_X0_init l dC dI q5 q6 q7 _ 0) (cwI 3 ht gc_X0_init rfl rfl rfl (ht _ kw_15) (ht _ kw_554) (ht _ kw_555) rfl (by decide +kernel) ⟨Nat.le_of_ble_eq_true rfl, Nat.le_of_ble_eq_true rfl⟩) ⟨ro_blind, fun U hU hW => ⟨rfl, by rw [hU], by rw [hU]; exact hPc, va_K.moved hW.alike hKc, hDc.weaken (fun _ _ _ _ => trivial), ex_warm hW hE⟩⟩ rfl rfl hl.1 rfl (lv_room (Nat.le_of_ble_eq_true rfl)) dX10_competition_100 ⟨Nat.le_of_ble_eq_true rfl, Nat.le_of_ble_eq_true rfl⟩) hS (fun q _ h => hFc q h) hFc (fun u t H1 locs ht1 hvm hw hB hz1 hk1 hS => ?_)
  obtain ⟨q8, q9, hP1, hK1, hD1⟩ := hB
  rw [ht1] at hP1
  obtain ⟨hP, hD⟩ := va_join (wr := [(x0, .inr (10, fx)), (se, .inr (6, fse)), (aq, .inl (kaq, 4, .inr (.inr (.inr (.inr gaq))))), (av, .inl (kav, 16, .inl g2)), (ak, .inl (kak, 7, .inl g3)), (rt, .inr (5, ((((((((frt.set 2 (.int 0)).set 3 (.int (-1))).set 6 (.int 0)).set 9 (.int 0)).set 8 (.int 0)).set 9 (.int 0)).set 7 (.int 0)).set 1 (.int 0)))), (q6, .inl (kav, 16, .inl g2)), (q7, .inl (kak, 7, .inl g3))]) (w1 := [(q5, .inr (0, [.int 0, .ref q6, .ref q7, .ref q8, .ref q9, .int 0, .int 0, .int 0, .int 0]))]) hP hD [6] [0, 1, 2, 3, 4, 5, 7, 8] rfl rfl (by decide) (by decide) hk1 hFc hP1 hD1
  generalize H1 = H at hP hS ⊢
  have hP : va_P (dC, dI) vwCl [(x0, .inr (10, fx)), (se, .inr (6, fse)), (aq, .inl (kaq, 4, .inr (.inr (.inr (.inr gaq))))), (av, .inl (kav, 16, .inl g2)), (ak, .inl (kak, 7, .inl g3)), (rt, .inr (5, ((((((((frt.set 2 (.int 0)).set 3 (.int (-1))).set 6 (.int 0)).set 9 (.int 0)).set 8 (.int 0)).set 9 (.int 0)).set 7 (.int 0)).set 1 (.int 0)))), (q6, .inl (kav, 16, .inl g2)), (q7, .inl (kak, 7, .inl g3)), (q5, .inr (0, [.int 0, .ref q6, .ref q7, .ref q8, .ref q9, .int 0, .int 0, .int 0, .int 0]))] H := hP
  have hD : va_D A [(x0, .inr (10, fx)), (se, .inr (6, fse)), (aq, .inl (kaq, 4, .inr (.inr (.inr (.inr gaq))))), (av, .inl (kav, 16, .inl g2)), (ak, .inl (kak, 7, .inl g3)), (rt, .inr (5, ((((((((frt.set 2 (.int 0)).set 3 (.int (-1))).set 6 (.int 0)).set 9 (.int 0)).set 8 (.int 0)).set 9 (.int 0)).set 7 (.int 0)).set 1 (.int 0)))), (q6, .inl (kav, 16, .inl g2)), (q7, .inl (kak, 7, .inl g3)), (q5, .inr (0, [.int 0, .ref q6, .ref q7, .ref q8, .ref q9, .int 0, .int 0, .int 0, .int 0]))] := hD
  refine W.widen (k := 5) (n := 56) (Nat.le_of_ble_eq_true rfl) (Nat.le_of_ble_eq_true rfl) ?_
  refine va_astq hx hb hK hP hD hS 2 2 8 0 rfl rfl rfl vi_0 (by unfold vp_in; decide) dX10_competition_103 (fun H locs hP hD hS => ?_)
  generalize va_up gaq (0 : Int32).toNatClampNeg (some q5) = o10 at hP hD
  have hP : va_P (dC, dI) vwCl [(x0, .inr (10, fx)), (se, .inr (6, fse)), (aq, .inl (kaq, 4, .inr (.inr (.inr (.inr o10))))), (av, .inl (kav, 16, .inl g2)), (ak, .inl (kak, 7, .inl g3)), (rt, .inr (5, ((((((((frt.set 2 (.int 0)).set 3 (.int (-1))).set 6 (.int 0)).set 9 (.int 0)).set 8 (.int 0)).set 9 (.int 0)).set 7 (.int 0)).set 1 (.int 0)))), (q6, .inl (kav, 16, .inl g2)), (q7, .inl (kak, 7, .inl g3)), (q5, .inr (0, [.int 0, .ref q6, .ref q7, .ref q8, .ref q9, .int 0, .int 0, .int 0, .int 0]))] H := hP
  have hD : va_D A [(x0, .inr (10, fx)), (se, .inr (6, fse)), (aq, .inl (kaq, 4, .inr (.inr (.inr (.inr o10))))), (av, .inl (kav, 16, .inl g2)), (ak, .inl (kak, 7, .inl g3)), (rt, .inr (5, ((((((((frt.set 2 (.int 0)).set 3 (.int (-1))).set 6 (.int 0)).set 9 (.int 0)).set 8 (.int 0)).set 9 (.int 0)).set 7 (.int 0)).set 1 (.int 0)))), (q6, .inl (kav, 16, .inl g2)), (q7, .inl (kak, 7, .inl g3)), (q5, .inr (0, [.int 0, .ref q6, .ref q7, .ref q8, .ref q9, .int 0, .int 0, .int 0, .int 0]))] := hD
  refine lv_aload_n hx hb dX10_competition_104 rfl (lv_at hl 2 rfl) ?_
  refine va_get (D := (dC, dI)) (ci := 10) (v := .ref se) (C := RX10) (T := TX10) (N := 7) hx hb ht inX10 hown hK hP 0 rfl rfl 2 (by decide) (ht _ kw_407) (fun _ h9 => h9) hfx_2 dX10_competition_105 ?_
  refine lv_dup hx hb dX10_competition_108 rfl ?_
  refine va_get (D := (dC, dI)) (ci := 6) (v := .int 0) (C := RX6) (T := TX6) (N := 16) hx hb ht inX6 hown hK hP 1 rfl rfl 2 (by decide) (ht _ kw_149) (fun _ h9 => h9) hfse_2 dX10_competition_109 ?_
  refine lv_iconst (v := 1) hx hb dX10_competition_112 (by decide) ?_
  refine lv_iadd hx hb dX10_competition_113 ?_
  refine lv_topi (fun r11 er11 => ?_)
  have er11 : r11 = 1 := er11.trans (by decide)
  subst er11
  refine va_put (D := (dC, dI)) (ci := 6) (v := .int 1) (ty := .int) (C := RX6) (T := TX6) (N := 16) hx hb ht inX6 tyX6 tyX6_ok nmX6 hown hK hP hD hS 1 rfl rfl 2 (by decide) (ht _ kw_149) (fun _ h9 => h9) rfl (by decide +kernel) rfl rfl (gs_lt hn_fse (by decide)) dX10_competition_114 (fun H locs hP hD hS => ?_)
  have hP : va_P (dC, dI) vwCl [(x0, .inr (10, fx)), (se, .inr (6, (fse.set 2 (.int 1)))), (aq, .inl (kaq, 4, .inr (.inr (.inr (.inr o10))))), (av, .inl (kav, 16, .inl g2)), (ak, .inl (kak, 7, .inl g3)), (rt, .inr (5, ((((((((frt.set 2 (.int 0)).set 3 (.int (-1))).set 6 (.int 0)).set 9 (.int 0)).set 8 (.int 0)).set 9 (.int 0)).set 7 (.int 0)).set 1 (.int 0)))), (q6, .inl (kav, 16, .inl g2)), (q7, .inl (kak, 7, .inl g3)), (q5, .inr (0, [.int 0, .ref q6, .ref q7, .ref q8, .ref q9, .int 0, .int 0, .int 0, .int 0]))] H := hP
  have hD : va_D A [(x0, .inr (10, fx)), (se, .inr (6, (fse.set 2 (.int 1)))), (aq, .inl (kaq, 4, .inr (.inr (.inr (.inr o10))))), (av, .inl (kav, 16, .inl g2)), (ak, .inl (kak, 7, .inl g3)), (rt, .inr (5, ((((((((frt.set 2 (.int 0)).set 3 (.int (-1))).set 6 (.int 0)).set 9 (.int 0)).set 8 (.int 0)).set 9 (.int 0)).set 7 (.int 0)).set 1 (.int 0)))), (q6, .inl (kav, 16, .inl g2)), (q7, .inl (kak, 7, .inl g3)), (q5, .inr (0, [.int 0, .ref q6, .ref q7, .ref q8, .ref q9, .int 0, .int 0, .int 0, .int 0]))] := hD
  refine lv_iload_n hx hb dX10_competition_117 rfl (lv_at hl 0 rfl) ?_
  exact W.iret hx hb hr (fun t ht9 hW => ⟨⟨_, (), rfl, rfl, trivial⟩, hS.F ht9⟩) hS.2.2 dX10_competition_118
