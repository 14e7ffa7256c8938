-- what the Statement gives of the statics and the texts
abbrev GV_ : Cond := Jvm.Cond.and given_1 narrow_1
def tS_ (i : Nat) : Term := .string "SportsHouse$RuleText" (stx_ i).1
def tV_ (i : Nat) : Term := .field (tS_ i) "java/lang/String" "value" "[B"
def tA_ (i : Nat) : Term := .static "SportsHouse$RuleText" (sn_ i) "[I"
set_option maxRecDepth 100000 in
theorem gm_a : ∀ i : Nat, i < 3 → Cond.arrayOf (tA_ i) .int ∈ flatC GV_ ∧ Cond.eq (.length (tA_ i)) (.int 16) ∈ flatC GV_ ∧ ∀ j : Nat, j < 16 → Cond.eq (.elem (tA_ i) (.int (Int32.ofNat j))) (.int (Int32.ofInt ((sa_ i).getD j 0))) ∈ flatC GV_ := by decide +kernel
set_option maxRecDepth 100000 in
theorem gm_s : ∀ i : Nat, i < 3 → Cond.exactly (tS_ i) "java/lang/String" ∈ flatC GV_ ∧ Cond.eq (.field (tS_ i) "java/lang/String" "coder" "B") (.int 0) ∈ flatC GV_ ∧ Cond.arrayOf (tV_ i) .byte ∈ flatC GV_ ∧ Cond.eq (.length (tV_ i)) (.int (Int32.ofNat (sle_.getD i 0))) ∈ flatC GV_ := by decide +kernel
set_option maxRecDepth 100000 in
theorem gm_x : ∀ i : Nat, i < 3 → ∀ j : Nat, j < sle_.getD i 0 → (flatC GV_)[([70, 156, 197] : List Nat).getD i 0 + j]? = some (Cond.eq (.elem (tV_ i) (.int (Int32.ofNat j))) (.int ((sby_.getD i []).getD j 0))) := by decide +kernel
theorem gm_e : ∀ i : Nat, i < 3 → ∀ j : Nat, j < sle_.getD i 0 → Cond.eq (.elem (tV_ i) (.int (Int32.ofNat j))) (.int ((sby_.getD i []).getD j 0)) ∈ flatC GV_ := fun i hi j hj => List.mem_of_getElem? (gm_x i hi j hj)
set_option maxRecDepth 100000 in
theorem gm_n : ∀ i : Nat, i < 3 → ∀ j : Nat, j < 3 → i ≠ j → Cond.not (Cond.eq (tS_ i) (tS_ j)) ∈ flatC GV_ ∨ Cond.not (Cond.eq (tS_ j) (tS_ i)) ∈ flatC GV_ := by decide +kernel
set_option maxRecDepth 100000 in
theorem gm_c : Cond.eq (.static "java/lang/String" "COMPACT_STRINGS" "Z") (.int 1) ∈ flatC GV_ ∧ Cond.isRef (.static "jdk/internal/util/Preconditions" "SIOOBE_FORMATTER" "Ljava/util/function/BiFunction;") ∈ flatC GV_ := by decide +kernel
theorem lx_se {s : State} {b : Nat} (hts : ∀ w ∈ lw_tbl, w.before #[Value.ref b] s = true) (hgv : (Jvm.Cond.and given_1 narrow_1).before #[Value.ref b] s = true) : ∃ ad0 : Nat → Int → Nat, se_ ad0 (LA_ s) s := by
  have hs := flat_of_before _ hgv
  have hA : ∀ a : Nat, a < s.heap.size → ¬ LA_ s a := fun a h q => absurd h (Nat.not_lt.mpr q)
  have hl : ∀ i : Nat, i < 3 → Cond.laysStatic "SportsHouse$RuleText" (sn_ i) "[I" ∈ lw_tbl := fun i hi => by
    rcases (show i = 0 ∨ i = 1 ∨ i = 2 by omega) with rfl | rfl | rfl
    · exact lw_any 444 (by decide +kernel)
    · exact lw_any 539 (by decide +kernel)
    · exact lw_any 533 (by decide +kernel)
  have har : ∀ i : Nat, ∃ af : Nat, i < 3 → va_Z "SportsHouse$RuleText" (sn_ i) "[I" (.ref af) (LA_ s) s s.heap ∧ va_T .int af 16 (fun j => .int (Int32.ofInt ((sa_ i).getD j 0))) (LA_ s) s s.heap := fun i => by
    by_cases hi : i < 3
    · obtain ⟨g1, g2, g3⟩ := gm_a i hi
      obtain ⟨af, haf, hT⟩ := va_Tof (tm := tA_ i) (ty := .int) (N := 16) (f := fun j => .int (Int32.ofInt ((sa_ i).getD j 0))) (A := LA_ s) (by decide) (hs _ g1) (va_eqt (hs _ g2)) (fun j hj => va_eqt (hs _ (g3 j hj))) hA
      exact ⟨af, fun _ => ⟨va_Zref (hts _ (hl i hi)) (hts (Cond.initialized "SportsHouse$RuleText") (lw_any 2 (by decide +kernel))) haf hA, hT⟩⟩
    · exact ⟨0, fun h => absurd h hi⟩
  obtain ⟨af, haf⟩ := Classical.axiomOfChoice har
  obtain ⟨adK, adV, hS, hev⟩ := vk_Sof (args := #[Value.ref b]) (s := s) (N := 3) (tm := tS_) (len := sle_) (byt := sby_) (A := LA_ s) (by decide) (fun i hi => hs _ (gm_s i hi).1) (fun i hi => hs _ (gm_s i hi).2.1) (fun i hi => hs _ (gm_s i hi).2.2.1) (fun i hi => hs _ (gm_s i hi).2.2.2) (fun i hi j hj => hs _ (gm_e i hi j hj)) (fun i j hi hj hij => (gm_n i hi j hj hij).imp (hs _) (hs _)) hA
  have hsr : ∀ i : Nat, i < 3 → Cond.stringRef "SportsHouse$RuleText" (stx_ i).1 (stx_ i).2 ∈ lw_tbl := fun i hi => by
    rcases (show i = 0 ∨ i = 1 ∨ i = 2 by omega) with rfl | rfl | rfl
    · exact lw_any 462 (by decide +kernel)
    · exact lw_any 527 (by decide +kernel)
    · exact lw_any 544 (by decide +kernel)
  have hcs := va_Zof (A := LA_ s) (hts (Cond.laysStatic "java/lang/String" "COMPACT_STRINGS" "Z") (lw_any 484 (by decide +kernel))) (hts (Cond.initialized "java/lang/String") (lw_any 11 (by decide +kernel))) (va_eqt (hs _ gm_c.1)) hA
  obtain ⟨v, hv, hvr⟩ := Cond.isRef_spec (show (Cond.isRef (.static "jdk/internal/util/Preconditions" "SIOOBE_FORMATTER" "Ljava/util/function/BiFunction;")).before #[Value.ref b] s = true from hs _ gm_c.2)
  have hfo := va_Zof (A := LA_ s) (hts (Cond.laysStatic "jdk/internal/util/Preconditions" "SIOOBE_FORMATTER" "Ljava/util/function/BiFunction;") (lw_any 500 (by decide +kernel))) (hts (Cond.initialized "jdk/internal/util/Preconditions") (lw_any 13 (by decide +kernel))) hv hA
  refine ⟨fun k i => if k = 81 then af i.toNat else if k = 82 then adK i.toNat else if k = 83 then adV i.toNat else (match v with | .ref q => q | _ => 0), fun i hi => haf i hi, hS, fun i hi => vk_R.of (hts _ (hsr i hi)) (hev i hi), hcs, ?_⟩
  cases v with
  | null => exact Or.inl hfo
  | ref q => exact Or.inr hfo
  | _ => cases hvr
-- what the tables give at the start
theorem kw_546 : Cond.instantiable RX0 9 ∈ lw_g := lwq_3 (dqc_m (dqc_m (List.mem_of_getElem? (i := 2) rfl))) rfl
theorem kw_701 : Cond.instantiable RX2 11 ∈ lw_g := lwq_3 (dqc_m (dqc_m (dqc_m (dqc_m (dqc_m (dqc_m (dqa_m (dqa_m (dqa_m (List.mem_of_getElem? (i := 5) rfl)))))))))) rfl
theorem kw_900 : Cond.instantiable RX3 18 ∈ lw_g := lwq_4 (dqc_m (dqc_m (dqc_m (dqc_m (dqc_m (dqa_m (dqa_m (List.mem_of_getElem? (i := 4) rfl)))))))) rfl
theorem kw_22 : Cond.instantiable RX10 7 ∈ lw_g := lwq_1 (dqa_m (dqa_m (List.mem_of_getElem? (i := 6) rfl))) rfl
theorem kw_1422 : Cond.instantiable RX11 114 ∈ lw_g := lwq_6 (dqc_m (dqc_m (dqc_m (dqc_m (dqc_m (dqc_m (dqa_m (dqa_m (dqa_m (List.mem_of_getElem? (i := 6) rfl)))))))))) rfl
def lw_At (p : Program) (s : State) (m : MethodId) (meth : Method) (c : Code) (b L : Nat) (xs : Nat → Int32) : Prop :=
  p.tables.exec = Jvm.exec ∧ c.code = code ∧ meth.sig.returnType = ret ∧ c.maxLocals = 4 ∧ s.vm.findClass R_law = some m.cls ∧ (∀ w ∈ lw_tbl, w.before #[Value.ref b] s = true) ∧ va_X b L xs s s.heap ∧ b < s.heap.size ∧ meth.locks = false ∧ (Jvm.Cond.and given_1 narrow_1).before #[Value.ref b] s = true
theorem lx_E {s : State} {b : Nat} (hts : ∀ w ∈ lw_tbl, w.before #[Value.ref b] s = true) : ex_E s := ⟨va_AO.of (hts (Cond.arrayOver (.object "SportsHouse$Competition")) (lw_any 143 (by decide +kernel))), va_AO.of (hts (Cond.arrayOver (.object "SportsHouse$Match")) (lw_any 145 (by decide +kernel))), va_Nw.of rfl (hts (Cond.castable "[I" "java/lang/Cloneable") (lw_any 552 (by decide +kernel))), va_Nw.of rfl (hts (Cond.methodLinkNest "SportsHouse" 11 ⟨"SportsHouse$RuleText", "<init>", "()V"⟩ "SportsHouse") (lw_any 31 (by decide +kernel))), va_Nw.of rfl (hts (Cond.methodLinkNest "SportsHouse" 18 ⟨"SportsHouse$Things", "<init>", "()V"⟩ "SportsHouse") (lw_any 75 (by decide +kernel))), va_Nw.of rfl (hts (Cond.methodLinkNest "SportsHouse$Play" 89 ⟨"SportsHouse", "isSide", "(I)Z"⟩ "SportsHouse") (lw_any 995 (by decide +kernel)))⟩
theorem lx_K {s : State} {b : Nat} (ht : ∀ w ∈ lw_g, w.before #[Value.ref b] s = true) : ∃ (dC : Nat → ClassId) (dI : Nat → Nat → Nat), ∀ (k : Nat) (q : vw_C), vwCl[k]? = some q → u_Kn s q.1 q.2.1 q.2.2 (dC k) (dI k) := by
  obtain ⟨c0, i0, h0⟩ := u_known (C := RX0) (T := TX0) (N := 9) (n := 9) ht inX0 (ht _ kw_546)
  obtain ⟨c1, i1, h1⟩ := u_known (C := RX1) (T := TX1) (N := 16) (n := 16) ht inX1 (ht _ kw_321)
  obtain ⟨c2, i2, h2⟩ := u_known (C := RX2) (T := TX2) (N := 11) (n := 11) ht inX2 (ht _ kw_701)
  obtain ⟨c3, i3, h3⟩ := u_known (C := RX3) (T := TX3) (N := 18) (n := 18) ht inX3 (ht _ kw_900)
  obtain ⟨c4, i4, h4⟩ := u_known (C := RX4) (T := TX4) (N := 5) (n := 5) ht inX4 (ht _ kw_384)
  obtain ⟨c5, i5, h5⟩ := u_known (C := RX5) (T := TX5) (N := 10) (n := 10) ht inX5 (ht _ kw_30)
  obtain ⟨c6, i6, h6⟩ := u_known (C := RX6) (T := TX6) (N := 16) (n := 16) ht inX6 (ht _ kw_137)
  obtain ⟨c7, i7, h7⟩ := u_known (C := RX7) (T := TX7) (N := 14) (n := 14) ht inX7 (ht _ kw_206)
  obtain ⟨c8, i8, h8⟩ := u_known (C := RX8) (T := TX8) (N := 14) (n := 14) ht inX8 (ht _ kw_74)
  obtain ⟨c9, i9, h9⟩ := u_known (C := RX9) (T := TX9) (N := 16) (n := 16) ht inX9 (ht _ kw_260)
  obtain ⟨c10, i10, h10⟩ := u_known (C := RX10) (T := TX10) (N := 7) (n := 7) ht inX10 (ht _ kw_22)
  obtain ⟨c11, i11, h11⟩ := u_known (C := RX11) (T := TX11) (N := 114) (n := 114) ht inX11 (ht _ kw_1422)
  refine ⟨fun k => if k = 0 then c0 else if k = 1 then c1 else if k = 2 then c2 else if k = 3 then c3 else if k = 4 then c4 else if k = 5 then c5 else if k = 6 then c6 else if k = 7 then c7 else if k = 8 then c8 else if k = 9 then c9 else if k = 10 then c10 else c11, fun k => if k = 0 then i0 else if k = 1 then i1 else if k = 2 then i2 else if k = 3 then i3 else if k = 4 then i4 else if k = 5 then i5 else if k = 6 then i6 else if k = 7 then i7 else if k = 8 then i8 else if k = 9 then i9 else if k = 10 then i10 else i11, ?_⟩
  intro k q hq
  match k, hq with
  | 0, hq => cases hq; exact h0
  | 1, hq => cases hq; exact h1
  | 2, hq => cases hq; exact h2
  | 3, hq => cases hq; exact h3
  | 4, hq => cases hq; exact h4
  | 5, hq => cases hq; exact h5
  | 6, hq => cases hq; exact h6
  | 7, hq => cases hq; exact h7
  | 8, hq => cases hq; exact h8
  | 9, hq => cases hq; exact h9
  | 10, hq => cases hq; exact h10
  | 11, hq => cases hq; exact h11
  | k + 12, hq => simp [vwCl] at hq
theorem ar_b {s : State} {b : Nat} (h : (Cond.arrayClass .boolean).before #[Value.ref b] s = true) : ∃ cB : ClassId, ArrOfT s cB .boolean ∧ va_RA s cB .boolean := by
  obtain ⟨cB, kB, comp, h1, h2, h3⟩ := Cond.arrayClass_spec h
  exact ⟨cB, fun n z => ⟨fun k h => (by cases h), kB, h2, comp, h3⟩, h1⟩
theorem ki_ {D : va_G} {cl : List vw_C} {tys : List (ClassId × FieldType)} {s : State} (hK : va_K D cl tys s) (i j : Nat) {a b : ClassId} (h1 : tys[i]? = some (a, .int)) (h2 : tys[j]? = some (b, .int)) : b = a := by
  have q1 := va_nm_int (hK.2 i _ h1).2
  have q2 := va_nm_int (hK.2 j _ h2).2
  rw [q1] at q2
  exact (Option.some.inj q2).symm
theorem nf_X10 : ∀ j, j < 7 → defaultValue (tyX10 j) = vp_V [.null, .null, .null, .null, .null, .null, .null] j := by decide +kernel
theorem nf_X11 : ∀ j, j < 114 → defaultValue (tyX11 j) = vp_V mf0_ j := by decide +kernel
set_option maxRecDepth 100000 in
set_option maxHeartbeats 4000000 in
theorem st_cl {D : va_G} {s : State} {h0 q1 q8 q27 q48 q71 q89 q104 q2 q3 q4 q9 q10 q11 q12 q13 q14 q15 q16 q17 q28 q29 q30 q31 q32 q33 q34 q35 q36 q37 q49 q50 q51 q52 q53 q54 q55 q56 q57 q58 q59 q72 q73 q74 q75 q76 q77 q78 q79 q90 q91 q92 q93 q94 q95 q96 q105 q106 : Nat} {k5 k6 k7 k18 k19 k20 k21 k22 k23 k24 k25 k26 k38 k39 k40 k41 k42 k43 k44 k45 k46 k47 k60 k61 k62 k63 k64 k65 k66 k67 k68 k69 k70 k80 k81 k82 k83 k84 k85 k86 k87 k97 k98 k99 k100 k101 k102 k103 k107 k108 : ClassId} {g88 : Nat → Int32} {cB : ClassId} (hB : ArrOfT s cB .boolean ∧ va_RA s cB .boolean) (hK : va_K D vwCl [(k5, .int), (k6, .int), (k7, .int), (k18, .int), (k19, .int), (k20, .int), (k21, .int), (k22, .int), (k23, .int), (k24, .int), (k25, .int), (k26, .int), (k38, .object RX0), (k39, .object RX2), (k40, .int), (k41, .int), (k42, .int), (k43, .int), (k44, .int), (k45, .int), (k46, .int), (k47, .int), (k60, .int), (k61, .int), (k62, .int), (k63, .int), (k64, .int), (k65, .int), (k66, .int), (k67, .long), (k68, .int), (k69, .int), (k70, .int), (k87, .int), (k80, .int), (k81, .int), (k82, .int), (k83, .int), (k84, .int), (k85, .int), (k86, .int), (k97, .int), (k98, .int), (k99, .int), (k100, .int), (k101, .int), (k102, .int), (k103, .int), (k107, .int), (k108, .int)] s) : ∃ cA : Nat → ClassId, va_K D vwCl (ty_ cA) s ∧ ∀ m0 : Nat, ∃ xa : Nat → Nat, [(h0, .inr (10, [.ref q1, .ref q8, .ref q27, .ref q48, .ref q71, .ref q89, .ref q104])), (q1, .inr (5, [.ref q2, .int 0, .int 0, .int (-1), .ref q3, .ref q4, .int 0, .int 0, .int 0, .int 0])), (q2, .inl (k5, 400, .inl (fun _ => 0))), (q3, .inl (k6, 16, .inl (fun _ => 0))), (q4, .inl (k7, 7, .inl (fun _ => 0))), (q8, .inr (8, [.ref q9, .ref q10, .int 0, .int 0, .ref q11, .int 0, .ref q12, .ref q13, .ref q14, .ref q15, .ref q16, .ref q17, .int 0, .int 0])), (q9, .inl (k18, 12, .inl (fun _ => 0))), (q10, .inl (k19, 12, .inl (fun _ => 0))), (q11, .inl (k20, 200, .inl (fun _ => 0))), (q12, .inl (k21, 300, .inl (fun _ => 0))), (q13, .inl (k22, 300, .inl (fun _ => 0))), (q14, .inl (k23, 300, .inl (fun _ => 0))), (q15, .inl (k24, 300, .inl (fun _ => 0))), (q16, .inl (k25, 8, .inl (fun _ => 0))), (q17, .inl (k26, 8, .inl (fun _ => 0))), (q27, .inr (6, [.ref q8, .ref q28, .int 0, .ref q29, .int 0, .int 0, .int 0, .ref q30, .ref q31, .ref q32, .ref q33, .ref q34, .int 0, .ref q35, .ref q36, .ref q37])), (q28, .inl (k38, 4, .inr (.inr (.inr (.inr (fun _ => none)))))), (q29, .inl (k39, 400, .inr (.inr (.inr (.inr (fun _ => none)))))), (q30, .inl (k40, 50, .inl (fun _ => 0))), (q31, .inl (k41, 50, .inl (fun _ => 0))), (q32, .inl (k42, 50, .inl (fun _ => 0))), (q33, .inl (k43, 50, .inl (fun _ => 0))), (q34, .inl (k44, 400, .inl (fun _ => 0))), (q35, .inl (k45, 400, .inl (fun _ => 0))), (q36, .inl (k46, 400, .inl (fun _ => 0))), (q37, .inl (k47, 1000, .inl (fun _ => 0))), (q48, .inr (7, [.ref q27, .null, .ref q49, .ref q50, .ref q51, .ref q52, .ref q53, .ref q54, .ref q55, .ref q56, .ref q57, .ref q58, .ref q59, .int 0])), (q49, .inl (k60, 96, .inl (fun _ => 0))), (q50, .inl (k61, 12, .inl (fun _ => 0))), (q51, .inl (k62, 12, .inl (fun _ => 0))), (q52, .inl (k63, 144, .inl (fun _ => 0))), (q53, .inl (k64, 144, .inl (fun _ => 0))), (q54, .inl (k65, 12, .inl (fun _ => 0))), (q55, .inl (k66, 12, .inl (fun _ => 0))), (q56, .inl (k67, 12, .inr (.inl (fun _ => 0)))), (q57, .inl (k68, 16, .inl (fun _ => 0))), (q58, .inl (k69, 16, .inl (fun _ => 0))), (q59, .inl (k70, 16, .inl (fun _ => 0))), (q71, .inr (9, [.ref q27, .ref q48, .int (-1), .int 0, .ref q72, .null, .int 0, .ref q73, .ref q74, .int 0, .ref q75, .ref q76, .ref q77, .ref q78, .ref q79, .null])), (q73, .inl (k80, 12, .inl (fun _ => 0))), (q74, .inl (k81, 40, .inl (fun _ => 0))), (q75, .inl (k82, 40, .inl (fun _ => 0))), (q76, .inl (k83, 12, .inl (fun _ => 0))), (q77, .inl (k84, 12, .inl (fun _ => 0))), (q78, .inl (k85, 12, .inl (fun _ => 0))), (q79, .inl (k86, 12, .inl (fun _ => 0))), (q72, .inl (k87, 400, .inl g88)), (q89, .inr (1, [.ref q8, .int 0, .int 0, .int 0, .int 0, .int 0, .int 0, .int 0, .ref q90, .ref q91, .ref q92, .ref q93, .ref q94, .int 0, .ref q95, .ref q96])), (q90, .inl (k97, 12, .inl (fun _ => 0))), (q91, .inl (k98, 12, .inl (fun _ => 0))), (q92, .inl (k99, 3, .inl (fun _ => 0))), (q93, .inl (k100, 48, .inl (fun _ => 0))), (q94, .inl (k101, 12, .inl (fun _ => 0))), (q95, .inl (k102, 12, .inl (fun _ => 0))), (q96, .inl (k103, 32, .inl (fun _ => 0))), (q104, .inr (4, [.ref q27, .ref q8, .ref q105, .int 0, .ref q106])), (q105, .inl (k107, 400, .inl (fun _ => 0))), (q106, .inl (k108, 1, .inl (fun _ => 0)))] = stX cA xa g88 ∧ xa 111 = m0 ∧ xa 110 = h0 := by
  have e : k6 = k5 := ki_ hK 0 1 rfl rfl
  subst k6
  have e : k7 = k5 := ki_ hK 0 2 rfl rfl
  subst k7
  have e : k18 = k5 := ki_ hK 0 3 rfl rfl
  subst k18
  have e : k19 = k5 := ki_ hK 0 4 rfl rfl
  subst k19
  have e : k20 = k5 := ki_ hK 0 5 rfl rfl
  subst k20
  have e : k21 = k5 := ki_ hK 0 6 rfl rfl
  subst k21
  have e : k22 = k5 := ki_ hK 0 7 rfl rfl
  subst k22
  have e : k23 = k5 := ki_ hK 0 8 rfl rfl
  subst k23
  have e : k24 = k5 := ki_ hK 0 9 rfl rfl
  subst k24
  have e : k25 = k5 := ki_ hK 0 10 rfl rfl
  subst k25
  have e : k26 = k5 := ki_ hK 0 11 rfl rfl
  subst k26
  have e : k40 = k5 := ki_ hK 0 14 rfl rfl
  subst k40
  have e : k41 = k5 := ki_ hK 0 15 rfl rfl
  subst k41
  have e : k42 = k5 := ki_ hK 0 16 rfl rfl
  subst k42
  have e : k43 = k5 := ki_ hK 0 17 rfl rfl
  subst k43
  have e : k44 = k5 := ki_ hK 0 18 rfl rfl
  subst k44
  have e : k45 = k5 := ki_ hK 0 19 rfl rfl
  subst k45
  have e : k46 = k5 := ki_ hK 0 20 rfl rfl
  subst k46
  have e : k47 = k5 := ki_ hK 0 21 rfl rfl
  subst k47
  have e : k60 = k5 := ki_ hK 0 22 rfl rfl
  subst k60
  have e : k61 = k5 := ki_ hK 0 23 rfl rfl
  subst k61
  have e : k62 = k5 := ki_ hK 0 24 rfl rfl
  subst k62
  have e : k63 = k5 := ki_ hK 0 25 rfl rfl
  subst k63
  have e : k64 = k5 := ki_ hK 0 26 rfl rfl
  subst k64
  have e : k65 = k5 := ki_ hK 0 27 rfl rfl
  subst k65
  have e : k66 = k5 := ki_ hK 0 28 rfl rfl
  subst k66
  have e : k68 = k5 := ki_ hK 0 30 rfl rfl
  subst k68
  have e : k69 = k5 := ki_ hK 0 31 rfl rfl
  subst k69
  have e : k70 = k5 := ki_ hK 0 32 rfl rfl
  subst k70
  have e : k87 = k5 := ki_ hK 0 33 rfl rfl
  subst k87
  have e : k80 = k5 := ki_ hK 0 34 rfl rfl
  subst k80
  have e : k81 = k5 := ki_ hK 0 35 rfl rfl
  subst k81
  have e : k82 = k5 := ki_ hK 0 36 rfl rfl
  subst k82
  have e : k83 = k5 := ki_ hK 0 37 rfl rfl
  subst k83
  have e : k84 = k5 := ki_ hK 0 38 rfl rfl
  subst k84
  have e : k85 = k5 := ki_ hK 0 39 rfl rfl
  subst k85
  have e : k86 = k5 := ki_ hK 0 40 rfl rfl
  subst k86
  have e : k97 = k5 := ki_ hK 0 41 rfl rfl
  subst k97
  have e : k98 = k5 := ki_ hK 0 42 rfl rfl
  subst k98
  have e : k99 = k5 := ki_ hK 0 43 rfl rfl
  subst k99
  have e : k100 = k5 := ki_ hK 0 44 rfl rfl
  subst k100
  have e : k101 = k5 := ki_ hK 0 45 rfl rfl
  subst k101
  have e : k102 = k5 := ki_ hK 0 46 rfl rfl
  subst k102
  have e : k103 = k5 := ki_ hK 0 47 rfl rfl
  subst k103
  have e : k107 = k5 := ki_ hK 0 48 rfl rfl
  subst k107
  have e : k108 = k5 := ki_ hK 0 49 rfl rfl
  subst k108
  have hK2 : va_K D vwCl [(cB, .boolean)] s := ⟨hK.1, fun k q h => by
    match k, h with
    | 0, h => cases h; exact hB
    | k + 1, h => simp at h⟩
  refine ⟨fun n => if n = 0 then k5 else if n = 1 then cB else if n = 2 then k67 else if n = 3 then k38 else k39, ?_, fun m0 => ⟨fun k => if k = 111 then m0 else if k < 535 then (if k < 434 then (if k < 110 then (if k < 106 then (if k < 104 then q89 else if k < 105 then q104 else q1) else if k < 108 then (if k < 107 then q27 else q48) else if k < 109 then q8 else q71) else if k < 429 then (if k < 190 then h0 else if k < 428 then q106 else q90) else if k < 431 then (if k < 430 then q91 else q92) else if k < 432 then q93 else q94) else if k < 523 then (if k < 500 then (if k < 435 then q95 else if k < 482 then q96 else q105) else if k < 505 then (if k < 504 then q2 else q3) else if k < 521 then q4 else q28) else if k < 530 then (if k < 528 then (if k < 527 then q29 else q30) else if k < 529 then q31 else q32) else if k < 533 then (if k < 531 then q33 else q34) else if k < 534 then q35 else q36) else if k < 564 then (if k < 548 then (if k < 544 then (if k < 542 then q37 else if k < 543 then q49 else q50) else if k < 546 then (if k < 545 then q51 else q52) else if k < 547 then q53 else q54) else if k < 551 then (if k < 549 then q55 else if k < 550 then q56 else q57) else if k < 560 then (if k < 552 then q58 else q59) else if k < 561 then q9 else q10) else if k < 584 then (if k < 568 then (if k < 566 then q11 else if k < 567 then q12 else q13) else if k < 570 then (if k < 569 then q14 else q15) else if k < 571 then q16 else q17) else if k < 591 then (if k < 588 then (if k < 587 then q72 else q73) else if k < 590 then q74 else q75) else if k < 593 then (if k < 592 then q76 else q77) else if k < 594 then q78 else q79, rfl, rfl, rfl⟩⟩
  exact (hK.app hK2).sub [0, 50, 29, 12, 13] rfl
-- the law from its start
theorem kw_21 : Cond.classLink RL 7 RX10 ∈ lw_g := lwq_1 (dqa_m (dqa_m (List.mem_of_getElem? (i := 5) rfl))) rfl
theorem kw_1421 : Cond.classLink RL 10 RX11 ∈ lw_g := lwq_6 (dqc_m (dqc_m (dqc_m (dqc_m (dqc_m (dqc_m (dqa_m (dqa_m (dqa_m (List.mem_of_getElem? (i := 5) rfl)))))))))) rfl
theorem kw_23 : Cond.methodLink RL 9 yX10_init ∈ lw_g := lwq_1 (dqa_m (dqa_m (List.mem_of_getElem? (i := 7) rfl))) rfl
theorem kw_24 : Cond.instanceMethod yX10_init ∈ lw_g := lwq_1 (dqa_m (dqa_m (dqa_m (List.mem_of_getElem? (i := 0) rfl)))) rfl
theorem kw_1 : Cond.initialized RX10 ∈ lw_g := lwq_1 (List.mem_of_getElem? (i := 1) rfl) rfl
theorem kw_1423 : Cond.methodLink RL 12 yX11_init ∈ lw_g := lwq_6 (dqc_m (dqc_m (dqc_m (dqc_m (dqc_m (dqc_m (dqa_m (dqa_m (dqa_m (List.mem_of_getElem? (i := 7) rfl)))))))))) rfl
theorem kw_1424 : Cond.instanceMethod yX11_init ∈ lw_g := lwq_6 (dqc_m (dqc_m (dqc_m (dqc_m (dqc_m (dqc_m (dqc_m (List.mem_of_getElem? (i := 0) rfl)))))))) rfl
theorem kw_10 : Cond.initialized RX11 ∈ lw_g := lwq_1 (dqa_m (List.mem_of_getElem? (i := 2) rfl)) rfl
set_option maxRecDepth 100000 in
theorem kw_25 : Cond.code yX10_init cX10_init 1 none ∈ lw_g := lwq_1 (dqa_m (dqa_m (dqa_m (List.mem_of_getElem? (i := 1) rfl)))) rfl
theorem gc_X10_init : GoodIn lw_g (.code yX10_init cX10_init 1 none :: lw_g) := gi_c kw_25
theorem gc_X11_init : GoodIn lw_g (.code yX11_init cX11_init 1 none :: lw_g) := gi_c kw_1425
set_option maxHeartbeats 8000000 in
set_option maxRecDepth 100000 in
/-- from the house on: the reference is made, and the loop begins -/
theorem ws_b {p : Program} {e : Env} {s : State} {m : MethodId} {below : List Frame} {meth : Method} {c : Code} (l : Launch) {b L : Nat} {xs : Nat → Int32} (hL : L ≤ 3584) (C0 : lw_At p s m meth c b L xs) {dC : Nat → ClassId} {dI : Nat → Nat → Nat} {cA : Nat → ClassId} {ad0 : Nat → Int → Nat} {g : Nat → Int32} {h0 : Nat} {H : Heap} {locs : List Loc} {ls : Array Slot} (w : va_W) (hK : va_K (dC, dI) vwCl (ty_ cA) s) (hse : se_ ad0 (LA_ s) s) (hP : va_P (dC, dI) vwCl w H) (hD : va_D (LA_ s) w) (hS : va_S (LA_ s) s.heap H locs) (hst : ∀ m0 : Nat, ∃ xa : Nat → Nat, w = stX cA xa g ∧ xa 111 = m0 ∧ xa 110 = h0) (hl : lv_has ls 4 [(0, .ref b)]) : W p l e room_1 s m #[Value.ref b] below meth c H locs 58 6329 (lw_Z below #[Value.ref b] s) (F0 m 7 ls [.ref h0]) := by
  obtain ⟨hx, hb, hr, hml, hown, hts, hX, hbl, hlocks, hgv⟩ := id C0
  have hb : c.code = cL_law := hb
  have hown : s.vm.findClass RL = some m.cls := hown
  have ht : ∀ w ∈ lw_g, w.before #[Value.ref b] s = true := fun w h => hts w (List.mem_filter.mp h).1
  have hA : ∀ q : Nat, s.heap.size ≤ q → LA_ s q := fun _ h => h
  have hE : ex_E s := lx_E hts
  refine lv_astore_n (lv' := [(1, .ref h0), (0, .ref b)]) hx hb (show decode cL_law 7 = .ok (.astore_n 1, 1) by decide +kernel) rfl hl (by decide) rfl (fun ls hl => ?_)
  refine va_new (ci := 11) (fs := mf0_) (C := RX11) (T := TX11) (N := 114) hx hb ht inX11 tyX11 tyX11_ok hown (ht _ kw_1421) (ht _ kw_1422) (ht _ kw_10) hK hP hD hS hA rfl nf_X11 (Nat.le_of_ble_eq_true rfl) (Nat.le_of_ble_eq_true rfl) (show decode cL_law 8 = .ok (.new 10, 3) by decide +kernel) (fun m0 H hP hD hS => ?_)
  have hP : va_P (dC, dI) vwCl ([(m0, .inr (11, mf0_))] ++ w) H := va_P.swap (a := []) (b := w) (c := [(m0, .inr (11, mf0_))]) hP
  have hD : va_D (LA_ s) ([(m0, .inr (11, mf0_))] ++ w) := va_D.swap (a := []) (b := w) (c := [(m0, .inr (11, mf0_))]) hD
  refine W.widen (k := 59) (n := 6443) (Nat.le_of_ble_eq_true rfl) (Nat.le_of_ble_eq_true rfl) ?_
  refine lv_dup hx hb (show decode cL_law 11 = .ok (.dup, 1) by decide +kernel) rfl ?_
  have hPc := hP.sub (ws' := [(m0, .inr (11, mf0_))]) [0] rfl
  have hDc := hD.sub (ws' := [(m0, .inr (11, mf0_))]) [0] (by decide) rfl
  have hFc := va_free (wc := [(m0, .inr (11, mf0_))]) hD hS hA [0] rfl
  refine va_callv (va_runI (As := []) (rest := [.ref m0]) ⟨hx, hb, hml, hown, ht⟩ (ct_X11_init l dC dI cA m0 _ ) (cwI 0 ht gc_X11_init rfl rfl rfl (ht _ kw_10) (ht _ kw_1423) (ht _ kw_1424) rfl (by decide +kernel) ⟨Nat.le_of_ble_eq_true rfl, Nat.le_of_ble_eq_true rfl⟩) ⟨ro_blind, fun U hU hW => ⟨rfl, by rw [hU], by rw [hU]; exact hPc, va_K.moved hW.alike hK, hDc.weaken (fun _ _ _ _ => trivial), ex_warm hW hE⟩⟩ rfl rfl hl.1 rfl (lv_room (Nat.le_of_ble_eq_true rfl)) (show decode cL_law 12 = .ok (.invokespecial 12, 3) by decide +kernel) ⟨Nat.le_of_ble_eq_true rfl, Nat.le_of_ble_eq_true rfl⟩) hS (fun q _ h => hFc q h) hFc (fun u t H1 locs ht1 hvm hw hB hz1 hk1 hS => ?_)
  obtain ⟨qf, hP1, hK1, hD1⟩ := hB
  rw [ht1] at hP1
  generalize hw1 : (m0, Sum.inr (11, fz_ qf mss_ 0 mf0_)) :: rz_ cA qf mss_ 0 = w1 at hP1 hD1
  obtain ⟨hP, hD⟩ := va_joinQ (X := [(m0, .inr (11, mf0_))]) (cx := [(m0, .inr (11, mf0_))]) (wr := []) (w1 := w1) (pl := w) hP hD [0] [] rfl rfl (by decide) (by decide) hk1 hFc hP1 hD1
  have hP : va_P (dC, dI) vwCl (w ++ w1) H1 := va_P.swap (a := []) (b := w1) (c := w) hP
  have hD : va_D (LA_ s) (w ++ w1) := va_D.swap (a := []) (b := w1) (c := w) hD
  clear hP1 hD1 hPc hDc hFc hk1
  refine W.widen (k := 137) (n := 78294) (Nat.le_of_ble_eq_true rfl) (Nat.le_of_ble_eq_true rfl) ?_
  refine lv_astore_n (lv' := [(2, .ref m0), (1, .ref h0), (0, .ref b)]) hx hb (show decode cL_law 15 = .ok (.astore_n 2, 1) by decide +kernel) rfl hl (by decide) rfl (fun ls hl => ?_)
  refine lv_iconst (v := 0) hx hb (show decode cL_law 16 = .ok (.iconst 0, 1) by decide +kernel) (by decide) ?_
  refine lv_istore_n (lv' := [(3, .int 0), (2, .ref m0), (1, .ref h0), (0, .ref b)]) hx hb (show decode cL_law 17 = .ok (.istore_n 3, 1) by decide +kernel) rfl hl (by decide) rfl (fun ls hl => ?_)
  obtain ⟨xa, x1, x2, x3⟩ := hst m0
  rw [x1, ← hw1, ← x2] at hP hD
  have hR : Rp_ (dC, dI) cA (sad_ ad0 xa qf) (Ts_ g) (LA_ s) H1 := st_rp hP hD
  have X : Cx_ zL p s m #[Value.ref b] meth c (dC, dI) cA ad0 (LA_ s) := ⟨hx, hb, hml, hr, hlocks, ht, hown, hK, hE, hA, hse, fun h => absurd h (by decide)⟩
  have a1 : sad_ ad0 xa qf 111 0 = m0 := x2
  have a2 : sad_ ad0 xa qf 110 0 = h0 := x3
  have a3 : Int32.ofInt ((7 * 0 : Nat) : Int) = 0 := by decide
  have a4 : LI_ ((0 : Nat) : Int) (Ts_ g) := by
    rw [show ((0 : Nat) : Int) = 0 from rfl]
    exact ts_li
  clear hP hD hw1
  refine lw_loop X hX hbl hL 513 0 (Ts_ g) (sad_ ad0 xa qf) H1 locs ls 137 78294 (by omega) (by omega) (by omega) hR hS (fun k i h => if_pos h) ts_ok a4 (by omega) ?_
  rw [a1, a2, a3]
  exact hl
