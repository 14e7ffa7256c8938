theorem kw_21 : Cond.classLink RL 7 RX10 ∈ lw_g := lw_at 21 (by decide +kernel) rfl
theorem kw_22 : Cond.instantiable RX10 7 ∈ lw_g := lw_at 22 (by decide +kernel) rfl
theorem kw_25 : Cond.code yX10_init cX10_init 1 none ∈ lw_g := lw_at 25 (by decide +kernel) rfl
theorem gc_X10_init : GoodIn lw_g (.code yX10_init cX10_init 1 none :: lw_g) := gi_c kw_25
theorem kw_23 : Cond.methodLink RL 9 yX10_init ∈ lw_g := lw_at 23 (by decide +kernel) rfl
theorem kw_24 : Cond.instanceMethod yX10_init ∈ lw_g := lw_at 24 (by decide +kernel) rfl
theorem kw_1421 : Cond.classLink RL 10 RX11 ∈ lw_g := lw_at 1421 (by decide +kernel) rfl
theorem kw_1422 : Cond.instantiable RX11 114 ∈ lw_g := lw_at 1422 (by decide +kernel) rfl
set_option maxRecDepth 100000 in
set_option maxHeartbeats 4000000 in
theorem kw_1425 : Cond.code yX11_init cX11_init 1 none ∈ lw_g := lw_at 1425 rfl rfl
theorem gc_X11_init : GoodIn lw_g (.code yX11_init cX11_init 1 none :: lw_g) := gi_c kw_1425
theorem kw_1423 : Cond.methodLink RL 12 yX11_init ∈ lw_g := lw_at 1423 (by decide +kernel) rfl
theorem kw_1424 : Cond.instanceMethod yX11_init ∈ lw_g := lw_at 1424 (by decide +kernel) rfl
theorem kw_701 : Cond.instantiable RX2 11 ∈ lw_g := lw_at 701 (by decide +kernel) rfl
theorem kw_900 : Cond.instantiable RX3 18 ∈ lw_g := lw_at 900 (by decide +kernel) rfl
theorem lx_E {s : State} {b : Nat} (hts : ∀ w ∈ lw_tbl, w.before #[Value.ref b] s = true) : ex_E s := ⟨va_AO.of (hts (Cond.arrayOver (.object "SportsHouse$Competition")) (lw_any 143 (by decide +kernel))), va_AO.of (hts (Cond.arrayOver (.object "SportsHouse$Match")) (lw_any 145 (by decide +kernel))), va_Nw.of rfl (hts (Cond.castable "[I" "java/lang/Cloneable") (lw_any 552 (by decide +kernel))), va_Nw.of rfl (hts (Cond.methodLinkNest "SportsHouse" 11 ⟨"SportsHouse$RuleText", "<init>", "()V"⟩ "SportsHouse") (lw_any 31 (by decide +kernel))), va_Nw.of rfl (hts (Cond.methodLinkNest "SportsHouse" 18 ⟨"SportsHouse$Things", "<init>", "()V"⟩ "SportsHouse") (lw_any 75 (by decide +kernel)))⟩
theorem lx_Ea {s : State} {b : Nat} (hts : ∀ w ∈ lw_tbl, w.before #[Value.ref b] s = true) (hgv : (Jvm.Cond.and given_1 narrow_1).before #[Value.ref b] s = true) : ea_E (fun q => s.heap.size ≤ q) s := by
  have hs := flat_of_before _ hgv
  have hA : ∀ a : Nat, a < s.heap.size → ¬ (fun q => s.heap.size ≤ q) a := fun a h q => absurd h (Nat.not_lt.mpr q)
  have harr : (Cond.arrayOf (.static "SportsHouse$RuleText" "AT_FIRST" "[I") .int).before #[Value.ref b] s = true := hs _ (by decide +kernel)
  have hlen : (Cond.eq (.length (.static "SportsHouse$RuleText" "AT_FIRST" "[I")) (.int 16)).before #[Value.ref b] s = true := hs _ (by decide +kernel)
  have h0 : (Cond.eq (.elem (.static "SportsHouse$RuleText" "AT_FIRST" "[I") (.int 0)) (.int 0)).before #[Value.ref b] s = true := hs _ (by decide +kernel)
  have h1 : (Cond.eq (.elem (.static "SportsHouse$RuleText" "AT_FIRST" "[I") (.int 1)) (.int 3)).before #[Value.ref b] s = true := hs _ (by decide +kernel)
  have h2 : (Cond.eq (.elem (.static "SportsHouse$RuleText" "AT_FIRST" "[I") (.int 2)) (.int 1)).before #[Value.ref b] s = true := hs _ (by decide +kernel)
  have h3 : (Cond.eq (.elem (.static "SportsHouse$RuleText" "AT_FIRST" "[I") (.int 3)) (.int 0)).before #[Value.ref b] s = true := hs _ (by decide +kernel)
  have h4 : (Cond.eq (.elem (.static "SportsHouse$RuleText" "AT_FIRST" "[I") (.int 4)) (.int 2)).before #[Value.ref b] s = true := hs _ (by decide +kernel)
  have h5 : (Cond.eq (.elem (.static "SportsHouse$RuleText" "AT_FIRST" "[I") (.int 5)) (.int 0)).before #[Value.ref b] s = true := hs _ (by decide +kernel)
  have h6 : (Cond.eq (.elem (.static "SportsHouse$RuleText" "AT_FIRST" "[I") (.int 6)) (.int 1)).before #[Value.ref b] s = true := hs _ (by decide +kernel)
  have h7 : (Cond.eq (.elem (.static "SportsHouse$RuleText" "AT_FIRST" "[I") (.int 7)) (.int 7)).before #[Value.ref b] s = true := hs _ (by decide +kernel)
  have h8 : (Cond.eq (.elem (.static "SportsHouse$RuleText" "AT_FIRST" "[I") (.int 8)) (.int 1)).before #[Value.ref b] s = true := hs _ (by decide +kernel)
  have h9 : (Cond.eq (.elem (.static "SportsHouse$RuleText" "AT_FIRST" "[I") (.int 9)) (.int 2)).before #[Value.ref b] s = true := hs _ (by decide +kernel)
  have h10 : (Cond.eq (.elem (.static "SportsHouse$RuleText" "AT_FIRST" "[I") (.int 10)) (.int 2)).before #[Value.ref b] s = true := hs _ (by decide +kernel)
  have h11 : (Cond.eq (.elem (.static "SportsHouse$RuleText" "AT_FIRST" "[I") (.int 11)) (.int 3)).before #[Value.ref b] s = true := hs _ (by decide +kernel)
  have h12 : (Cond.eq (.elem (.static "SportsHouse$RuleText" "AT_FIRST" "[I") (.int 12)) (.int 3)).before #[Value.ref b] s = true := hs _ (by decide +kernel)
  have h13 : (Cond.eq (.elem (.static "SportsHouse$RuleText" "AT_FIRST" "[I") (.int 13)) (.int 3)).before #[Value.ref b] s = true := hs _ (by decide +kernel)
  have h14 : (Cond.eq (.elem (.static "SportsHouse$RuleText" "AT_FIRST" "[I") (.int 14)) (.int 1)).before #[Value.ref b] s = true := hs _ (by decide +kernel)
  have h15 : (Cond.eq (.elem (.static "SportsHouse$RuleText" "AT_FIRST" "[I") (.int 15)) (.int 0)).before #[Value.ref b] s = true := hs _ (by decide +kernel)
  obtain ⟨af, haf, hT⟩ := va_Tof (tm := (.static "SportsHouse$RuleText" "AT_FIRST" "[I")) (ty := .int) (N := 16) (f := fun j => .int (([0, 3, 1, 0, 2, 0, 1, 7, 1, 2, 2, 3, 3, 3, 1, 0] : List Int32).getD j 0)) (A := (fun q => s.heap.size ≤ q)) (by decide) harr (va_eqt hlen) (fun j hj => by
    rcases (show j = 0 ∨ j = 1 ∨ j = 2 ∨ j = 3 ∨ j = 4 ∨ j = 5 ∨ j = 6 ∨ j = 7 ∨ j = 8 ∨ j = 9 ∨ j = 10 ∨ j = 11 ∨ j = 12 ∨ j = 13 ∨ j = 14 ∨ j = 15 by omega) with rfl | rfl | rfl | rfl | rfl | rfl | rfl | rfl | rfl | rfl | rfl | rfl | rfl | rfl | rfl | rfl
    · exact va_eqt h0
    · exact va_eqt h1
    · exact va_eqt h2
    · exact va_eqt h3
    · exact va_eqt h4
    · exact va_eqt h5
    · exact va_eqt h6
    · exact va_eqt h7
    · exact va_eqt h8
    · exact va_eqt h9
    · exact va_eqt h10
    · exact va_eqt h11
    · exact va_eqt h12
    · exact va_eqt h13
    · exact va_eqt h14
    · exact va_eqt h15) hA
  exact ⟨af, fun j => ([0, 3, 1, 0, 2, 0, 1, 7, 1, 2, 2, 3, 3, 3, 1, 0] : List Int32).getD j 0, va_Zref (hts (Cond.laysStatic "SportsHouse$RuleText" "AT_FIRST" "[I") (lw_any 444 (by decide +kernel))) (hts (Cond.initialized "SportsHouse$RuleText") (lw_any 2 (by decide +kernel))) haf hA, hT⟩
theorem lx_K {s : State} {b : Nat} (ht : ∀ w ∈ lw_g, w.before #[Value.ref b] s = true) : ∃ (dC : Nat → ClassId) (dI : Nat → Nat → Nat), ∀ (k : Nat) (q : vw_C), vwCl[k]? = some q → u_Kn s q.1 q.2.1 q.2.2 (dC k) (dI k) := by
  obtain ⟨c0, i0, h0⟩ := u_known (C := RX0) (T := TX0) (N := 9) (n := 9) ht inX0 (ht _ kw_546)
  obtain ⟨c1, i1, h1⟩ := u_known (C := RX1) (T := TX1) (N := 16) (n := 16) ht inX1 (ht _ kw_321)
  obtain ⟨c2, i2, h2⟩ := u_known (C := RX2) (T := TX2) (N := 11) (n := 11) ht inX2 (ht _ kw_701)
  obtain ⟨c3, i3, h3⟩ := u_known (C := RX3) (T := TX3) (N := 18) (n := 18) ht inX3 (ht _ kw_900)
  obtain ⟨c4, i4, h4⟩ := u_known (C := RX4) (T := TX4) (N := 5) (n := 5) ht inX4 (ht _ kw_384)
  obtain ⟨c5, i5, h5⟩ := u_known (C := RX5) (T := TX5) (N := 10) (n := 10) ht inX5 (ht _ kw_30)
  obtain ⟨c6, i6, h6⟩ := u_known (C := RX6) (T := TX6) (N := 16) (n := 16) ht inX6 (ht _ kw_137)
  obtain ⟨c7, i7, h7⟩ := u_known (C := RX7) (T := TX7) (N := 14) (n := 14) ht inX7 (ht _ kw_206)
  obtain ⟨c8, i8, h8⟩ := u_known (C := RX8) (T := TX8) (N := 14) (n := 14) ht inX8 (ht _ kw_74)
  obtain ⟨c9, i9, h9⟩ := u_known (C := RX9) (T := TX9) (N := 16) (n := 16) ht inX9 (ht _ kw_260)
  obtain ⟨c10, i10, h10⟩ := u_known (C := RX10) (T := TX10) (N := 7) (n := 7) ht inX10 (ht _ kw_22)
  obtain ⟨c11, i11, h11⟩ := u_known (C := RX11) (T := TX11) (N := 114) (n := 114) ht inX11 (ht _ kw_1422)
  refine ⟨fun k => if k = 0 then c0 else if k = 1 then c1 else if k = 2 then c2 else if k = 3 then c3 else if k = 4 then c4 else if k = 5 then c5 else if k = 6 then c6 else if k = 7 then c7 else if k = 8 then c8 else if k = 9 then c9 else if k = 10 then c10 else c11, fun k => if k = 0 then i0 else if k = 1 then i1 else if k = 2 then i2 else if k = 3 then i3 else if k = 4 then i4 else if k = 5 then i5 else if k = 6 then i6 else if k = 7 then i7 else if k = 8 then i8 else if k = 9 then i9 else if k = 10 then i10 else i11, ?_⟩
  intro k q hq
  match k, hq with
  | 0, hq => cases hq; exact h0
  | 1, hq => cases hq; exact h1
  | 2, hq => cases hq; exact h2
  | 3, hq => cases hq; exact h3
  | 4, hq => cases hq; exact h4
  | 5, hq => cases hq; exact h5
  | 6, hq => cases hq; exact h6
  | 7, hq => cases hq; exact h7
  | 8, hq => cases hq; exact h8
  | 9, hq => cases hq; exact h9
  | 10, hq => cases hq; exact h10
  | 11, hq => cases hq; exact h11
  | k + 12, hq => simp [vwCl] at hq
theorem nf_X11 : ∀ j, j < 114 → defaultValue (tyX11 j) = vp_V [.null, .int 0, .int 0, .int 0, .null, .null, .int 0, .null, .null, .null, .null, .null, .int 0, .null, .null, .int 0, .int 0, .null, .null, .null, .null, .int 0, .null, .null, .int 0, .null, .null, .null, .null, .int 0, .null, .null, .null, .null, .null, .null, .null, .null, .null, .null, .null, .null, .null, .null, .null, .null, .null, .int 0, .null, .null, .null, .null, .null, .null, .null, .null, .null, .int 0, .int 0, .int 0, .int 0, .int 0, .int 0, .int 0, .null, .null, .null, .null, .null, .null, .null, .null, .null, .int 0, .null, .int 0, .null, .null, .null, .int 0, .int 0, .null, .int 0, .int 0, .null, .int 0, .null, .int 0, .int 0, .null, .int 0, .null, .null, .null, .null, .int 0, .null, .null, .int 0, .int 0, .int 0, .null, .null, .int 0, .null, .null, .null, .int 0, .null, .null, .null, .null, .int 0, .int 0] j := by decide +kernel
theorem nf_X10 : ∀ j, j < 7 → defaultValue (tyX10 j) = vp_V [.null, .null, .null, .null, .null, .null, .null] j := by decide +kernel
set_option maxHeartbeats 8000000 in
set_option maxRecDepth 100000 in
theorem whole_start {p : Program} {e : Env} {s : State} {m : MethodId} {below : List Frame} {meth : Method} {c : Code} (l : Launch) {b L : Nat} {xs : Nat → Int32} (hL : L ≤ 7) (C0 : lw_At p s m meth c b L xs) : W p l e room_1 s m #[Value.ref b] below meth c s.heap [] 0 0 (lw_Z below #[Value.ref b] s) (entryFrame m ([Value.ref b] : List Value).toArray 4) := by
  obtain ⟨hx, hb, hr, hml, hown, hts, hX, hbl, hlocks, hgv⟩ := id C0
  have hb : c.code = cL_law := hb
  have hown : s.vm.findClass RL = some m.cls := hown
  have ht : ∀ w ∈ lw_g, w.before #[Value.ref b] s = true := fun w h => hts w (List.mem_filter.mp h).1
  have hA : ∀ q : Nat, s.heap.size ≤ q → (fun q => s.heap.size ≤ q) q := fun _ h => h
  have hbA : ¬ (fun q => s.heap.size ≤ q) b := Nat.not_le.mpr hbl
  have hE : ex_E s := lx_E hts
  have hEa : ea_E (fun q => s.heap.size ≤ q) s := lx_Ea hts hgv
  obtain ⟨dC, dI, hKc⟩ := lx_K (s := s) ht
  have hS : va_S (fun q => s.heap.size ≤ q) s.heap s.heap [] := va_S.rf
  have hK : va_K (dC, dI) vwCl [] s := ⟨hKc, fun k q h => by simp at h⟩
  have hP : va_P (dC, dI) vwCl [] s.heap := fun k q h => by simp at h
  have hD : va_D (fun q => s.heap.size ≤ q) [] := ⟨fun i j p q h => by simp at h, fun k q h => by simp at h⟩
  have hl := lv_entry ([.ref b]) (n := 4) (Nat.le_of_ble_eq_true rfl)
  rw [lg_entry_eq]
  generalize (lg_sl ([.ref b]) ++ List.replicate (4 - (lg_sl ([.ref b])).length) Slot.unset).toArray = ls at hl ⊢
  have hl : lv_has ls 4 [(0, .ref b)] := hl
  refine va_new (ci := 10) (fs := [.null, .null, .null, .null, .null, .null, .null]) (C := RX10) (T := TX10) (N := 7) hx hb ht inX10 tyX10 tyX10_ok hown (ht _ kw_21) (ht _ kw_22) (ht _ kw_1) hK hP hD hS hA rfl nf_X10 (Nat.le_of_ble_eq_true rfl) (Nat.le_of_ble_eq_true rfl) dL_law_0 (fun q1 H hP hD hS => ?_)
  have hP : va_P (dC, dI) vwCl [(q1, .inr (10, [.null, .null, .null, .null, .null, .null, .null]))] H := hP
  have hD : va_D (fun q => s.heap.size ≤ q) [(q1, .inr (10, [.null, .null, .null, .null, .null, .null, .null]))] := hD
  refine W.widen (k := 1) (n := 7) (Nat.le_of_ble_eq_true rfl) (Nat.le_of_ble_eq_true rfl) ?_
  refine lv_dup hx hb dL_law_3 rfl ?_
  have hPc := hP.sub (ws' := [(q1, .inr (10, [.null, .null, .null, .null, .null, .null, .null]))]) [0] rfl
  have hDc := hD.sub (ws' := [(q1, .inr (10, [.null, .null, .null, .null, .null, .null, .null]))]) [0] (by decide) rfl
  have hKc := hK.sub (tys' := []) [] rfl
  have hFc := va_free (wc := [(q1, .inr (10, [.null, .null, .null, .null, .null, .null, .null]))]) hD hS hA [0] rfl
  refine va_callv (va_runI (As := []) (rest := [.ref q1]) ⟨hx, hb, hml, hown, ht⟩ (ct_X10_init l dC dI q1 _ ) (cwI 0 ht gc_X10_init rfl rfl rfl (ht _ kw_1) (ht _ kw_23) (ht _ kw_24) rfl (by decide +kernel) ⟨Nat.le_of_ble_eq_true rfl, Nat.le_of_ble_eq_true rfl⟩) ⟨ro_blind, fun U hU hW => ⟨rfl, by rw [hU], by rw [hU]; exact hPc, va_K.moved hW.alike hKc, hDc.weaken (fun _ _ _ _ => trivial), ex_warm hW hE⟩⟩ rfl rfl hl.1 rfl (lv_room (Nat.le_of_ble_eq_true rfl)) dL_law_4 ⟨Nat.le_of_ble_eq_true rfl, Nat.le_of_ble_eq_true rfl⟩) hS (fun q _ h => hFc q h) hFc (fun u t H1 locs ht1 hvm hw hB hz1 hk1 hS => ?_)
  obtain ⟨q2, q3, q4, q5, q6, q7, q8, q9, q10, q11, k12, k13, k14, q15, q16, q17, q18, q19, q20, q21, q22, q23, k24, k25, k26, k27, k28, q29, q30, q31, q32, q33, q34, q35, q36, q37, q38, k39, q40, q41, q42, q43, q44, q45, q46, q47, q48, q49, q50, q51, q52, q53, q54, k55, k56, k57, q58, q59, k60, hP1, hK1, hD1⟩ := hB
  rw [ht1] at hP1
  obtain ⟨hP, hD⟩ := va_join (wr := []) (w1 := [(q1, .inr (10, [.ref q2, .ref q3, .ref q4, .ref q5, .ref q6, .ref q7, .ref q8])), (q2, .inr (5, [.ref q9, .int 0, .int 0, .int (-1), .ref q10, .ref q11, .int 0, .int 0, .int 0, .int 0])), (q9, .inl (k12, 400, .inl (fun _ => 0))), (q10, .inl (k13, 16, .inl (fun _ => 0))), (q11, .inl (k14, 7, .inl (fun _ => 0))), (q3, .inr (8, [.ref q15, .ref q16, .int 0, .int 0, .ref q17, .int 0, .ref q18, .ref q19, .ref q20, .ref q21, .ref q22, .ref q23, .int 0, .int 0])), (q15, .inl (k24, 12, .inl (fun _ => 0))), (q16, .inl (k25, 12, .inl (fun _ => 0))), (q17, .inl (k26, 200, .inl (fun _ => 0))), (q22, .inl (k27, 8, .inl (fun _ => 0))), (q23, .inl (k28, 8, .inl (fun _ => 0))), (q4, .inr (6, [.ref q3, .ref q29, .int 0, .ref q30, .int 0, .int 0, .int 0, .ref q31, .ref q32, .ref q33, .ref q34, .ref q35, .int 0, .ref q36, .ref q37, .ref q38])), (q29, .inl (k39, 4, .inr (.inr (.inr (.inr (fun _ => none)))))), (q6, .inr (9, [.ref q4, .ref q5, .int (-1), .int 0, .ref q40, .null, .int 0, .ref q41, .ref q42, .int 0, .ref q43, .ref q44, .ref q45, .ref q46, .ref q47, .null])), (q7, .inr (1, [.ref q3, .int 0, .int 0, .int 0, .int 0, .int 0, .int 0, .int 0, .ref q48, .ref q49, .ref q50, .ref q51, .ref q52, .int 0, .ref q53, .ref q54])), (q48, .inl (k55, 12, .inl (fun _ => 0))), (q49, .inl (k56, 12, .inl (fun _ => 0))), (q50, .inl (k57, 3, .inl (fun _ => 0))), (q8, .inr (4, [.ref q4, .ref q3, .ref q58, .int 0, .ref q59])), (q59, .inl (k60, 1, .inl (fun _ => 0)))]) hP hD [0] [] rfl rfl (by decide) (by decide) hk1 hFc hP1 hD1
  generalize H1 = H at hP hS ⊢
  have hK1 := va_K.moved hvm.symm hK1
  have hK := hK.app (hK1.sub (tys' := [(k12, .int), (k13, .int), (k14, .int), (k24, .int), (k25, .int), (k26, .int), (k27, .int), (k28, .int), (k39, .object RX0), (k55, .int), (k56, .int), (k57, .int), (k60, .int)]) [0, 1, 2, 3, 4, 5, 6, 7, 8, 9, 10, 11, 12] rfl)
  have hK : va_K (dC, dI) vwCl [(k12, .int), (k13, .int), (k14, .int), (k24, .int), (k25, .int), (k26, .int), (k27, .int), (k28, .int), (k39, .object RX0), (k55, .int), (k56, .int), (k57, .int), (k60, .int)] s := hK
  have hP : va_P (dC, dI) vwCl [(q1, .inr (10, [.ref q2, .ref q3, .ref q4, .ref q5, .ref q6, .ref q7, .ref q8])), (q2, .inr (5, [.ref q9, .int 0, .int 0, .int (-1), .ref q10, .ref q11, .int 0, .int 0, .int 0, .int 0])), (q9, .inl (k12, 400, .inl (fun _ => 0))), (q10, .inl (k13, 16, .inl (fun _ => 0))), (q11, .inl (k14, 7, .inl (fun _ => 0))), (q3, .inr (8, [.ref q15, .ref q16, .int 0, .int 0, .ref q17, .int 0, .ref q18, .ref q19, .ref q20, .ref q21, .ref q22, .ref q23, .int 0, .int 0])), (q15, .inl (k24, 12, .inl (fun _ => 0))), (q16, .inl (k25, 12, .inl (fun _ => 0))), (q17, .inl (k26, 200, .inl (fun _ => 0))), (q22, .inl (k27, 8, .inl (fun _ => 0))), (q23, .inl (k28, 8, .inl (fun _ => 0))), (q4, .inr (6, [.ref q3, .ref q29, .int 0, .ref q30, .int 0, .int 0, .int 0, .ref q31, .ref q32, .ref q33, .ref q34, .ref q35, .int 0, .ref q36, .ref q37, .ref q38])), (q29, .inl (k39, 4, .inr (.inr (.inr (.inr (fun _ => none)))))), (q6, .inr (9, [.ref q4, .ref q5, .int (-1), .int 0, .ref q40, .null, .int 0, .ref q41, .ref q42, .int 0, .ref q43, .ref q44, .ref q45, .ref q46, .ref q47, .null])), (q7, .inr (1, [.ref q3, .int 0, .int 0, .int 0, .int 0, .int 0, .int 0, .int 0, .ref q48, .ref q49, .ref q50, .ref q51, .ref q52, .int 0, .ref q53, .ref q54])), (q48, .inl (k55, 12, .inl (fun _ => 0))), (q49, .inl (k56, 12, .inl (fun _ => 0))), (q50, .inl (k57, 3, .inl (fun _ => 0))), (q8, .inr (4, [.ref q4, .ref q3, .ref q58, .int 0, .ref q59])), (q59, .inl (k60, 1, .inl (fun _ => 0)))] H := hP
  have hD : va_D (fun q => s.heap.size ≤ q) [(q1, .inr (10, [.ref q2, .ref q3, .ref q4, .ref q5, .ref q6, .ref q7, .ref q8])), (q2, .inr (5, [.ref q9, .int 0, .int 0, .int (-1), .ref q10, .ref q11, .int 0, .int 0, .int 0, .int 0])), (q9, .inl (k12, 400, .inl (fun _ => 0))), (q10, .inl (k13, 16, .inl (fun _ => 0))), (q11, .inl (k14, 7, .inl (fun _ => 0))), (q3, .inr (8, [.ref q15, .ref q16, .int 0, .int 0, .ref q17, .int 0, .ref q18, .ref q19, .ref q20, .ref q21, .ref q22, .ref q23, .int 0, .int 0])), (q15, .inl (k24, 12, .inl (fun _ => 0))), (q16, .inl (k25, 12, .inl (fun _ => 0))), (q17, .inl (k26, 200, .inl (fun _ => 0))), (q22, .inl (k27, 8, .inl (fun _ => 0))), (q23, .inl (k28, 8, .inl (fun _ => 0))), (q4, .inr (6, [.ref q3, .ref q29, .int 0, .ref q30, .int 0, .int 0, .int 0, .ref q31, .ref q32, .ref q33, .ref q34, .ref q35, .int 0, .ref q36, .ref q37, .ref q38])), (q29, .inl (k39, 4, .inr (.inr (.inr (.inr (fun _ => none)))))), (q6, .inr (9, [.ref q4, .ref q5, .int (-1), .int 0, .ref q40, .null, .int 0, .ref q41, .ref q42, .int 0, .ref q43, .ref q44, .ref q45, .ref q46, .ref q47, .null])), (q7, .inr (1, [.ref q3, .int 0, .int 0, .int 0, .int 0, .int 0, .int 0, .int 0, .ref q48, .ref q49, .ref q50, .ref q51, .ref q52, .int 0, .ref q53, .ref q54])), (q48, .inl (k55, 12, .inl (fun _ => 0))), (q49, .inl (k56, 12, .inl (fun _ => 0))), (q50, .inl (k57, 3, .inl (fun _ => 0))), (q8, .inr (4, [.ref q4, .ref q3, .ref q58, .int 0, .ref q59])), (q59, .inl (k60, 1, .inl (fun _ => 0)))] := hD
  refine W.widen (k := 58) (n := 6329) (Nat.le_of_ble_eq_true rfl) (Nat.le_of_ble_eq_true rfl) ?_
  refine lv_astore_n (lv' := [(1, .ref q1), (0, .ref b)]) hx hb dL_law_7 rfl hl (by decide) rfl (fun ls hl => ?_)
  refine va_new (ci := 11) (fs := [.null, .int 0, .int 0, .int 0, .null, .null, .int 0, .null, .null, .null, .null, .null, .int 0, .null, .null, .int 0, .int 0, .null, .null, .null, .null, .int 0, .null, .null, .int 0, .null, .null, .null, .null, .int 0, .null, .null, .null, .null, .null, .null, .null, .null, .null, .null, .null, .null, .null, .null, .null, .null, .null, .int 0, .null, .null, .null, .null, .null, .null, .null, .null, .null, .int 0, .int 0, .int 0, .int 0, .int 0, .int 0, .int 0, .null, .null, .null, .null, .null, .null, .null, .null, .null, .int 0, .null, .int 0, .null, .null, .null, .int 0, .int 0, .null, .int 0, .int 0, .null, .int 0, .null, .int 0, .int 0, .null, .int 0, .null, .null, .null, .null, .int 0, .null, .null, .int 0, .int 0, .int 0, .null, .null, .int 0, .null, .null, .null, .int 0, .null, .null, .null, .null, .int 0, .int 0]) (C := RX11) (T := TX11) (N := 114) hx hb ht inX11 tyX11 tyX11_ok hown (ht _ kw_1421) (ht _ kw_1422) (ht _ kw_10) hK hP hD hS hA rfl nf_X11 (Nat.le_of_ble_eq_true rfl) (Nat.le_of_ble_eq_true rfl) dL_law_8 (fun q61 H hP hD hS => ?_)
  have hP : va_P (dC, dI) vwCl [(q1, .inr (10, [.ref q2, .ref q3, .ref q4, .ref q5, .ref q6, .ref q7, .ref q8])), (q2, .inr (5, [.ref q9, .int 0, .int 0, .int (-1), .ref q10, .ref q11, .int 0, .int 0, .int 0, .int 0])), (q9, .inl (k12, 400, .inl (fun _ => 0))), (q10, .inl (k13, 16, .inl (fun _ => 0))), (q11, .inl (k14, 7, .inl (fun _ => 0))), (q3, .inr (8, [.ref q15, .ref q16, .int 0, .int 0, .ref q17, .int 0, .ref q18, .ref q19, .ref q20, .ref q21, .ref q22, .ref q23, .int 0, .int 0])), (q15, .inl (k24, 12, .inl (fun _ => 0))), (q16, .inl (k25, 12, .inl (fun _ => 0))), (q17, .inl (k26, 200, .inl (fun _ => 0))), (q22, .inl (k27, 8, .inl (fun _ => 0))), (q23, .inl (k28, 8, .inl (fun _ => 0))), (q4, .inr (6, [.ref q3, .ref q29, .int 0, .ref q30, .int 0, .int 0, .int 0, .ref q31, .ref q32, .ref q33, .ref q34, .ref q35, .int 0, .ref q36, .ref q37, .ref q38])), (q29, .inl (k39, 4, .inr (.inr (.inr (.inr (fun _ => none)))))), (q6, .inr (9, [.ref q4, .ref q5, .int (-1), .int 0, .ref q40, .null, .int 0, .ref q41, .ref q42, .int 0, .ref q43, .ref q44, .ref q45, .ref q46, .ref q47, .null])), (q7, .inr (1, [.ref q3, .int 0, .int 0, .int 0, .int 0, .int 0, .int 0, .int 0, .ref q48, .ref q49, .ref q50, .ref q51, .ref q52, .int 0, .ref q53, .ref q54])), (q48, .inl (k55, 12, .inl (fun _ => 0))), (q49, .inl (k56, 12, .inl (fun _ => 0))), (q50, .inl (k57, 3, .inl (fun _ => 0))), (q8, .inr (4, [.ref q4, .ref q3, .ref q58, .int 0, .ref q59])), (q59, .inl (k60, 1, .inl (fun _ => 0))), (q61, .inr (11, [.null, .int 0, .int 0, .int 0, .null, .null, .int 0, .null, .null, .null, .null, .null, .int 0, .null, .null, .int 0, .int 0, .null, .null, .null, .null, .int 0, .null, .null, .int 0, .null, .null, .null, .null, .int 0, .null, .null, .null, .null, .null, .null, .null, .null, .null, .null, .null, .null, .null, .null, .null, .null, .null, .int 0, .null, .null, .null, .null, .null, .null, .null, .null, .null, .int 0, .int 0, .int 0, .int 0, .int 0, .int 0, .int 0, .null, .null, .null, .null, .null, .null, .null, .null, .null, .int 0, .null, .int 0, .null, .null, .null, .int 0, .int 0, .null, .int 0, .int 0, .null, .int 0, .null, .int 0, .int 0, .null, .int 0, .null, .null, .null, .null, .int 0, .null, .null, .int 0, .int 0, .int 0, .null, .null, .int 0, .null, .null, .null, .int 0, .null, .null, .null, .null, .int 0, .int 0]))] H := hP
  have hD : va_D (fun q => s.heap.size ≤ q) [(q1, .inr (10, [.ref q2, .ref q3, .ref q4, .ref q5, .ref q6, .ref q7, .ref q8])), (q2, .inr (5, [.ref q9, .int 0, .int 0, .int (-1), .ref q10, .ref q11, .int 0, .int 0, .int 0, .int 0])), (q9, .inl (k12, 400, .inl (fun _ => 0))), (q10, .inl (k13, 16, .inl (fun _ => 0))), (q11, .inl (k14, 7, .inl (fun _ => 0))), (q3, .inr (8, [.ref q15, .ref q16, .int 0, .int 0, .ref q17, .int 0, .ref q18, .ref q19, .ref q20, .ref q21, .ref q22, .ref q23, .int 0, .int 0])), (q15, .inl (k24, 12, .inl (fun _ => 0))), (q16, .inl (k25, 12, .inl (fun _ => 0))), (q17, .inl (k26, 200, .inl (fun _ => 0))), (q22, .inl (k27, 8, .inl (fun _ => 0))), (q23, .inl (k28, 8, .inl (fun _ => 0))), (q4, .inr (6, [.ref q3, .ref q29, .int 0, .ref q30, .int 0, .int 0, .int 0, .ref q31, .ref q32, .ref q33, .ref q34, .ref q35, .int 0, .ref q36, .ref q37, .ref q38])), (q29, .inl (k39, 4, .inr (.inr (.inr (.inr (fun _ => none)))))), (q6, .inr (9, [.ref q4, .ref q5, .int (-1), .int 0, .ref q40, .null, .int 0, .ref q41, .ref q42, .int 0, .ref q43, .ref q44, .ref q45, .ref q46, .ref q47, .null])), (q7, .inr (1, [.ref q3, .int 0, .int 0, .int 0, .int 0, .int 0, .int 0, .int 0, .ref q48, .ref q49, .ref q50, .ref q51, .ref q52, .int 0, .ref q53, .ref q54])), (q48, .inl (k55, 12, .inl (fun _ => 0))), (q49, .inl (k56, 12, .inl (fun _ => 0))), (q50, .inl (k57, 3, .inl (fun _ => 0))), (q8, .inr (4, [.ref q4, .ref q3, .ref q58, .int 0, .ref q59])), (q59, .inl (k60, 1, .inl (fun _ => 0))), (q61, .inr (11, [.null, .int 0, .int 0, .int 0, .null, .null, .int 0, .null, .null, .null, .null, .null, .int 0, .null, .null, .int 0, .int 0, .null, .null, .null, .null, .int 0, .null, .null, .int 0, .null, .null, .null, .null, .int 0, .null, .null, .null, .null, .null, .null, .null, .null, .null, .null, .null, .null, .null, .null, .null, .null, .null, .int 0, .null, .null, .null, .null, .null, .null, .null, .null, .null, .int 0, .int 0, .int 0, .int 0, .int 0, .int 0, .int 0, .null, .null, .null, .null, .null, .null, .null, .null, .null, .int 0, .null, .int 0, .null, .null, .null, .int 0, .int 0, .null, .int 0, .int 0, .null, .int 0, .null, .int 0, .int 0, .null, .int 0, .null, .null, .null, .null, .int 0, .null, .null, .int 0, .int 0, .int 0, .null, .null, .int 0, .null, .null, .null, .int 0, .null, .null, .null, .null, .int 0, .int 0]))] := hD
  refine W.widen (k := 59) (n := 6443) (Nat.le_of_ble_eq_true rfl) (Nat.le_of_ble_eq_true rfl) ?_
  refine lv_dup hx hb dL_law_11 rfl ?_
  have hPc := hP.sub (ws' := [(q61, .inr (11, [.null, .int 0, .int 0, .int 0, .null, .null, .int 0, .null, .null, .null, .null, .null, .int 0, .null, .null, .int 0, .int 0, .null, .null, .null, .null, .int 0, .null, .null, .int 0, .null, .null, .null, .null, .int 0, .null, .null, .null, .null, .null, .null, .null, .null, .null, .null, .null, .null, .null, .null, .null, .null, .null, .int 0, .null, .null, .null, .null, .null, .null, .null, .null, .null, .int 0, .int 0, .int 0, .int 0, .int 0, .int 0, .int 0, .null, .null, .null, .null, .null, .null, .null, .null, .null, .int 0, .null, .int 0, .null, .null, .null, .int 0, .int 0, .null, .int 0, .int 0, .null, .int 0, .null, .int 0, .int 0, .null, .int 0, .null, .null, .null, .null, .int 0, .null, .null, .int 0, .int 0, .int 0, .null, .null, .int 0, .null, .null, .null, .int 0, .null, .null, .null, .null, .int 0, .int 0]))]) [20] rfl
  have hDc := hD.sub (ws' := [(q61, .inr (11, [.null, .int 0, .int 0, .int 0, .null, .null, .int 0, .null, .null, .null, .null, .null, .int 0, .null, .null, .int 0, .int 0, .null, .null, .null, .null, .int 0, .null, .null, .int 0, .null, .null, .null, .null, .int 0, .null, .null, .null, .null, .null, .null, .null, .null, .null, .null, .null, .null, .null, .null, .null, .null, .null, .int 0, .null, .null, .null, .null, .null, .null, .null, .null, .null, .int 0, .int 0, .int 0, .int 0, .int 0, .int 0, .int 0, .null, .null, .null, .null, .null, .null, .null, .null, .null, .int 0, .null, .int 0, .null, .null, .null, .int 0, .int 0, .null, .int 0, .int 0, .null, .int 0, .null, .int 0, .int 0, .null, .int 0, .null, .null, .null, .null, .int 0, .null, .null, .int 0, .int 0, .int 0, .null, .null, .int 0, .null, .null, .null, .int 0, .null, .null, .null, .null, .int 0, .int 0]))]) [20] (by decide) rfl
  have hKc := hK.sub (tys' := []) [] rfl
  have hFc := va_free (wc := [(q61, .inr (11, [.null, .int 0, .int 0, .int 0, .null, .null, .int 0, .null, .null, .null, .null, .null, .int 0, .null, .null, .int 0, .int 0, .null, .null, .null, .null, .int 0, .null, .null, .int 0, .null, .null, .null, .null, .int 0, .null, .null, .null, .null, .null, .null, .null, .null, .null, .null, .null, .null, .null, .null, .null, .null, .null, .int 0, .null, .null, .null, .null, .null, .null, .null, .null, .null, .int 0, .int 0, .int 0, .int 0, .int 0, .int 0, .int 0, .null, .null, .null, .null, .null, .null, .null, .null, .null, .int 0, .null, .int 0, .null, .null, .null, .int 0, .int 0, .null, .int 0, .int 0, .null, .int 0, .null, .int 0, .int 0, .null, .int 0, .null, .null, .null, .null, .int 0, .null, .null, .int 0, .int 0, .int 0, .null, .null, .int 0, .null, .null, .null, .int 0, .null, .null, .null, .null, .int 0, .int 0]))]) hD hS hA [20] rfl
  refine va_callv (va_runI (As := []) (rest := [.ref q61]) ⟨hx, hb, hml, hown, ht⟩ (ct_X11_init l dC dI q61 [.null, .int 0, .int 0, .int 0, .null, .null, .int 0, .null, .null, .null, .null, .null, .int 0, .null, .null, .int 0, .int 0, .null, .null, .null, .null, .int 0, .null, .null, .int 0, .null, .null, .null, .null, .int 0, .null, .null, .null, .null, .null, .null, .null, .null, .null, .null, .null, .null, .null, .null, .null, .null, .null, .int 0, .null, .null, .null, .null, .null, .null, .null, .null, .null, .int 0, .int 0, .int 0, .int 0, .int 0, .int 0, .int 0, .null, .null, .null, .null, .null, .null, .null, .null, .null, .int 0, .null, .int 0, .null, .null, .null, .int 0, .int 0, .null, .int 0, .int 0, .null, .int 0, .null, .int 0, .int 0, .null, .int 0, .null, .null, .null, .null, .int 0, .null, .null, .int 0, .int 0, .int 0, .null, .null, .int 0, .null, .null, .null, .int 0, .null, .null, .null, .null, .int 0, .int 0] rfl rfl rfl rfl rfl rfl rfl rfl rfl rfl rfl rfl rfl rfl rfl rfl rfl rfl rfl rfl rfl rfl rfl rfl rfl rfl rfl rfl rfl rfl _) (cwI 0 ht gc_X11_init rfl rfl rfl (ht _ kw_10) (ht _ kw_1423) (ht _ kw_1424) rfl (by decide +kernel) ⟨Nat.le_of_ble_eq_true rfl, Nat.le_of_ble_eq_true rfl⟩) ⟨ro_blind, fun U hU hW => ⟨rfl, by rw [hU], by rw [hU]; exact hPc, va_K.moved hW.alike hKc, hDc.weaken (fun _ _ _ _ => trivial), ex_warm hW hE⟩⟩ rfl rfl hl.1 rfl (lv_room (Nat.le_of_ble_eq_true rfl)) dL_law_12 ⟨Nat.le_of_ble_eq_true rfl, Nat.le_of_ble_eq_true rfl⟩) hS (fun q _ h => hFc q h) hFc (fun u t H1 locs ht1 hvm hw hB hz1 hk1 hS => ?_)
  obtain ⟨fm, yq1, yk2, yq3, yk4, yq5, yk6, yq1009, yk1010, yq2001, yk2002, yq3001, yk3002, yq3003, yk3004, yq21008, yk21009, yq25001, yk25002, yq25003, yk25004, yq26001, yk26002, hn_fm, hfm_0, hfm_1, hfm_2, hfm_3, hfm_4, hfm_5, hfm_6, hfm_12, hfm_13, hfm_14, hfm_15, hfm_16, hfm_21, hfm_22, hfm_23, hfm_24, hfm_29, hfm_47, hfm_57, hfm_58, hfm_59, hfm_60, hfm_61, hfm_62, hfm_63, hfm_69, hfm_73, hfm_75, hfm_88, hfm_90, hfm_98, hfm_99, hfm_100, hfm_101, hfm_102, hfm_103, hfm_107, hfm_108, hfm_112, hfm_113, hP1, hK1, hD1⟩ := hB
  rw [ht1] at hP1
  obtain ⟨hP, hD⟩ := va_join (wr := [(q1, .inr (10, [.ref q2, .ref q3, .ref q4, .ref q5, .ref q6, .ref q7, .ref q8])), (q2, .inr (5, [.ref q9, .int 0, .int 0, .int (-1), .ref q10, .ref q11, .int 0, .int 0, .int 0, .int 0])), (q9, .inl (k12, 400, .inl (fun _ => 0))), (q10, .inl (k13, 16, .inl (fun _ => 0))), (q11, .inl (k14, 7, .inl (fun _ => 0))), (q3, .inr (8, [.ref q15, .ref q16, .int 0, .int 0, .ref q17, .int 0, .ref q18, .ref q19, .ref q20, .ref q21, .ref q22, .ref q23, .int 0, .int 0])), (q15, .inl (k24, 12, .inl (fun _ => 0))), (q16, .inl (k25, 12, .inl (fun _ => 0))), (q17, .inl (k26, 200, .inl (fun _ => 0))), (q22, .inl (k27, 8, .inl (fun _ => 0))), (q23, .inl (k28, 8, .inl (fun _ => 0))), (q4, .inr (6, [.ref q3, .ref q29, .int 0, .ref q30, .int 0, .int 0, .int 0, .ref q31, .ref q32, .ref q33, .ref q34, .ref q35, .int 0, .ref q36, .ref q37, .ref q38])), (q29, .inl (k39, 4, .inr (.inr (.inr (.inr (fun _ => none)))))), (q6, .inr (9, [.ref q4, .ref q5, .int (-1), .int 0, .ref q40, .null, .int 0, .ref q41, .ref q42, .int 0, .ref q43, .ref q44, .ref q45, .ref q46, .ref q47, .null])), (q7, .inr (1, [.ref q3, .int 0, .int 0, .int 0, .int 0, .int 0, .int 0, .int 0, .ref q48, .ref q49, .ref q50, .ref q51, .ref q52, .int 0, .ref q53, .ref q54])), (q48, .inl (k55, 12, .inl (fun _ => 0))), (q49, .inl (k56, 12, .inl (fun _ => 0))), (q50, .inl (k57, 3, .inl (fun _ => 0))), (q8, .inr (4, [.ref q4, .ref q3, .ref q58, .int 0, .ref q59])), (q59, .inl (k60, 1, .inl (fun _ => 0)))]) (w1 := [(q61, .inr (11, fm)), (yq1, .inl (yk2, 400, .inl (fun _ => 0))), (yq3, .inl (yk4, 23, .inl (fun _ => 0))), (yq5, .inl (yk6, 92, .inl (fun _ => 0))), (yq1009, .inl (yk1010, 12, .inl (fun _ => 0))), (yq2001, .inl (yk2002, 12, .inl (fun _ => 0))), (yq3001, .inl (yk3002, 8, .inl (fun _ => 0))), (yq3003, .inl (yk3004, 8, .inl (fun _ => 0))), (yq21008, .inl (yk21009, 14, .inl (fun _ => 0))), (yq25001, .inl (yk25002, 12, .inl (fun _ => 0))), (yq25003, .inl (yk25004, 12, .inl (fun _ => 0))), (yq26001, .inl (yk26002, 8, .inl (fun _ => 0)))]) hP hD [20] [0, 1, 2, 3, 4, 5, 6, 7, 8, 9, 10, 11, 12, 13, 14, 15, 16, 17, 18, 19] rfl rfl (by decide) (by decide) hk1 hFc hP1 hD1
  generalize H1 = H at hP hS ⊢
  have hK1 := va_K.moved hvm.symm hK1
  have hK := hK.app hK1
  have hK : va_K (dC, dI) vwCl [(k12, .int), (k13, .int), (k14, .int), (k24, .int), (k25, .int), (k26, .int), (k27, .int), (k28, .int), (k39, .object RX0), (k55, .int), (k56, .int), (k57, .int), (k60, .int), (yk2, .int), (yk4, .int), (yk6, .int), (yk1010, .int), (yk2002, .int), (yk3002, .int), (yk3004, .int), (yk21009, .boolean), (yk25002, .int), (yk25004, .int), (yk26002, .int)] s := hK
  have hP : va_P (dC, dI) vwCl [(q1, .inr (10, [.ref q2, .ref q3, .ref q4, .ref q5, .ref q6, .ref q7, .ref q8])), (q2, .inr (5, [.ref q9, .int 0, .int 0, .int (-1), .ref q10, .ref q11, .int 0, .int 0, .int 0, .int 0])), (q9, .inl (k12, 400, .inl (fun _ => 0))), (q10, .inl (k13, 16, .inl (fun _ => 0))), (q11, .inl (k14, 7, .inl (fun _ => 0))), (q3, .inr (8, [.ref q15, .ref q16, .int 0, .int 0, .ref q17, .int 0, .ref q18, .ref q19, .ref q20, .ref q21, .ref q22, .ref q23, .int 0, .int 0])), (q15, .inl (k24, 12, .inl (fun _ => 0))), (q16, .inl (k25, 12, .inl (fun _ => 0))), (q17, .inl (k26, 200, .inl (fun _ => 0))), (q22, .inl (k27, 8, .inl (fun _ => 0))), (q23, .inl (k28, 8, .inl (fun _ => 0))), (q4, .inr (6, [.ref q3, .ref q29, .int 0, .ref q30, .int 0, .int 0, .int 0, .ref q31, .ref q32, .ref q33, .ref q34, .ref q35, .int 0, .ref q36, .ref q37, .ref q38])), (q29, .inl (k39, 4, .inr (.inr (.inr (.inr (fun _ => none)))))), (q6, .inr (9, [.ref q4, .ref q5, .int (-1), .int 0, .ref q40, .null, .int 0, .ref q41, .ref q42, .int 0, .ref q43, .ref q44, .ref q45, .ref q46, .ref q47, .null])), (q7, .inr (1, [.ref q3, .int 0, .int 0, .int 0, .int 0, .int 0, .int 0, .int 0, .ref q48, .ref q49, .ref q50, .ref q51, .ref q52, .int 0, .ref q53, .ref q54])), (q48, .inl (k55, 12, .inl (fun _ => 0))), (q49, .inl (k56, 12, .inl (fun _ => 0))), (q50, .inl (k57, 3, .inl (fun _ => 0))), (q8, .inr (4, [.ref q4, .ref q3, .ref q58, .int 0, .ref q59])), (q59, .inl (k60, 1, .inl (fun _ => 0))), (q61, .inr (11, fm)), (yq1, .inl (yk2, 400, .inl (fun _ => 0))), (yq3, .inl (yk4, 23, .inl (fun _ => 0))), (yq5, .inl (yk6, 92, .inl (fun _ => 0))), (yq1009, .inl (yk1010, 12, .inl (fun _ => 0))), (yq2001, .inl (yk2002, 12, .inl (fun _ => 0))), (yq3001, .inl (yk3002, 8, .inl (fun _ => 0))), (yq3003, .inl (yk3004, 8, .inl (fun _ => 0))), (yq21008, .inl (yk21009, 14, .inl (fun _ => 0))), (yq25001, .inl (yk25002, 12, .inl (fun _ => 0))), (yq25003, .inl (yk25004, 12, .inl (fun _ => 0))), (yq26001, .inl (yk26002, 8, .inl (fun _ => 0)))] H := hP
  have hD : va_D (fun q => s.heap.size ≤ q) [(q1, .inr (10, [.ref q2, .ref q3, .ref q4, .ref q5, .ref q6, .ref q7, .ref q8])), (q2, .inr (5, [.ref q9, .int 0, .int 0, .int (-1), .ref q10, .ref q11, .int 0, .int 0, .int 0, .int 0])), (q9, .inl (k12, 400, .inl (fun _ => 0))), (q10, .inl (k13, 16, .inl (fun _ => 0))), (q11, .inl (k14, 7, .inl (fun _ => 0))), (q3, .inr (8, [.ref q15, .ref q16, .int 0, .int 0, .ref q17, .int 0, .ref q18, .ref q19, .ref q20, .ref q21, .ref q22, .ref q23, .int 0, .int 0])), (q15, .inl (k24, 12, .inl (fun _ => 0))), (q16, .inl (k25, 12, .inl (fun _ => 0))), (q17, .inl (k26, 200, .inl (fun _ => 0))), (q22, .inl (k27, 8, .inl (fun _ => 0))), (q23, .inl (k28, 8, .inl (fun _ => 0))), (q4, .inr (6, [.ref q3, .ref q29, .int 0, .ref q30, .int 0, .int 0, .int 0, .ref q31, .ref q32, .ref q33, .ref q34, .ref q35, .int 0, .ref q36, .ref q37, .ref q38])), (q29, .inl (k39, 4, .inr (.inr (.inr (.inr (fun _ => none)))))), (q6, .inr (9, [.ref q4, .ref q5, .int (-1), .int 0, .ref q40, .null, .int 0, .ref q41, .ref q42, .int 0, .ref q43, .ref q44, .ref q45, .ref q46, .ref q47, .null])), (q7, .inr (1, [.ref q3, .int 0, .int 0, .int 0, .int 0, .int 0, .int 0, .int 0, .ref q48, .ref q49, .ref q50, .ref q51, .ref q52, .int 0, .ref q53, .ref q54])), (q48, .inl (k55, 12, .inl (fun _ => 0))), (q49, .inl (k56, 12, .inl (fun _ => 0))), (q50, .inl (k57, 3, .inl (fun _ => 0))), (q8, .inr (4, [.ref q4, .ref q3, .ref q58, .int 0, .ref q59])), (q59, .inl (k60, 1, .inl (fun _ => 0))), (q61, .inr (11, fm)), (yq1, .inl (yk2, 400, .inl (fun _ => 0))), (yq3, .inl (yk4, 23, .inl (fun _ => 0))), (yq5, .inl (yk6, 92, .inl (fun _ => 0))), (yq1009, .inl (yk1010, 12, .inl (fun _ => 0))), (yq2001, .inl (yk2002, 12, .inl (fun _ => 0))), (yq3001, .inl (yk3002, 8, .inl (fun _ => 0))), (yq3003, .inl (yk3004, 8, .inl (fun _ => 0))), (yq21008, .inl (yk21009, 14, .inl (fun _ => 0))), (yq25001, .inl (yk25002, 12, .inl (fun _ => 0))), (yq25003, .inl (yk25004, 12, .inl (fun _ => 0))), (yq26001, .inl (yk26002, 8, .inl (fun _ => 0)))] := hD
  refine W.widen (k := 137) (n := 78294) (Nat.le_of_ble_eq_true rfl) (Nat.le_of_ble_eq_true rfl) ?_
  refine lv_astore_n (lv' := [(2, .ref q61), (1, .ref q1), (0, .ref b)]) hx hb dL_law_15 rfl hl (by decide) rfl (fun ls hl => ?_)
  refine lv_iconst (v := 0) hx hb dL_law_16 (by decide) ?_
  refine lv_istore_n (lv' := [(3, .int 0), (2, .ref q61), (1, .ref q1), (0, .ref b)]) hx hb dL_law_17 rfl hl (by decide) rfl (fun ls hl => ?_)
  have hl : lv_has ls 4 [(3, .int 0), (2, .ref q61), (1, .ref q1), (0, .ref b)] := hl
  have hl := lv_sub (l' := [(3, .int 0), (2, .ref q61), (1, .ref q1), (0, .ref b)]) hl [0, 1, 2, 3] rfl
  refine lv_iload_n hx hb dL_law_18 rfl (lv_at hl 0 rfl) ?_
  refine lv_aload_n hx hb dL_law_19 rfl (lv_at hl 3 rfl) ?_
  refine va_slen hx hb hX hbl hbA hS dL_law_20 ?_
  refine lv_bipush (v := 7) hx hb dL_law_21 (by decide) ?_
  refine lv_isub hx hb dL_law_23 ?_
  by_cases hL7 : L < 7
  · refine lv_icmp_gt (tgt := 1633) hx hb dL_law_24 (by decide) (fun c1 => ?_) (fun c1 => absurd (le_0 L hL7) c1)
    refine lv_iconst (v := 1) hx hb dL_law_1633 (by decide) ?_
    refine va_forget (fun q h => hS.2.2 q h) ?_
    refine W.widen (k := 600000) (n := 7302250) (Nat.le_of_ble_eq_true rfl) (Nat.le_of_ble_eq_true rfl) ?_
    exact lw_ret hx hb hr hlocks dL_law_1634
  have hL9 : L = 7 := by omega
  subst hL9
  refine lv_icmp_gt (tgt := 1633) hx hb dL_law_24 (by decide) (fun c1 => absurd c1 (by decide)) (fun c1 => ?_)
  refine lv_aload_n hx hb dL_law_27 rfl (lv_at hl 3 rfl) ?_
  refine lv_iload_n hx hb dL_law_28 rfl (lv_at hl 0 rfl) ?_
  refine va_sld hx hb hX hbl hbA hS (by unfold vp_in; decide) dL_law_29 ?_
  refine lv_bipush (v := 63) hx hb dL_law_30 (by decide) ?_
  refine lv_iand hx hb dL_law_32 ?_
  refine lv_topi (fun sw esw => ?_)
  by_cases z62_0 : sw = 0
  · refine lv_tableIn (off := 187) (tgt := 220) hx hb dL_law_33 (by rw [z62_0]; decide) (by rw [z62_0]; decide) (by rw [z62_0]; rfl) (by decide) ?_
    exact lc_0 C0 rfl hE hEa dC dI q1 q2 q9 ([.ref q2, .ref q3, .ref q4, .ref q5, .ref q6, .ref q7, .ref q8]) ([.ref q9, .int 0, .int 0, .int (-1), .ref q10, .ref q11, .int 0, .int 0, .int 0, .int 0]) k12 (fun _ => 0) rfl rfl rfl rfl q61 yq1 (fm) yk2 (fun _ => 0) hn_fm hfm_0 hfm_1 (hK.sub [0, 13] rfl) (hP.sub [0, 1, 2, 20, 21] rfl) (hD.sub [0, 1, 2, 20, 21] (by decide) rfl) hS hl
  by_cases z62_1 : sw = 1
  · refine lv_tableIn (off := 210) (tgt := 243) hx hb dL_law_33 (by rw [z62_1]; decide) (by rw [z62_1]; decide) (by rw [z62_1]; rfl) (by decide) ?_
    exact lc_1 C0 rfl hE hEa dC dI q1 q2 ([.ref q2, .ref q3, .ref q4, .ref q5, .ref q6, .ref q7, .ref q8]) ([.ref q9, .int 0, .int 0, .int (-1), .ref q10, .ref q11, .int 0, .int 0, .int 0, .int 0]) rfl rfl rfl q61 (fm) hn_fm hfm_1 (hK.sub [] rfl) (hP.sub [0, 1, 20] rfl) (hD.sub [0, 1, 20] (by decide) rfl) hS hl
  by_cases z62_2 : sw = 2
  · refine lv_tableIn (off := 223) (tgt := 256) hx hb dL_law_33 (by rw [z62_2]; decide) (by rw [z62_2]; decide) (by rw [z62_2]; rfl) (by decide) ?_
    exact lc_2 C0 rfl hE hEa dC dI q1 q2 q4 q10 q11 q29 ([.ref q2, .ref q3, .ref q4, .ref q5, .ref q6, .ref q7, .ref q8]) ([.ref q9, .int 0, .int 0, .int (-1), .ref q10, .ref q11, .int 0, .int 0, .int 0, .int 0]) ([.ref q3, .ref q29, .int 0, .ref q30, .int 0, .int 0, .int 0, .ref q31, .ref q32, .ref q33, .ref q34, .ref q35, .int 0, .ref q36, .ref q37, .ref q38]) k13 (fun _ => 0) k14 (fun _ => 0) k39 (fun _ => none) rfl rfl rfl rfl rfl rfl rfl rfl rfl rfl rfl q61 yq3 yq5 yq21008 (fm) yk4 (fun _ => 0) yk6 (fun _ => 0) yk21009 (fun _ => 0) hn_fm hfm_1 hfm_4 hfm_5 hfm_6 hfm_57 hfm_58 hfm_62 hfm_63 hfm_69 (hK.sub [1, 2, 8, 14, 15, 20] rfl) (hP.sub [0, 1, 11, 3, 4, 12, 20, 22, 23, 28] rfl) (hD.sub [0, 1, 11, 3, 4, 12, 20, 22, 23, 28] (by decide) rfl) hS hl
  by_cases z62_3 : sw = 3
  · refine lv_tableIn (off := 236) (tgt := 269) hx hb dL_law_33 (by rw [z62_3]; decide) (by rw [z62_3]; decide) (by rw [z62_3]; rfl) (by decide) ?_
    exact lc_3 C0 rfl hE hEa dC dI q1 q2 ([.ref q2, .ref q3, .ref q4, .ref q5, .ref q6, .ref q7, .ref q8]) ([.ref q9, .int 0, .int 0, .int (-1), .ref q10, .ref q11, .int 0, .int 0, .int 0, .int 0]) rfl rfl q61 (fm) hfm_2 (hK.sub [] rfl) (hP.sub [0, 1, 20] rfl) (hD.sub [0, 1, 20] (by decide) rfl) hS hl
  by_cases z62_4 : sw = 4
  · refine lv_tableIn (off := 249) (tgt := 282) hx hb dL_law_33 (by rw [z62_4]; decide) (by rw [z62_4]; decide) (by rw [z62_4]; rfl) (by decide) ?_
    exact lc_4 C0 rfl hE hEa dC dI q1 q4 ([.ref q2, .ref q3, .ref q4, .ref q5, .ref q6, .ref q7, .ref q8]) ([.ref q3, .ref q29, .int 0, .ref q30, .int 0, .int 0, .int 0, .ref q31, .ref q32, .ref q33, .ref q34, .ref q35, .int 0, .ref q36, .ref q37, .ref q38]) rfl rfl q61 (fm) hfm_6 (hK.sub [] rfl) (hP.sub [0, 11, 20] rfl) (hD.sub [0, 11, 20] (by decide) rfl) hS hl
  by_cases z62_5 : sw = 5
  · refine lv_tableIn (off := 282) (tgt := 315) hx hb dL_law_33 (by rw [z62_5]; decide) (by rw [z62_5]; decide) (by rw [z62_5]; rfl) (by decide) ?_
    exact lc_5 C0 rfl hE hEa dC dI q1 q3 q15 q16 ([.ref q2, .ref q3, .ref q4, .ref q5, .ref q6, .ref q7, .ref q8]) ([.ref q15, .ref q16, .int 0, .int 0, .ref q17, .int 0, .ref q18, .ref q19, .ref q20, .ref q21, .ref q22, .ref q23, .int 0, .int 0]) k24 (fun _ => 0) k25 (fun _ => 0) rfl rfl rfl rfl rfl q61 yq1009 yq2001 (fm) yk1010 (fun _ => 0) yk2002 (fun _ => 0) hn_fm hfm_12 hfm_13 hfm_14 (hK.sub [3, 4, 16, 17] rfl) (hP.sub [0, 5, 6, 7, 20, 24, 25] rfl) (hD.sub [0, 5, 6, 7, 20, 24, 25] (by decide) rfl) hS hl
  by_cases z62_6 : sw = 6
  · refine lv_tableIn (off := 315) (tgt := 348) hx hb dL_law_33 (by rw [z62_6]; decide) (by rw [z62_6]; decide) (by rw [z62_6]; rfl) (by decide) ?_
    exact lc_6 C0 rfl hE hEa dC dI q1 q3 q17 ([.ref q2, .ref q3, .ref q4, .ref q5, .ref q6, .ref q7, .ref q8]) ([.ref q15, .ref q16, .int 0, .int 0, .ref q17, .int 0, .ref q18, .ref q19, .ref q20, .ref q21, .ref q22, .ref q23, .int 0, .int 0]) k26 (fun _ => 0) rfl rfl rfl rfl q61 (fm) hn_fm hfm_15 (hK.sub [5] rfl) (hP.sub [0, 5, 8, 20] rfl) (hD.sub [0, 5, 8, 20] (by decide) rfl) hS hl
  by_cases z62_7 : sw = 7
  · refine lv_tableIn (off := 328) (tgt := 361) hx hb dL_law_33 (by rw [z62_7]; decide) (by rw [z62_7]; decide) (by rw [z62_7]; rfl) (by decide) ?_
    exact lc_7 C0 rfl hE hEa dC dI q1 q3 ([.ref q2, .ref q3, .ref q4, .ref q5, .ref q6, .ref q7, .ref q8]) ([.ref q15, .ref q16, .int 0, .int 0, .ref q17, .int 0, .ref q18, .ref q19, .ref q20, .ref q21, .ref q22, .ref q23, .int 0, .int 0]) rfl rfl q61 (fm) hfm_15 (hK.sub [] rfl) (hP.sub [0, 5, 20] rfl) (hD.sub [0, 5, 20] (by decide) rfl) hS hl
  by_cases z62_8 : sw = 8
  · refine lv_tableIn (off := 381) (tgt := 414) hx hb dL_law_33 (by rw [z62_8]; decide) (by rw [z62_8]; decide) (by rw [z62_8]; rfl) (by decide) ?_
    exact lc_8 C0 rfl hE hEa dC dI q1 q3 q22 q23 ([.ref q2, .ref q3, .ref q4, .ref q5, .ref q6, .ref q7, .ref q8]) ([.ref q15, .ref q16, .int 0, .int 0, .ref q17, .int 0, .ref q18, .ref q19, .ref q20, .ref q21, .ref q22, .ref q23, .int 0, .int 0]) k27 (fun _ => 0) k28 (fun _ => 0) rfl rfl rfl rfl rfl q61 yq3001 yq3003 (fm) yk3002 (fun _ => 0) yk3004 (fun _ => 0) hn_fm hfm_21 hfm_22 hfm_23 (hK.sub [6, 7, 18, 19] rfl) (hP.sub [0, 5, 9, 10, 20, 26, 27] rfl) (hD.sub [0, 5, 9, 10, 20, 26, 27] (by decide) rfl) hS hl
  by_cases z62_9 : sw = 9
  · refine lv_tableIn (off := 414) (tgt := 447) hx hb dL_law_33 (by rw [z62_9]; decide) (by rw [z62_9]; decide) (by rw [z62_9]; rfl) (by decide) ?_
    exact lc_9 C0 rfl hE hEa dC dI q1 q3 ([.ref q2, .ref q3, .ref q4, .ref q5, .ref q6, .ref q7, .ref q8]) ([.ref q15, .ref q16, .int 0, .int 0, .ref q17, .int 0, .ref q18, .ref q19, .ref q20, .ref q21, .ref q22, .ref q23, .int 0, .int 0]) rfl rfl rfl q61 (fm) hn_fm hfm_3 (hK.sub [] rfl) (hP.sub [0, 5, 20] rfl) (hD.sub [0, 5, 20] (by decide) rfl) hS hl
  by_cases z62_10 : sw = 10
  · refine lv_tableIn (off := 437) (tgt := 470) hx hb dL_law_33 (by rw [z62_10]; decide) (by rw [z62_10]; decide) (by rw [z62_10]; rfl) (by decide) ?_
    exact lc_10 C0 rfl hE hEa dC dI q1 q4 ([.ref q2, .ref q3, .ref q4, .ref q5, .ref q6, .ref q7, .ref q8]) ([.ref q3, .ref q29, .int 0, .ref q30, .int 0, .int 0, .int 0, .ref q31, .ref q32, .ref q33, .ref q34, .ref q35, .int 0, .ref q36, .ref q37, .ref q38]) rfl rfl q61 (fm) hfm_6 (hK.sub [] rfl) (hP.sub [0, 11, 20] rfl) (hD.sub [0, 11, 20] (by decide) rfl) hS hl
  by_cases z62_11 : sw = 11
  · refine lv_tableIn (off := 470) (tgt := 503) hx hb dL_law_33 (by rw [z62_11]; decide) (by rw [z62_11]; decide) (by rw [z62_11]; rfl) (by decide) ?_
    exact lc_11 C0 rfl hE hEa dC dI q1 q4 ([.ref q2, .ref q3, .ref q4, .ref q5, .ref q6, .ref q7, .ref q8]) ([.ref q3, .ref q29, .int 0, .ref q30, .int 0, .int 0, .int 0, .ref q31, .ref q32, .ref q33, .ref q34, .ref q35, .int 0, .ref q36, .ref q37, .ref q38]) rfl rfl q61 (fm) hfm_6 (hK.sub [] rfl) (hP.sub [0, 11, 20] rfl) (hD.sub [0, 11, 20] (by decide) rfl) hS hl
  by_cases z62_12 : sw = 12
  · refine lv_tableIn (off := 503) (tgt := 536) hx hb dL_law_33 (by rw [z62_12]; decide) (by rw [z62_12]; decide) (by rw [z62_12]; rfl) (by decide) ?_
    exact lc_12 C0 rfl hE hEa dC dI q1 q4 ([.ref q2, .ref q3, .ref q4, .ref q5, .ref q6, .ref q7, .ref q8]) ([.ref q3, .ref q29, .int 0, .ref q30, .int 0, .int 0, .int 0, .ref q31, .ref q32, .ref q33, .ref q34, .ref q35, .int 0, .ref q36, .ref q37, .ref q38]) rfl rfl q61 (fm) hfm_29 (hK.sub [] rfl) (hP.sub [0, 11, 20] rfl) (hD.sub [0, 11, 20] (by decide) rfl) hS hl
  by_cases z62_13 : sw = 13
  · refine lv_tableIn (off := 536) (tgt := 569) hx hb dL_law_33 (by rw [z62_13]; decide) (by rw [z62_13]; decide) (by rw [z62_13]; rfl) (by decide) ?_
    exact lc_13 C0 rfl hE hEa dC dI q1 q4 ([.ref q2, .ref q3, .ref q4, .ref q5, .ref q6, .ref q7, .ref q8]) ([.ref q3, .ref q29, .int 0, .ref q30, .int 0, .int 0, .int 0, .ref q31, .ref q32, .ref q33, .ref q34, .ref q35, .int 0, .ref q36, .ref q37, .ref q38]) rfl rfl q61 (fm) hfm_6 (hK.sub [] rfl) (hP.sub [0, 11, 20] rfl) (hD.sub [0, 11, 20] (by decide) rfl) hS hl
  by_cases z62_14 : sw = 14
  · refine lv_tableIn (off := 569) (tgt := 602) hx hb dL_law_33 (by rw [z62_14]; decide) (by rw [z62_14]; decide) (by rw [z62_14]; rfl) (by decide) ?_
    exact lc_14 C0 rfl hE hEa dC dI q1 q4 ([.ref q2, .ref q3, .ref q4, .ref q5, .ref q6, .ref q7, .ref q8]) ([.ref q3, .ref q29, .int 0, .ref q30, .int 0, .int 0, .int 0, .ref q31, .ref q32, .ref q33, .ref q34, .ref q35, .int 0, .ref q36, .ref q37, .ref q38]) rfl rfl q61 (fm) hfm_29 (hK.sub [] rfl) (hP.sub [0, 11, 20] rfl) (hD.sub [0, 11, 20] (by decide) rfl) hS hl
  by_cases z62_15 : sw = 15
  · refine lv_tableIn (off := 602) (tgt := 635) hx hb dL_law_33 (by rw [z62_15]; decide) (by rw [z62_15]; decide) (by rw [z62_15]; rfl) (by decide) ?_
    exact lc_15 C0 rfl hE hEa dC dI q1 q4 ([.ref q2, .ref q3, .ref q4, .ref q5, .ref q6, .ref q7, .ref q8]) ([.ref q3, .ref q29, .int 0, .ref q30, .int 0, .int 0, .int 0, .ref q31, .ref q32, .ref q33, .ref q34, .ref q35, .int 0, .ref q36, .ref q37, .ref q38]) rfl rfl q61 (fm) hfm_75 (hK.sub [] rfl) (hP.sub [0, 11, 20] rfl) (hD.sub [0, 11, 20] (by decide) rfl) hS hl
  by_cases z62_16 : sw = 16
  · refine lv_tableIn (off := 625) (tgt := 658) hx hb dL_law_33 (by rw [z62_16]; decide) (by rw [z62_16]; decide) (by rw [z62_16]; rfl) (by decide) ?_
    exact lc_16 C0 rfl hE hEa dC dI q1 q4 ([.ref q2, .ref q3, .ref q4, .ref q5, .ref q6, .ref q7, .ref q8]) ([.ref q3, .ref q29, .int 0, .ref q30, .int 0, .int 0, .int 0, .ref q31, .ref q32, .ref q33, .ref q34, .ref q35, .int 0, .ref q36, .ref q37, .ref q38]) rfl rfl q61 (fm) hfm_6 (hK.sub [] rfl) (hP.sub [0, 11, 20] rfl) (hD.sub [0, 11, 20] (by decide) rfl) hS hl
  by_cases z62_17 : sw = 17
  · refine lv_tableIn (off := 668) (tgt := 701) hx hb dL_law_33 (by rw [z62_17]; decide) (by rw [z62_17]; decide) (by rw [z62_17]; rfl) (by decide) ?_
    exact lc_17 C0 rfl hE hEa dC dI q1 q3 ([.ref q2, .ref q3, .ref q4, .ref q5, .ref q6, .ref q7, .ref q8]) ([.ref q15, .ref q16, .int 0, .int 0, .ref q17, .int 0, .ref q18, .ref q19, .ref q20, .ref q21, .ref q22, .ref q23, .int 0, .int 0]) rfl rfl q61 (fm) hfm_15 (hK.sub [] rfl) (hP.sub [0, 5, 20] rfl) (hD.sub [0, 5, 20] (by decide) rfl) hS hl
  by_cases z62_18 : sw = 18
  · refine lv_tableIn (off := 711) (tgt := 744) hx hb dL_law_33 (by rw [z62_18]; decide) (by rw [z62_18]; decide) (by rw [z62_18]; rfl) (by decide) ?_
    exact lc_18 C0 rfl hE hEa dC dI q1 q3 ([.ref q2, .ref q3, .ref q4, .ref q5, .ref q6, .ref q7, .ref q8]) ([.ref q15, .ref q16, .int 0, .int 0, .ref q17, .int 0, .ref q18, .ref q19, .ref q20, .ref q21, .ref q22, .ref q23, .int 0, .int 0]) rfl rfl q61 (fm) hfm_15 (hK.sub [] rfl) (hP.sub [0, 5, 20] rfl) (hD.sub [0, 5, 20] (by decide) rfl) hS hl
  by_cases z62_19 : sw = 19
  · refine lv_tableIn (off := 754) (tgt := 787) hx hb dL_law_33 (by rw [z62_19]; decide) (by rw [z62_19]; decide) (by rw [z62_19]; rfl) (by decide) ?_
    exact lc_19 C0 rfl hE hEa dC dI q1 q4 ([.ref q2, .ref q3, .ref q4, .ref q5, .ref q6, .ref q7, .ref q8]) ([.ref q3, .ref q29, .int 0, .ref q30, .int 0, .int 0, .int 0, .ref q31, .ref q32, .ref q33, .ref q34, .ref q35, .int 0, .ref q36, .ref q37, .ref q38]) rfl rfl q61 (fm) hfm_29 (hK.sub [] rfl) (hP.sub [0, 11, 20] rfl) (hD.sub [0, 11, 20] (by decide) rfl) hS hl
  by_cases z62_20 : sw = 20
  · refine lv_tableIn (off := 777) (tgt := 810) hx hb dL_law_33 (by rw [z62_20]; decide) (by rw [z62_20]; decide) (by rw [z62_20]; rfl) (by decide) ?_
    exact lc_20 C0 rfl hE hEa dC dI q1 q4 ([.ref q2, .ref q3, .ref q4, .ref q5, .ref q6, .ref q7, .ref q8]) ([.ref q3, .ref q29, .int 0, .ref q30, .int 0, .int 0, .int 0, .ref q31, .ref q32, .ref q33, .ref q34, .ref q35, .int 0, .ref q36, .ref q37, .ref q38]) rfl rfl q61 (fm) hfm_29 (hK.sub [] rfl) (hP.sub [0, 11, 20] rfl) (hD.sub [0, 11, 20] (by decide) rfl) hS hl
  by_cases z62_21 : sw = 21
  · refine lv_tableIn (off := 810) (tgt := 843) hx hb dL_law_33 (by rw [z62_21]; decide) (by rw [z62_21]; decide) (by rw [z62_21]; rfl) (by decide) ?_
    exact lc_21 C0 rfl hE hEa dC dI q1 q4 ([.ref q2, .ref q3, .ref q4, .ref q5, .ref q6, .ref q7, .ref q8]) ([.ref q3, .ref q29, .int 0, .ref q30, .int 0, .int 0, .int 0, .ref q31, .ref q32, .ref q33, .ref q34, .ref q35, .int 0, .ref q36, .ref q37, .ref q38]) rfl rfl q61 (fm) hfm_29 (hK.sub [] rfl) (hP.sub [0, 11, 20] rfl) (hD.sub [0, 11, 20] (by decide) rfl) hS hl
  by_cases z62_22 : sw = 22
  · refine lv_tableIn (off := 873) (tgt := 906) hx hb dL_law_33 (by rw [z62_22]; decide) (by rw [z62_22]; decide) (by rw [z62_22]; rfl) (by decide) ?_
    exact lc_22 C0 rfl hE hEa dC dI q1 q4 ([.ref q2, .ref q3, .ref q4, .ref q5, .ref q6, .ref q7, .ref q8]) ([.ref q3, .ref q29, .int 0, .ref q30, .int 0, .int 0, .int 0, .ref q31, .ref q32, .ref q33, .ref q34, .ref q35, .int 0, .ref q36, .ref q37, .ref q38]) rfl rfl q61 (fm) hfm_29 (hK.sub [] rfl) (hP.sub [0, 11, 20] rfl) (hD.sub [0, 11, 20] (by decide) rfl) hS hl
  by_cases z62_23 : sw = 23
  · refine lv_tableIn (off := 948) (tgt := 981) hx hb dL_law_33 (by rw [z62_23]; decide) (by rw [z62_23]; decide) (by rw [z62_23]; rfl) (by decide) ?_
    exact lc_23 C0 rfl hE hEa dC dI q1 q4 ([.ref q2, .ref q3, .ref q4, .ref q5, .ref q6, .ref q7, .ref q8]) ([.ref q3, .ref q29, .int 0, .ref q30, .int 0, .int 0, .int 0, .ref q31, .ref q32, .ref q33, .ref q34, .ref q35, .int 0, .ref q36, .ref q37, .ref q38]) rfl rfl q61 (fm) hfm_29 (hK.sub [] rfl) (hP.sub [0, 11, 20] rfl) (hD.sub [0, 11, 20] (by decide) rfl) hS hl
  by_cases z62_24 : sw = 24
  · refine lv_tableIn (off := 981) (tgt := 1014) hx hb dL_law_33 (by rw [z62_24]; decide) (by rw [z62_24]; decide) (by rw [z62_24]; rfl) (by decide) ?_
    exact lc_24 C0 rfl hE hEa dC dI q1 q4 ([.ref q2, .ref q3, .ref q4, .ref q5, .ref q6, .ref q7, .ref q8]) ([.ref q3, .ref q29, .int 0, .ref q30, .int 0, .int 0, .int 0, .ref q31, .ref q32, .ref q33, .ref q34, .ref q35, .int 0, .ref q36, .ref q37, .ref q38]) rfl rfl q61 (fm) hfm_29 (hK.sub [] rfl) (hP.sub [0, 11, 20] rfl) (hD.sub [0, 11, 20] (by decide) rfl) hS hl
  by_cases z62_25 : sw = 25
  · refine lv_tableIn (off := 1024) (tgt := 1057) hx hb dL_law_33 (by rw [z62_25]; decide) (by rw [z62_25]; decide) (by rw [z62_25]; rfl) (by decide) ?_
    exact lc_25 C0 rfl hE hEa dC dI q1 q4 ([.ref q2, .ref q3, .ref q4, .ref q5, .ref q6, .ref q7, .ref q8]) ([.ref q3, .ref q29, .int 0, .ref q30, .int 0, .int 0, .int 0, .ref q31, .ref q32, .ref q33, .ref q34, .ref q35, .int 0, .ref q36, .ref q37, .ref q38]) rfl rfl q61 (fm) hfm_29 (hK.sub [] rfl) (hP.sub [0, 11, 20] rfl) (hD.sub [0, 11, 20] (by decide) rfl) hS hl
  by_cases z62_26 : sw = 26
  · refine lv_tableIn (off := 1057) (tgt := 1090) hx hb dL_law_33 (by rw [z62_26]; decide) (by rw [z62_26]; decide) (by rw [z62_26]; rfl) (by decide) ?_
    exact lc_26 C0 rfl hE hEa dC dI q1 q4 ([.ref q2, .ref q3, .ref q4, .ref q5, .ref q6, .ref q7, .ref q8]) ([.ref q3, .ref q29, .int 0, .ref q30, .int 0, .int 0, .int 0, .ref q31, .ref q32, .ref q33, .ref q34, .ref q35, .int 0, .ref q36, .ref q37, .ref q38]) rfl rfl q61 (fm) hfm_29 (hK.sub [] rfl) (hP.sub [0, 11, 20] rfl) (hD.sub [0, 11, 20] (by decide) rfl) hS hl
  by_cases z62_27 : sw = 27
  · refine lv_tableIn (off := 1100) (tgt := 1133) hx hb dL_law_33 (by rw [z62_27]; decide) (by rw [z62_27]; decide) (by rw [z62_27]; rfl) (by decide) ?_
    exact lc_27 C0 rfl hE hEa dC dI q1 q4 ([.ref q2, .ref q3, .ref q4, .ref q5, .ref q6, .ref q7, .ref q8]) ([.ref q3, .ref q29, .int 0, .ref q30, .int 0, .int 0, .int 0, .ref q31, .ref q32, .ref q33, .ref q34, .ref q35, .int 0, .ref q36, .ref q37, .ref q38]) rfl rfl q61 (fm) hfm_6 (hK.sub [] rfl) (hP.sub [0, 11, 20] rfl) (hD.sub [0, 11, 20] (by decide) rfl) hS hl
  by_cases z62_28 : sw = 28
  · refine lv_tableIn (off := 1153) (tgt := 1186) hx hb dL_law_33 (by rw [z62_28]; decide) (by rw [z62_28]; decide) (by rw [z62_28]; rfl) (by decide) ?_
    exact lc_28 C0 rfl hE hEa dC dI q1 q4 ([.ref q2, .ref q3, .ref q4, .ref q5, .ref q6, .ref q7, .ref q8]) ([.ref q3, .ref q29, .int 0, .ref q30, .int 0, .int 0, .int 0, .ref q31, .ref q32, .ref q33, .ref q34, .ref q35, .int 0, .ref q36, .ref q37, .ref q38]) rfl rfl q61 (fm) hfm_6 (hK.sub [] rfl) (hP.sub [0, 11, 20] rfl) (hD.sub [0, 11, 20] (by decide) rfl) hS hl
  by_cases z62_29 : sw = 29
  · refine lv_tableIn (off := 1196) (tgt := 1229) hx hb dL_law_33 (by rw [z62_29]; decide) (by rw [z62_29]; decide) (by rw [z62_29]; rfl) (by decide) ?_
    exact lc_29 C0 rfl hE hEa dC dI q1 q4 ([.ref q2, .ref q3, .ref q4, .ref q5, .ref q6, .ref q7, .ref q8]) ([.ref q3, .ref q29, .int 0, .ref q30, .int 0, .int 0, .int 0, .ref q31, .ref q32, .ref q33, .ref q34, .ref q35, .int 0, .ref q36, .ref q37, .ref q38]) rfl rfl q61 (fm) hfm_6 (hK.sub [] rfl) (hP.sub [0, 11, 20] rfl) (hD.sub [0, 11, 20] (by decide) rfl) hS hl
  by_cases z62_30 : sw = 30
  · refine lv_tableIn (off := 1239) (tgt := 1272) hx hb dL_law_33 (by rw [z62_30]; decide) (by rw [z62_30]; decide) (by rw [z62_30]; rfl) (by decide) ?_
    exact lc_30 C0 rfl hE hEa dC dI q1 q4 ([.ref q2, .ref q3, .ref q4, .ref q5, .ref q6, .ref q7, .ref q8]) ([.ref q3, .ref q29, .int 0, .ref q30, .int 0, .int 0, .int 0, .ref q31, .ref q32, .ref q33, .ref q34, .ref q35, .int 0, .ref q36, .ref q37, .ref q38]) rfl rfl q61 (fm) hfm_6 (hK.sub [] rfl) (hP.sub [0, 11, 20] rfl) (hD.sub [0, 11, 20] (by decide) rfl) hS hl
  by_cases z62_31 : sw = 31
  · refine lv_tableIn (off := 1272) (tgt := 1305) hx hb dL_law_33 (by rw [z62_31]; decide) (by rw [z62_31]; decide) (by rw [z62_31]; rfl) (by decide) ?_
    exact lc_31 C0 rfl hE hEa dC dI q1 q4 ([.ref q2, .ref q3, .ref q4, .ref q5, .ref q6, .ref q7, .ref q8]) ([.ref q3, .ref q29, .int 0, .ref q30, .int 0, .int 0, .int 0, .ref q31, .ref q32, .ref q33, .ref q34, .ref q35, .int 0, .ref q36, .ref q37, .ref q38]) rfl rfl q61 (fm) hfm_29 (hK.sub [] rfl) (hP.sub [0, 11, 20] rfl) (hD.sub [0, 11, 20] (by decide) rfl) hS hl
  by_cases z62_32 : sw = 32
  · refine lv_tableIn (off := 1295) (tgt := 1328) hx hb dL_law_33 (by rw [z62_32]; decide) (by rw [z62_32]; decide) (by rw [z62_32]; rfl) (by decide) ?_
    exact lc_32 C0 rfl hE hEa dC dI q1 q6 ([.ref q2, .ref q3, .ref q4, .ref q5, .ref q6, .ref q7, .ref q8]) ([.ref q4, .ref q5, .int (-1), .int 0, .ref q40, .null, .int 0, .ref q41, .ref q42, .int 0, .ref q43, .ref q44, .ref q45, .ref q46, .ref q47, .null]) rfl rfl q61 (fm) hfm_90 (hK.sub [] rfl) (hP.sub [0, 13, 20] rfl) (hD.sub [0, 13, 20] (by decide) rfl) hS hl
  by_cases z62_33 : sw = 33
  · refine lv_tableIn (off := 1308) (tgt := 1341) hx hb dL_law_33 (by rw [z62_33]; decide) (by rw [z62_33]; decide) (by rw [z62_33]; rfl) (by decide) ?_
    exact lc_33 C0 rfl hE hEa dC dI q1 q4 ([.ref q2, .ref q3, .ref q4, .ref q5, .ref q6, .ref q7, .ref q8]) ([.ref q3, .ref q29, .int 0, .ref q30, .int 0, .int 0, .int 0, .ref q31, .ref q32, .ref q33, .ref q34, .ref q35, .int 0, .ref q36, .ref q37, .ref q38]) rfl rfl q61 (fm) hfm_6 (hK.sub [] rfl) (hP.sub [0, 11, 20] rfl) (hD.sub [0, 11, 20] (by decide) rfl) hS hl
  by_cases z62_34 : sw = 34
  · refine lv_tableIn (off := 1341) (tgt := 1374) hx hb dL_law_33 (by rw [z62_34]; decide) (by rw [z62_34]; decide) (by rw [z62_34]; rfl) (by decide) ?_
    exact lc_34 C0 rfl hE hEa dC dI q1 q7 q48 q49 q50 ([.ref q2, .ref q3, .ref q4, .ref q5, .ref q6, .ref q7, .ref q8]) ([.ref q3, .int 0, .int 0, .int 0, .int 0, .int 0, .int 0, .int 0, .ref q48, .ref q49, .ref q50, .ref q51, .ref q52, .int 0, .ref q53, .ref q54]) k55 (fun _ => 0) k56 (fun _ => 0) k57 (fun _ => 0) rfl rfl rfl rfl rfl q61 yq25001 yq25003 (fm) yk25002 (fun _ => 0) yk25004 (fun _ => 0) hn_fm hfm_101 hfm_102 (hK.sub [9, 10, 11, 21, 22] rfl) (hP.sub [0, 14, 15, 16, 17, 20, 29, 30] rfl) (hD.sub [0, 14, 15, 16, 17, 20, 29, 30] (by decide) rfl) hS hl
  by_cases z62_35 : sw = 35
  · refine lv_tableIn (off := 1374) (tgt := 1407) hx hb dL_law_33 (by rw [z62_35]; decide) (by rw [z62_35]; decide) (by rw [z62_35]; rfl) (by decide) ?_
    exact lc_35 C0 rfl hE hEa dC dI q1 q3 ([.ref q2, .ref q3, .ref q4, .ref q5, .ref q6, .ref q7, .ref q8]) ([.ref q15, .ref q16, .int 0, .int 0, .ref q17, .int 0, .ref q18, .ref q19, .ref q20, .ref q21, .ref q22, .ref q23, .int 0, .int 0]) rfl rfl q61 (fm) hfm_12 (hK.sub [] rfl) (hP.sub [0, 5, 20] rfl) (hD.sub [0, 5, 20] (by decide) rfl) hS hl
  by_cases z62_36 : sw = 36
  · refine lv_tableIn (off := 1407) (tgt := 1440) hx hb dL_law_33 (by rw [z62_36]; decide) (by rw [z62_36]; decide) (by rw [z62_36]; rfl) (by decide) ?_
    exact lc_36 C0 rfl hE hEa dC dI q1 q7 ([.ref q2, .ref q3, .ref q4, .ref q5, .ref q6, .ref q7, .ref q8]) ([.ref q3, .int 0, .int 0, .int 0, .int 0, .int 0, .int 0, .int 0, .ref q48, .ref q49, .ref q50, .ref q51, .ref q52, .int 0, .ref q53, .ref q54]) rfl rfl q61 (fm) hfm_98 (hK.sub [] rfl) (hP.sub [0, 14, 20] rfl) (hD.sub [0, 14, 20] (by decide) rfl) hS hl
  by_cases z62_37 : sw = 37
  · refine lv_tableIn (off := 1420) (tgt := 1453) hx hb dL_law_33 (by rw [z62_37]; decide) (by rw [z62_37]; decide) (by rw [z62_37]; rfl) (by decide) ?_
    exact lc_37 C0 rfl hE hEa dC dI q1 q3 ([.ref q2, .ref q3, .ref q4, .ref q5, .ref q6, .ref q7, .ref q8]) ([.ref q15, .ref q16, .int 0, .int 0, .ref q17, .int 0, .ref q18, .ref q19, .ref q20, .ref q21, .ref q22, .ref q23, .int 0, .int 0]) rfl rfl q61 (fm) hfm_12 (hK.sub [] rfl) (hP.sub [0, 5, 20] rfl) (hD.sub [0, 5, 20] (by decide) rfl) hS hl
  by_cases z62_38 : sw = 38
  · refine lv_tableIn (off := 1453) (tgt := 1486) hx hb dL_law_33 (by rw [z62_38]; decide) (by rw [z62_38]; decide) (by rw [z62_38]; rfl) (by decide) ?_
    exact lc_38 C0 rfl hE hEa dC dI q1 q7 ([.ref q2, .ref q3, .ref q4, .ref q5, .ref q6, .ref q7, .ref q8]) ([.ref q3, .int 0, .int 0, .int 0, .int 0, .int 0, .int 0, .int 0, .ref q48, .ref q49, .ref q50, .ref q51, .ref q52, .int 0, .ref q53, .ref q54]) rfl rfl q61 (fm) hfm_12 hfm_98 (hK.sub [] rfl) (hP.sub [0, 14, 20] rfl) (hD.sub [0, 14, 20] (by decide) rfl) hS hl
  by_cases z62_39 : sw = 39
  · refine lv_tableIn (off := 1502) (tgt := 1535) hx hb dL_law_33 (by rw [z62_39]; decide) (by rw [z62_39]; decide) (by rw [z62_39]; rfl) (by decide) ?_
    exact lc_39 C0 rfl hE hEa dC dI q1 q3 ([.ref q2, .ref q3, .ref q4, .ref q5, .ref q6, .ref q7, .ref q8]) ([.ref q15, .ref q16, .int 0, .int 0, .ref q17, .int 0, .ref q18, .ref q19, .ref q20, .ref q21, .ref q22, .ref q23, .int 0, .int 0]) rfl rfl q61 (fm) hfm_12 (hK.sub [] rfl) (hP.sub [0, 5, 20] rfl) (hD.sub [0, 5, 20] (by decide) rfl) hS hl
  by_cases z62_40 : sw = 40
  · refine lv_tableIn (off := 1525) (tgt := 1558) hx hb dL_law_33 (by rw [z62_40]; decide) (by rw [z62_40]; decide) (by rw [z62_40]; rfl) (by decide) ?_
    exact lc_40 C0 rfl hE hEa dC dI q1 q3 q4 q8 q59 ([.ref q2, .ref q3, .ref q4, .ref q5, .ref q6, .ref q7, .ref q8]) ([.ref q15, .ref q16, .int 0, .int 0, .ref q17, .int 0, .ref q18, .ref q19, .ref q20, .ref q21, .ref q22, .ref q23, .int 0, .int 0]) ([.ref q3, .ref q29, .int 0, .ref q30, .int 0, .int 0, .int 0, .ref q31, .ref q32, .ref q33, .ref q34, .ref q35, .int 0, .ref q36, .ref q37, .ref q38]) ([.ref q4, .ref q3, .ref q58, .int 0, .ref q59]) k60 (fun _ => 0) rfl rfl rfl rfl rfl rfl rfl rfl q61 yq26001 (fm) yk26002 (fun _ => 0) hn_fm hfm_21 hfm_29 hfm_107 hfm_108 hfm_112 hfm_113 (hK.sub [12, 23] rfl) (hP.sub [0, 5, 11, 18, 19, 20, 31] rfl) (hD.sub [0, 5, 11, 18, 19, 20, 31] (by decide) rfl) hS hl
  by_cases z62_41 : sw = 41
  · refine lv_tableIn (off := 1548) (tgt := 1581) hx hb dL_law_33 (by rw [z62_41]; decide) (by rw [z62_41]; decide) (by rw [z62_41]; rfl) (by decide) ?_
    exact lc_41 C0 rfl hE hEa dC dI q1 q4 ([.ref q2, .ref q3, .ref q4, .ref q5, .ref q6, .ref q7, .ref q8]) ([.ref q3, .ref q29, .int 0, .ref q30, .int 0, .int 0, .int 0, .ref q31, .ref q32, .ref q33, .ref q34, .ref q35, .int 0, .ref q36, .ref q37, .ref q38]) rfl rfl q61 (fm) hfm_29 (hK.sub [] rfl) (hP.sub [0, 11, 20] rfl) (hD.sub [0, 11, 20] (by decide) rfl) hS hl
  by_cases z62_42 : sw = 42
  · refine lv_tableIn (off := 1571) (tgt := 1604) hx hb dL_law_33 (by rw [z62_42]; decide) (by rw [z62_42]; decide) (by rw [z62_42]; rfl) (by decide) ?_
    exact lc_42 C0 rfl hE hEa dC dI q1 q3 q4 ([.ref q2, .ref q3, .ref q4, .ref q5, .ref q6, .ref q7, .ref q8]) ([.ref q15, .ref q16, .int 0, .int 0, .ref q17, .int 0, .ref q18, .ref q19, .ref q20, .ref q21, .ref q22, .ref q23, .int 0, .int 0]) ([.ref q3, .ref q29, .int 0, .ref q30, .int 0, .int 0, .int 0, .ref q31, .ref q32, .ref q33, .ref q34, .ref q35, .int 0, .ref q36, .ref q37, .ref q38]) rfl rfl rfl rfl rfl rfl rfl rfl rfl rfl q61 (fm) hfm_3 hfm_6 hfm_12 hfm_15 hfm_16 hfm_21 hfm_29 hfm_47 (hK.sub [] rfl) (hP.sub [0, 5, 11, 20] rfl) (hD.sub [0, 5, 11, 20] (by decide) rfl) hS hl
  have z62o : sw.toInt < 0 ∨ 42 < sw.toInt := by
    have t_0 := lv_neT (a := 0) z62_0 rfl
    have t_1 := lv_neT (a := 1) z62_1 rfl
    have t_2 := lv_neT (a := 2) z62_2 rfl
    have t_3 := lv_neT (a := 3) z62_3 rfl
    have t_4 := lv_neT (a := 4) z62_4 rfl
    have t_5 := lv_neT (a := 5) z62_5 rfl
    have t_6 := lv_neT (a := 6) z62_6 rfl
    have t_7 := lv_neT (a := 7) z62_7 rfl
    have t_8 := lv_neT (a := 8) z62_8 rfl
    have t_9 := lv_neT (a := 9) z62_9 rfl
    have t_10 := lv_neT (a := 10) z62_10 rfl
    have t_11 := lv_neT (a := 11) z62_11 rfl
    have t_12 := lv_neT (a := 12) z62_12 rfl
    have t_13 := lv_neT (a := 13) z62_13 rfl
    have t_14 := lv_neT (a := 14) z62_14 rfl
    have t_15 := lv_neT (a := 15) z62_15 rfl
    have t_16 := lv_neT (a := 16) z62_16 rfl
    have t_17 := lv_neT (a := 17) z62_17 rfl
    have t_18 := lv_neT (a := 18) z62_18 rfl
    have t_19 := lv_neT (a := 19) z62_19 rfl
    have t_20 := lv_neT (a := 20) z62_20 rfl
    have t_21 := lv_neT (a := 21) z62_21 rfl
    have t_22 := lv_neT (a := 22) z62_22 rfl
    have t_23 := lv_neT (a := 23) z62_23 rfl
    have t_24 := lv_neT (a := 24) z62_24 rfl
    have t_25 := lv_neT (a := 25) z62_25 rfl
    have t_26 := lv_neT (a := 26) z62_26 rfl
    have t_27 := lv_neT (a := 27) z62_27 rfl
    have t_28 := lv_neT (a := 28) z62_28 rfl
    have t_29 := lv_neT (a := 29) z62_29 rfl
    have t_30 := lv_neT (a := 30) z62_30 rfl
    have t_31 := lv_neT (a := 31) z62_31 rfl
    have t_32 := lv_neT (a := 32) z62_32 rfl
    have t_33 := lv_neT (a := 33) z62_33 rfl
    have t_34 := lv_neT (a := 34) z62_34 rfl
    have t_35 := lv_neT (a := 35) z62_35 rfl
    have t_36 := lv_neT (a := 36) z62_36 rfl
    have t_37 := lv_neT (a := 37) z62_37 rfl
    have t_38 := lv_neT (a := 38) z62_38 rfl
    have t_39 := lv_neT (a := 39) z62_39 rfl
    have t_40 := lv_neT (a := 40) z62_40 rfl
    have t_41 := lv_neT (a := 41) z62_41 rfl
    have t_42 := lv_neT (a := 42) z62_42 rfl
    omega
  refine lv_tableOut (tgt := 1627) hx hb dL_law_33 z62o (by decide) ?_
  exact lw_fin (Nat.le_refl 7) C0 (Nat.le_of_ble_eq_true rfl) (Nat.le_of_ble_eq_true rfl) hS hl
set_option maxHeartbeats 4000000 in
theorem lw_walk (l : Launch) (b : Addr) (xs : List Int32) : MetFree l x (headSpec (Jvm.Cond.code x code maxLocals ret :: tables_1) room_1) (lw_P b xs) (fun _ _ _ _ _ => True) lw_Q := by
  refine MetFree.of_bodyS (code := code) (maxLocals := maxLocals) (ret := ret) (by decide) ?_ ?_
  · intro args s m h hn
    obtain ⟨meth, c, h1, h2, h3, h4, h5, h6, -, -⟩ := Cond.code_spec hn (atoms_spec (ws := Jvm.Cond.code x code maxLocals ret :: tables_1) h _ List.mem_cons_self)
    exact ⟨meth, c, h1, h2, h3, h4, h5, h6⟩
  · intro p e s m args below meth c s₁ B hml0 hP _
    obtain ⟨rfl, hx, hbd, hgv⟩ := hP
    obtain ⟨scr, harrAt, hlist, hof, hsmall⟩ := hx
    obtain ⟨hcb, hkn, -, -⟩ := State.arrayAt?_spec harrAt
    have hown : s.vm.findClass R_law = some m.cls := findClass_of_methodNamed B.named
    have hts0 : ∀ c ∈ (Jvm.Cond.code x code maxLocals ret :: tables_1), c.before #[Value.ref b] s = true := atoms_spec (ws := Jvm.Cond.code x code maxLocals ret :: tables_1) B.pre
    have hts : ∀ w ∈ lw_tbl, w.before #[Value.ref b] s = true := k2_hts_sels lw_privs (fun w hw => hts0 w (List.mem_cons_of_mem _ hw)) lw_privs_ok
    have hml : c.maxLocals = 4 := B.maxLocals_eq (hts0 _ List.mem_cons_self)
    have X₀ : Stand p l e room_1 s m #[Value.ref b] below meth c s₁ [] 0 0 := Stand.of_body B
    have hh0 : s₁.heap = s.heap := by rw [B.state]; rfl
    have hsz : scr.slots.size = xs.length := by rw [← Array.length_toList, hlist, List.length_map]
    have hval : ∀ j : Nat, j < xs.length → scr.slots[j]? = some (.int (xs.getD j 0)) := fun j hj => by
      rw [← Array.getElem?_toList, hlist]
      simp [hj]
    have hbl : b < s.heap.size := (Array.getElem?_eq_some_iff.mp hcb).1
    have hX : va_X b xs.length (fun j => xs.getD j 0) s s.heap := ⟨scr, hcb, hof, hkn, hsz, hval⟩
    have K : W p l e room_1 s m #[Value.ref b] below meth c s₁.heap [] 0 0 (lw_Z below #[Value.ref b] s) (entryFrame m ([Value.ref b] : List Value).toArray 4) := by
      rw [hh0]
      exact whole_start l hbd ⟨B.exec, B.bytes, B.returns, hml, hown, hts, hX, hbl, B.notSynchronized, hgv⟩
    obtain ⟨t, a1, o, b1, b2, b3⟩ := K s₁ rfl X₀
    exact ⟨t, o, a1, b1, b2, b3⟩
theorem lw_pre_spec {args : Array Value} {s : State} (h : (Jvm.Cond.and given_1 narrow_1).before args s = true) (hr : rest_1_c.before args s = true) : ∃ (b : Addr) (xs : List Int32), lw_P b xs args s := by
  have hs := flat_of_before _ h
  have hq := flat_of_before _ hr
  have hc : (Cond.count 1).before args s = true := hs _ (by decide +kernel)
  have harr : (Cond.arrayOf (.arg 0) .int).before args s = true := hs _ (by decide +kernel)
  have hle : (Cond.le (.length (.arg 0)) (.int 7)).before args s = true := hs _ (by decide +kernel)
  have hlen : (Cond.isInt (.length (.arg 0))).before args s = true := hq _ (by decide +kernel)
  have hall : (Cond.all (.arg 0) (.isInt (.elem (.arg 0) (.index 0)))).before args s = true := hq _ (by decide +kernel)
  obtain ⟨b, xs, hb, hx⟩ := State.ints_of_pre rfl harr hlen hall
  have hsm : xs.length < 2 ^ 31 := hx.choose_spec.2.2.2
  have hev : (Term.length (.arg 0)).eval args s none [] s = some (.int xs.length.toInt32) := hx.length_eval hb
  have hv := Cond.le_ints hev (show (Term.int 7).eval args s none [] s = some (.int 7) from rfl)
  have hd : xs.length.toInt32 ≤ 7 := by
    simpa [Cond.before, Cond.holds, hv] using hle
  have hN : xs.length ≤ 7 := (Int32.ofNat_le_ofNat hsm (by decide)).mp (show Int32.ofNat xs.length ≤ Int32.ofNat 7 from hd)
  exact ⟨b, xs, Cond.one_arg hc (show args[0]? = some (.ref b) from hb), hx, hN, h⟩
theorem lw_comes (l : Launch) : Comes l x (Jvm.Cond.code x code maxLocals ret :: tables_1) room_1 (fun tb e args s => Calls_1 tb e args s ∧ rest_1 tb e args s ∧ Pre_1 tb e args s)
    (fun _ _ args s o t => lw_Q args s o t) := by
  intro p e ha hc hk s m args below hf hfit hheap happ hpre
  obtain ⟨b, xs, hP⟩ := lw_pre_spec hpre.2.2 hpre.2.1
  obtain ⟨k, o, h1, h2, h3, hQ⟩ := lw_walk l b xs p e ha hc hk s m args below hf ((Spec.applies_iff_loose hf).mp happ).1 hP trivial
  exact ⟨k, o, h1, h2, h3, hQ⟩
theorem lw_frame {s t : State} {o : Outcome} {args : Array Value} (h : Framed s o t [] 600000 7302250) :
    Framed s o t (fieldLocs frame_1_writes args s ++ arrayLocs frame_1_arrays args s ++ staticLocs frame_1_statics s) 600000 7302250 := h
theorem lw_limb (L : Cond) (hL : ∀ (args : Array Value) (s t : State), L.after args s (.returned (some (.int 1))) t = true) :
    ArmFor flags0 classFile x code maxLocals ret World_1 tables_1 room_1 Calls_1 rest_1 Pre_1
      (fun tb e a s o t => postC L tb e a s o t ∧ Framed s o t (fieldLocs frame_1_writes a s ++ arrayLocs frame_1_arrays a s ++ staticLocs frame_1_statics s) 600000 7302250) := by
  intro l _ _ _ p e ha hc hk s m args below hf hfit hheap happ hpre
  obtain ⟨k, o, h1, h2, h3, rfl, hF⟩ := lw_comes l p e ha hc hk s m args below hf hfit hheap happ hpre
  exact ⟨k, _, h1, h2, h3, hL args s _, lw_frame hF⟩
theorem i_vc : Claimed_1_1 ∧ Claimed_1_2 := ⟨lw_limb limb_1_1 (fun args s t => by simp [limb_1_1, Cond.after, Cond.holds, Cond.value]), lw_limb limb_1_2 (fun args s t => Cond.after_iff.mpr (by
  first | (rw [show limb_1_2 = Cond.eq .result (.int 1) from rfl, Cond.eq_ints (x := 1) (y := 1) rfl rfl]; simp; done) | (simp [limb_1_2, Cond.value, Term.eval]; done)))⟩
