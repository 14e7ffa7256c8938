def R_law : String := "SportsHouseLaw"
def lw_P (b : Addr) (xs : List Int32) (args : Array Value) (s : State) : Prop := args = #[.ref b] ∧ s.IntsAt b xs ∧ xs.length ≤ 7 ∧ (Jvm.Cond.and given_1 narrow_1).before args s = true
def lw_Q (_ : Array Value) (s : State) (o : Outcome) (t : State) : Prop := o = .returned (some (.int 1)) ∧ Framed s o t [] 600000 7302250
def lw_Z (below : List Frame) (a : Array Value) (s : State) : State → Prop := fun t => ∃ o, t.status = .running ∧ Ended t below o ∧ lw_Q a s o t
/-- the law's own end, with 1 on the stack, nothing written that was there before, its room as the claim has it -/
theorem lw_ret {p : Program} {l : Launch} {e : Env} {s : State} {m : MethodId} {below : List Frame} {meth : Method} {c : Code} {b : Nat} (hx : p.tables.exec = Jvm.exec) (hb : c.code = code) (hr : meth.sig.returnType = ret) (hlocks : meth.locks = false) {pc : Nat} {H : Heap} {ls : Array Slot} (hdg : decode code pc = .ok (.ireturn, 1)) : W p l e room_1 s m #[Value.ref b] below meth c H [] 600000 7302250 (lw_Z below #[Value.ref b] s) (F0 m pc ls [.int 1]) := by
  intro T hT X
  obtain ⟨fs, hret, hrun, hended, hW, hframe⟩ := X.leave (v := some (.int 1)) (hlocks := hlocks) (fun h => by rw [hr] at h; cases h)
  have hmeth' : T.vm.method? m = some meth := X.method'
  refine ⟨T.setFrames fs, ?_, .returned (some (.int 1)), hrun, hended, rfl, ⟨_, rfl⟩, hW, hframe⟩
  jvm_step X.here [X.here.top, hx, hb, hdg, hmeth', hr, ret, narrow_b1]
  (try refine ⟨rfl, ?_⟩); (try refine ⟨rfl, ?_⟩)
  first | (intro acts; rw [hret _ acts rfl rfl rfl]) | rw [hret _ _ rfl rfl rfl]
  exact Steps.refl _
/-- what holds at the law's entry: the machine, the code, the tables' words (any of lw_tbl by 'hts w (by decide +kernel)'), the script of L ints xs at the cell b, what the Statement gives of the start (any of its parts by flat_of_before) -/
def lw_At (p : Program) (s : State) (m : MethodId) (meth : Method) (c : Code) (b L : Nat) (xs : Nat → Int32) : Prop :=
  p.tables.exec = Jvm.exec ∧ c.code = code ∧ meth.sig.returnType = ret ∧ c.maxLocals = 4 ∧ s.vm.findClass R_law = some m.cls ∧ (∀ w ∈ lw_tbl, w.before #[Value.ref b] s = true) ∧ va_X b L xs s s.heap ∧ b < s.heap.size ∧ meth.locks = false ∧ (Jvm.Cond.and given_1 narrow_1).before #[Value.ref b] s = true

theorem in_iff {v lo hi : Int32} : sp_X11_in v lo hi = 0 ↔ v < lo ∨ hi < v := by
  unfold sp_X11_in
  by_cases h1 : v < lo
  · simp [h1]
  · by_cases h2 : hi < v
    · simp [h1, h2]
    · simp [h1, h2]
theorem be_iff {v n : Int32} : sp_X10_isBelow v n = 0 ↔ v < 0 ∨ n ≤ v := by
  unfold sp_X10_isBelow
  by_cases h1 : v < 0
  · simp [h1]
  · by_cases h2 : n ≤ v
    · simp [h1, h2]
    · simp [h1, h2]
theorem da_in (a : Int32) : sp_X10_isDay a = sp_X11_in a 0 999 := rfl
theorem be_12 (a : Int32) : (sp_X10_isBelow a 12 = 0) = (sp_X11_in a 0 11 = 0) := by
  rw [be_iff, in_iff, Int32.le_iff_toInt_le, Int32.lt_iff_toInt_lt (x := 11)]
  have e1 : (12 : Int32).toInt = 12 := by decide
  have e2 : (11 : Int32).toInt = 11 := by decide
  rw [e1, e2]
  exact propext ⟨fun h => h.imp id (fun q => by omega), fun h => h.imp id (fun q => by omega)⟩
theorem be_8 (a : Int32) : (sp_X10_isBelow a 8 = 0) = (sp_X11_in a 0 7 = 0) := by
  rw [be_iff, in_iff, Int32.le_iff_toInt_le, Int32.lt_iff_toInt_lt (x := 7)]
  have e1 : (8 : Int32).toInt = 8 := by decide
  have e2 : (7 : Int32).toInt = 7 := by decide
  rw [e1, e2]
  exact propext ⟨fun h => h.imp id (fun q => by omega), fun h => h.imp id (fun q => by omega)⟩
theorem sq_sign (a : Int32) : sp_X10_sign a = sp_X11_sign a := by
  unfold sp_X10_sign sp_X11_sign
  by_cases h10 : a = 10
  · rw [if_pos h10, if_pos h10]
  · rw [if_neg h10, if_neg h10]
    by_cases h1 : a < 32
    · rw [if_pos h1, if_pos (in_iff.mpr (Or.inl h1))]
    · rw [if_neg h1]
      by_cases h2 : a ≤ 126
      · rw [if_pos h2, if_neg (fun h => (in_iff.mp h).elim h1 (fun q => absurd h2 (Int32.not_le.mpr q)))]
      · rw [if_neg h2, if_pos (in_iff.mpr (Or.inr (Int32.not_le.mp h2)))]
theorem sq_club (a b : Int32) : sp_X10_club a b = sp_X11_club a b := by
  unfold sp_X10_club sp_X11_club
  simp only [be_12, be_8]
theorem sq_official (a b : Int32) : sp_X10_official a b = sp_X11_official a b := by
  unfold sp_X10_official sp_X11_official
  simp only [be_12, be_8]
theorem sq_day (a : Int32) : sp_X10_day a = sp_X11_day a := by
  unfold sp_X10_day sp_X11_day
  have e0 : (0 : Int32).toInt = 0 := by decide
  have e1 : (1 : Int32).toInt = 1 := by decide
  by_cases h1 : 0 < a
  · have h2 : ¬ a < 0 := fun q => by
      have q1 := Int32.lt_iff_toInt_lt.mp q
      have q2 := Int32.lt_iff_toInt_lt.mp h1
      omega
    have h3 : ¬ a < 1 := fun q => by
      have q1 := Int32.lt_iff_toInt_lt.mp q
      have q2 := Int32.lt_iff_toInt_lt.mp h1
      omega
    rw [da_in, if_pos h1]
    have hh : (sp_X11_in a 0 999 = 0) = (sp_X11_in a 1 999 = 0) := by
      rw [in_iff, in_iff]
      exact propext ⟨fun h => h.elim (fun q => absurd q h2) Or.inr, fun h => h.elim (fun q => absurd q h3) Or.inr⟩
    simp only [hh]
  · have h3 : a < 1 := Int32.lt_iff_toInt_lt.mpr (by
      have q2 : ¬ (0 : Int32).toInt < a.toInt := fun q => h1 (Int32.lt_iff_toInt_lt.mpr q)
      omega)
    rw [if_neg h1, if_pos (in_iff.mpr (Or.inl h3))]
    simp
theorem sq_drawing (a b : Int32) : sp_X10_drawing a b = sp_X11_drawing a b := by
  unfold sp_X10_drawing sp_X11_drawing
  by_cases h1 : a < 1
  · rw [if_pos h1, if_pos (in_iff.mpr (Or.inl h1))]
  · by_cases h2 : 4 < a
    · rw [if_neg h1, if_pos h2, if_pos (in_iff.mpr (Or.inr h2))]
    · rw [if_neg h1, if_neg h2, if_neg (fun h => (in_iff.mp h).elim h1 h2)]
      by_cases h3 : b < 1
      · rw [if_pos h3, if_pos (in_iff.mpr (Or.inl h3))]
      · by_cases h4 : b ≤ 3
        · rw [if_neg h3, if_pos h4, if_neg (fun h => (in_iff.mp h).elim h3 (fun q => absurd h4 (Int32.not_le.mpr q)))]
        · rw [if_neg h3, if_neg h4, if_pos (in_iff.mpr (Or.inr (Int32.not_le.mp h4)))]
theorem sq_assign (a : Int32) : sp_X10_assign a = sp_X11_assign a := rfl
theorem sq_count (a : Int32) : sp_X10_count a = sp_X11_count a := rfl
theorem le_7 : ∀ L, L ≤ 7 → Int32.ofNat L - 7 < 7 := by decide
theorem le_0 : ∀ L, L < 7 → Int32.ofNat L - 7 < 0 := by decide
/-- the law's end, once the one call is compared -/
theorem lw_fin {p : Program} {l : Launch} {e : Env} {s : State} {m : MethodId} {below : List Frame} {meth : Method} {c : Code} {b L : Nat} {xs : Nat → Int32} (hL : L ≤ 7) (C0 : lw_At p s m meth c b L xs) {x0 m0 : Nat} {H : Heap} {locs : List Loc} {kc ks : Nat} {ls : Array Slot} (hkc : kc ≤ 600000) (hks : ks ≤ 7302250) (hS : va_S (fun q => s.heap.size ≤ q) s.heap H locs) (hl : lv_has ls 4 [(3, .int 0), (2, .ref m0), (1, .ref x0), (0, .ref b)]) : W p l e room_1 s m #[Value.ref b] below meth c H locs kc ks (lw_Z below #[Value.ref b] s) (F0 m 1627 ls []) := by
  obtain ⟨hx, hb, hr, hml, hown, hts, hX, hbl, hlocks, hgv⟩ := id C0
  have hb : c.code = cL_law := hb
  refine lv_iinc (v := 7) (lv' := [(3, .int 7), (2, .ref m0), (1, .ref x0), (0, .ref b)]) hx hb dL_law_1627 hl (k := 0) rfl (by decide) (by decide) rfl (fun ls hl => ?_)
  refine lv_goto (tgt := 18) hx hb dL_law_1630 (by decide) ?_
  refine lv_iload_n hx hb dL_law_18 rfl (lv_at hl 0 rfl) ?_
  refine lv_aload_n hx hb dL_law_19 rfl (lv_at hl 3 rfl) ?_
  refine va_slen hx hb hX hbl (Nat.not_le.mpr hbl) hS dL_law_20 ?_
  refine lv_bipush (v := 7) hx hb dL_law_21 (by decide) ?_
  refine lv_isub hx hb dL_law_23 ?_
  refine lv_icmp_gt (tgt := 1633) hx hb dL_law_24 (by decide) (fun c1 => ?_) (fun c1 => absurd (le_7 L hL) c1)
  refine lv_iconst (v := 1) hx hb dL_law_1633 (by decide) ?_
  refine va_forget (fun q h => hS.2.2 q h) ?_
  refine W.widen (k := 600000) (n := 7302250) hkc hks ?_
  exact lw_ret hx hb hr hlocks dL_law_1634
theorem kw_427 : Cond.methodLink RL 13 yX10_sign ∈ lw_g := lw_at 427 (by decide +kernel) rfl
theorem kw_428 : Cond.instanceMethod yX10_sign ∈ lw_g := lw_at 428 (by decide +kernel) rfl
theorem kw_429 : Cond.selects RX10 yX10_sign yX10_sign ∈ lw_g := lw_at 429 (by decide +kernel) rfl
theorem kw_430 : Cond.code yX10_sign cX10_sign 2 (some .int) ∈ lw_g := lw_at 430 (by decide +kernel) rfl
theorem gv_L_13 : GoodIn lw_g (wsV RL 13 RX10 yX10_sign (.code yX10_sign cX10_sign 2 (some .int) :: lw_g)) := gi_V kw_427 kw_428 kw_429 kw_1 kw_430
theorem kw_1771 : Cond.methodLink RL 17 yX11_sign ∈ lw_g := lw_at 1771 (by decide +kernel) rfl
theorem kw_1772 : Cond.instanceMethod yX11_sign ∈ lw_g := lw_at 1772 (by decide +kernel) rfl
theorem kw_1773 : Cond.selects RX11 yX11_sign yX11_sign ∈ lw_g := lw_at 1773 (by decide +kernel) rfl
theorem kw_1774 : Cond.code yX11_sign cX11_sign 2 (some .int) ∈ lw_g := lw_at 1774 (by decide +kernel) rfl
theorem gv_L_17 : GoodIn lw_g (wsV RL 17 RX11 yX11_sign (.code yX11_sign cX11_sign 2 (some .int) :: lw_g)) := gi_V kw_1771 kw_1772 kw_1773 kw_10 kw_1774
set_option maxHeartbeats 4000000 in
set_option maxRecDepth 100000 in
theorem lc_0 {p : Program} {l : Launch} {e : Env} {s : State} {m : MethodId} {below : List Frame} {meth : Method} {c : Code} {b L : Nat} {xs : Nat → Int32} (C0 : lw_At p s m meth c b L xs) (hL : L = 7) (hE : ex_E s) (hEa : ea_E (fun q => s.heap.size ≤ q) s) (dC : Nat → ClassId) (dI : Nat → Nat → Nat) (x0 : Nat) (rt : Nat) (ab : Nat) (fx : List Value) (frt : List Value) (kab : ClassId) (gab : Nat → Int32) (hfx_0 : fx[0]? = some (Value.ref rt)) (hn_frt : frt.length = 10) (hfrt_0 : frt[0]? = some (Value.ref ab)) (hfrt_1 : frt[1]? = some (Value.int 0)) (m0 : Nat) (ma : Nat) (fm : List Value) (kma : ClassId) (gma : Nat → Int32) (hn_fm : fm.length = 114) (hfm_0 : fm[0]? = some (Value.ref ma)) (hfm_1 : fm[1]? = some (Value.int 0)) {ls : Array Slot} {H : Heap} {locs : List Loc} (hK : va_K (dC, dI) vwCl [(kab, .int), (kma, .int)] s) (hP : va_P (dC, dI) vwCl [(x0, .inr (10, fx)), (rt, .inr (5, frt)), (ab, .inl (kab, 400, .inl gab)), (m0, .inr (11, fm)), (ma, .inl (kma, 400, .inl gma))] H) (hD : va_D (fun q => s.heap.size ≤ q) [(x0, .inr (10, fx)), (rt, .inr (5, frt)), (ab, .inl (kab, 400, .inl gab)), (m0, .inr (11, fm)), (ma, .inl (kma, 400, .inl gma))]) (hS : va_S (fun q => s.heap.size ≤ q) s.heap H locs) (hl : lv_has ls 4 [(3, .int 0), (2, .ref m0), (1, .ref x0), (0, .ref b)]) : W p l e room_1 s m #[Value.ref b] below meth c H locs 137 78294 (lw_Z below #[Value.ref b] s) (F0 m 220 ls []) := by
  subst hL
  have hL9 : 7 ≤ 7 := Nat.le_refl 7
  obtain ⟨hx, hb, hr, hml, hown, hts, hX, hbl, hlocks, hgv⟩ := id C0
  have hb : c.code = cL_law := hb
  have hown : s.vm.findClass RL = some m.cls := hown
  have ht : ∀ w ∈ lw_g, w.before #[Value.ref b] s = true := fun w h => hts w (List.mem_filter.mp h).1
  have hA : ∀ q : Nat, s.heap.size ≤ q → (fun q => s.heap.size ≤ q) q := fun _ h => h
  have hbA : ¬ (fun q => s.heap.size ≤ q) b := Nat.not_le.mpr hbl
  refine lv_aload_n hx hb dL_law_220 rfl (lv_at hl 2 rfl) ?_
  refine lv_aload_n hx hb dL_law_221 rfl (lv_at hl 3 rfl) ?_
  refine lv_iload_n hx hb dL_law_222 rfl (lv_at hl 0 rfl) ?_
  refine lv_iconst (v := 1) hx hb dL_law_223 (by decide) ?_
  refine lv_iadd hx hb dL_law_224 ?_
  refine lv_topi (fun r1 er1 => ?_)
  have er1 : r1 = 1 := er1.trans (by decide)
  subst er1
  refine va_sld hx hb hX hbl hbA hS (by unfold vp_in; decide) dL_law_225 ?_
  have hPc := hP.sub (ws' := [(x0, .inr (10, fx)), (rt, .inr (5, frt)), (ab, .inl (kab, 400, .inl gab))]) [0, 1, 2] rfl
  have hDc := hD.sub (ws' := [(x0, .inr (10, fx)), (rt, .inr (5, frt)), (ab, .inl (kab, 400, .inl gab))]) [0, 1, 2] (by decide) rfl
  have hKc := hK.sub (tys' := [(kab, .int)]) [0] rfl
  have hFc := va_free (wc := [(x0, .inr (10, fx)), (rt, .inr (5, frt)), (ab, .inl (kab, 400, .inl gab))]) hD hS hA [0, 1, 2] rfl
  refine va_calli (va_runV (As := [.int (xs (1 : Int32).toNatClampNeg)]) (rest := []) ⟨hx, hb, hml, hown, ht⟩ (ct_X10_sign l dC dI x0 rt ab (fx) (frt) kab gab hfx_0 hn_frt hfrt_0 hfrt_1 _ (xs (1 : Int32).toNatClampNeg)) (cwV 1 ht gv_L_13 rfl rfl rfl (by decide +kernel) ⟨Nat.le_of_ble_eq_true rfl, Nat.le_of_ble_eq_true rfl⟩) ⟨ro_blind, va_recv hKc hPc (ci := 10) (q0 := 0) rfl rfl, fun U hU hW => ⟨rfl, by rw [hU], by rw [hU]; exact hPc, va_K.moved hW.alike hKc, hDc.weaken (fun _ _ _ _ => trivial), ex_warm hW hE⟩⟩ rfl rfl hl.1 rfl (lv_room (Nat.le_of_ble_eq_true rfl)) dL_law_226 ⟨Nat.le_of_ble_eq_true rfl, Nat.le_of_ble_eq_true rfl⟩) hS (fun q _ h => hFc q h) hFc (fun rr u t H1 locs ht1 hvm hw hB hz1 hk1 hS => ?_)
  subst hw
  obtain ⟨hP, hD⟩ := va_join (wr := [(m0, .inr (11, fm)), (ma, .inl (kma, 400, .inl gma))]) (w1 := []) hP hD [0, 1, 2] [3, 4] rfl rfl (by decide) (by decide) hk1 hFc (fun k q h => by simp at h) ⟨fun i j p q h => by simp at h, fun k q h => by simp at h⟩
  generalize H1 = H at hP hS ⊢
  have hP : va_P (dC, dI) vwCl [(m0, .inr (11, fm)), (ma, .inl (kma, 400, .inl gma))] H := hP
  have hD : va_D (fun q => s.heap.size ≤ q) [(m0, .inr (11, fm)), (ma, .inl (kma, 400, .inl gma))] := hD
  refine lv_aload_n hx hb dL_law_229 rfl (lv_at hl 1 rfl) ?_
  refine lv_aload_n hx hb dL_law_230 rfl (lv_at hl 3 rfl) ?_
  refine lv_iload_n hx hb dL_law_231 rfl (lv_at hl 0 rfl) ?_
  refine lv_iconst (v := 1) hx hb dL_law_232 (by decide) ?_
  refine lv_iadd hx hb dL_law_233 ?_
  refine lv_topi (fun r2 er2 => ?_)
  have er2 : r2 = 1 := er2.trans (by decide)
  subst er2
  refine va_sld hx hb hX hbl hbA hS (by unfold vp_in; decide) dL_law_234 ?_
  have hPc := hP.sub (ws' := [(m0, .inr (11, fm)), (ma, .inl (kma, 400, .inl gma))]) [0, 1] rfl
  have hDc := hD.sub (ws' := [(m0, .inr (11, fm)), (ma, .inl (kma, 400, .inl gma))]) [0, 1] (by decide) rfl
  have hKc := hK.sub (tys' := [(kma, .int)]) [1] rfl
  have hFc := va_free (wc := [(m0, .inr (11, fm)), (ma, .inl (kma, 400, .inl gma))]) hD hS hA [0, 1] rfl
  refine va_calli (va_runV (As := [.int (xs (1 : Int32).toNatClampNeg)]) (rest := [.int (sp_X10_sign (xs (1 : Int32).toNatClampNeg))]) ⟨hx, hb, hml, hown, ht⟩ (ct_X11_sign l dC dI m0 ma (fm) kma gma hn_fm hfm_0 hfm_1 _ (xs (1 : Int32).toNatClampNeg)) (cwV 1 ht gv_L_17 rfl rfl rfl (by decide +kernel) ⟨Nat.le_of_ble_eq_true rfl, Nat.le_of_ble_eq_true rfl⟩) ⟨ro_blind, va_recv hKc hPc (ci := 11) (q0 := 0) rfl rfl, fun U hU hW => ⟨rfl, by rw [hU], by rw [hU]; exact hPc, va_K.moved hW.alike hKc, hDc.weaken (fun _ _ _ _ => trivial), ex_warm hW hE⟩⟩ rfl rfl hl.1 rfl (lv_room (Nat.le_of_ble_eq_true rfl)) dL_law_235 ⟨Nat.le_of_ble_eq_true rfl, Nat.le_of_ble_eq_true rfl⟩) hS (fun q _ h => hFc q h) hFc (fun rr u t H1 locs ht1 hvm hw hB hz1 hk1 hS => ?_)
  subst hw
  obtain ⟨hP, hD⟩ := va_join (wr := []) (w1 := []) hP hD [0, 1] [] rfl rfl (by decide) (by decide) hk1 hFc (fun k q h => by simp at h) ⟨fun i j p q h => by simp at h, fun k q h => by simp at h⟩
  generalize H1 = H at hP hS ⊢
  have hP : va_P (dC, dI) vwCl [] H := hP
  have hD : va_D (fun q => s.heap.size ≤ q) [] := hD
  refine lv_icmp_eq (tgt := 1627) hx hb dL_law_238 (by decide) (fun c9 => ?_) (fun c9 => absurd (sq_sign _) c9)
  exact lw_fin hL9 C0 (Nat.le_of_ble_eq_true rfl) (Nat.le_of_ble_eq_true rfl) hS hl
theorem kw_431 : Cond.methodLink RL 18 yX10_wipe ∈ lw_g := lw_at 431 (by decide +kernel) rfl
theorem kw_432 : Cond.instanceMethod yX10_wipe ∈ lw_g := lw_at 432 (by decide +kernel) rfl
theorem kw_433 : Cond.selects RX10 yX10_wipe yX10_wipe ∈ lw_g := lw_at 433 (by decide +kernel) rfl
theorem kw_434 : Cond.code yX10_wipe cX10_wipe 2 (some .int) ∈ lw_g := lw_at 434 (by decide +kernel) rfl
theorem gv_L_18 : GoodIn lw_g (wsV RL 18 RX10 yX10_wipe (.code yX10_wipe cX10_wipe 2 (some .int) :: lw_g)) := gi_V kw_431 kw_432 kw_433 kw_1 kw_434
theorem kw_1778 : Cond.methodLink RL 22 yX11_wipe ∈ lw_g := lw_at 1778 (by decide +kernel) rfl
theorem kw_1779 : Cond.instanceMethod yX11_wipe ∈ lw_g := lw_at 1779 (by decide +kernel) rfl
theorem kw_1780 : Cond.selects RX11 yX11_wipe yX11_wipe ∈ lw_g := lw_at 1780 (by decide +kernel) rfl
theorem kw_1781 : Cond.code yX11_wipe cX11_wipe 2 (some .int) ∈ lw_g := lw_at 1781 (by decide +kernel) rfl
theorem gv_L_22 : GoodIn lw_g (wsV RL 22 RX11 yX11_wipe (.code yX11_wipe cX11_wipe 2 (some .int) :: lw_g)) := gi_V kw_1778 kw_1779 kw_1780 kw_10 kw_1781
set_option maxHeartbeats 4000000 in
set_option maxRecDepth 100000 in
theorem lc_1 {p : Program} {l : Launch} {e : Env} {s : State} {m : MethodId} {below : List Frame} {meth : Method} {c : Code} {b L : Nat} {xs : Nat → Int32} (C0 : lw_At p s m meth c b L xs) (hL : L = 7) (hE : ex_E s) (hEa : ea_E (fun q => s.heap.size ≤ q) s) (dC : Nat → ClassId) (dI : Nat → Nat → Nat) (x0 : Nat) (rt : Nat) (fx : List Value) (frt : List Value) (hfx_0 : fx[0]? = some (Value.ref rt)) (hn_frt : frt.length = 10) (hfrt_1 : frt[1]? = some (Value.int 0)) (m0 : Nat) (fm : List Value) (hn_fm : fm.length = 114) (hfm_1 : fm[1]? = some (Value.int 0)) {ls : Array Slot} {H : Heap} {locs : List Loc} (hK : va_K (dC, dI) vwCl [] s) (hP : va_P (dC, dI) vwCl [(x0, .inr (10, fx)), (rt, .inr (5, frt)), (m0, .inr (11, fm))] H) (hD : va_D (fun q => s.heap.size ≤ q) [(x0, .inr (10, fx)), (rt, .inr (5, frt)), (m0, .inr (11, fm))]) (hS : va_S (fun q => s.heap.size ≤ q) s.heap H locs) (hl : lv_has ls 4 [(3, .int 0), (2, .ref m0), (1, .ref x0), (0, .ref b)]) : W p l e room_1 s m #[Value.ref b] below meth c H locs 137 78294 (lw_Z below #[Value.ref b] s) (F0 m 243 ls []) := by
  subst hL
  have hL9 : 7 ≤ 7 := Nat.le_refl 7
  obtain ⟨hx, hb, hr, hml, hown, hts, hX, hbl, hlocks, hgv⟩ := id C0
  have hb : c.code = cL_law := hb
  have hown : s.vm.findClass RL = some m.cls := hown
  have ht : ∀ w ∈ lw_g, w.before #[Value.ref b] s = true := fun w h => hts w (List.mem_filter.mp h).1
  have hA : ∀ q : Nat, s.heap.size ≤ q → (fun q => s.heap.size ≤ q) q := fun _ h => h
  have hbA : ¬ (fun q => s.heap.size ≤ q) b := Nat.not_le.mpr hbl
  refine lv_aload_n hx hb dL_law_243 rfl (lv_at hl 2 rfl) ?_
  have hPc := hP.sub (ws' := [(x0, .inr (10, fx)), (rt, .inr (5, frt))]) [0, 1] rfl
  have hDc := hD.sub (ws' := [(x0, .inr (10, fx)), (rt, .inr (5, frt))]) [0, 1] (by decide) rfl
  have hKc := hK.sub (tys' := []) [] rfl
  have hFc := va_free (wc := [(x0, .inr (10, fx)), (rt, .inr (5, frt))]) hD hS hA [0, 1] rfl
  refine va_calli (va_runV (As := []) (rest := []) ⟨hx, hb, hml, hown, ht⟩ (ct_X10_wipe l dC dI x0 rt (fx) (frt) hfx_0 hn_frt hfrt_1 _ ) (cwV 0 ht gv_L_18 rfl rfl rfl (by decide +kernel) ⟨Nat.le_of_ble_eq_true rfl, Nat.le_of_ble_eq_true rfl⟩) ⟨ro_blind, va_recv hKc hPc (ci := 10) (q0 := 0) rfl rfl, fun U hU hW => ⟨rfl, by rw [hU], by rw [hU]; exact hPc, va_K.moved hW.alike hKc, hDc.weaken (fun _ _ _ _ => trivial), ex_warm hW hE⟩⟩ rfl rfl hl.1 rfl (lv_room (Nat.le_of_ble_eq_true rfl)) dL_law_244 ⟨Nat.le_of_ble_eq_true rfl, Nat.le_of_ble_eq_true rfl⟩) hS (fun q _ h => hFc q h) hFc (fun rr u t H1 locs ht1 hvm hw hB hz1 hk1 hS => ?_)
  subst hw
  obtain ⟨hP, hD⟩ := va_join (wr := [(m0, .inr (11, fm))]) (w1 := []) hP hD [0, 1] [2] rfl rfl (by decide) (by decide) hk1 hFc (fun k q h => by simp at h) ⟨fun i j p q h => by simp at h, fun k q h => by simp at h⟩
  generalize H1 = H at hP hS ⊢
  have hP : va_P (dC, dI) vwCl [(m0, .inr (11, fm))] H := hP
  have hD : va_D (fun q => s.heap.size ≤ q) [(m0, .inr (11, fm))] := hD
  refine lv_aload_n hx hb dL_law_247 rfl (lv_at hl 1 rfl) ?_
  have hPc := hP.sub (ws' := [(m0, .inr (11, fm))]) [0] rfl
  have hDc := hD.sub (ws' := [(m0, .inr (11, fm))]) [0] (by decide) rfl
  have hKc := hK.sub (tys' := []) [] rfl
  have hFc := va_free (wc := [(m0, .inr (11, fm))]) hD hS hA [0] rfl
  refine va_calli (va_runV (As := []) (rest := [.int 0]) ⟨hx, hb, hml, hown, ht⟩ (ct_X11_wipe l dC dI m0 (fm) hn_fm hfm_1 _ ) (cwV 0 ht gv_L_22 rfl rfl rfl (by decide +kernel) ⟨Nat.le_of_ble_eq_true rfl, Nat.le_of_ble_eq_true rfl⟩) ⟨ro_blind, va_recv hKc hPc (ci := 11) (q0 := 0) rfl rfl, fun U hU hW => ⟨rfl, by rw [hU], by rw [hU]; exact hPc, va_K.moved hW.alike hKc, hDc.weaken (fun _ _ _ _ => trivial), ex_warm hW hE⟩⟩ rfl rfl hl.1 rfl (lv_room (Nat.le_of_ble_eq_true rfl)) dL_law_248 ⟨Nat.le_of_ble_eq_true rfl, Nat.le_of_ble_eq_true rfl⟩) hS (fun q _ h => hFc q h) hFc (fun rr u t H1 locs ht1 hvm hw hB hz1 hk1 hS => ?_)
  subst hw
  obtain ⟨hP, hD⟩ := va_join (wr := []) (w1 := []) hP hD [0] [] rfl rfl (by decide) (by decide) hk1 hFc (fun k q h => by simp at h) ⟨fun i j p q h => by simp at h, fun k q h => by simp at h⟩
  generalize H1 = H at hP hS ⊢
  have hP : va_P (dC, dI) vwCl [] H := hP
  have hD : va_D (fun q => s.heap.size ≤ q) [] := hD
  refine lv_icmp_eq (tgt := 1627) hx hb dL_law_251 (by decide) (fun c1 => ?_) (fun c1 => ?_)
  rotate_left
  · exact absurd (by decide) c1
  exact lw_fin hL9 C0 (Nat.le_of_ble_eq_true rfl) (Nat.le_of_ble_eq_true rfl) hS hl
theorem kw_435 : Cond.methodLink RL 23 yX10_competition ∈ lw_g := lw_at 435 (by decide +kernel) rfl
theorem kw_436 : Cond.instanceMethod yX10_competition ∈ lw_g := lw_at 436 (by decide +kernel) rfl
theorem kw_437 : Cond.selects RX10 yX10_competition yX10_competition ∈ lw_g := lw_at 437 (by decide +kernel) rfl
theorem kw_438 : Cond.code yX10_competition cX10_competition 3 (some .int) ∈ lw_g := lw_at 438 (by decide +kernel) rfl
theorem gv_L_23 : GoodIn lw_g (wsV RL 23 RX10 yX10_competition (.code yX10_competition cX10_competition 3 (some .int) :: lw_g)) := gi_V kw_435 kw_436 kw_437 kw_1 kw_438
theorem kw_1782 : Cond.methodLink RL 26 yX11_competition ∈ lw_g := lw_at 1782 (by decide +kernel) rfl
theorem kw_1783 : Cond.instanceMethod yX11_competition ∈ lw_g := lw_at 1783 (by decide +kernel) rfl
theorem kw_1784 : Cond.selects RX11 yX11_competition yX11_competition ∈ lw_g := lw_at 1784 (by decide +kernel) rfl
theorem kw_1785 : Cond.code yX11_competition cX11_competition 3 (some .int) ∈ lw_g := lw_at 1785 (by decide +kernel) rfl
theorem gv_L_26 : GoodIn lw_g (wsV RL 26 RX11 yX11_competition (.code yX11_competition cX11_competition 3 (some .int) :: lw_g)) := gi_V kw_1782 kw_1783 kw_1784 kw_10 kw_1785
set_option maxHeartbeats 4000000 in
set_option maxRecDepth 100000 in
theorem lc_2 {p : Program} {l : Launch} {e : Env} {s : State} {m : MethodId} {below : List Frame} {meth : Method} {c : Code} {b L : Nat} {xs : Nat → Int32} (C0 : lw_At p s m meth c b L xs) (hL : L = 7) (hE : ex_E s) (hEa : ea_E (fun q => s.heap.size ≤ q) s) (dC : Nat → ClassId) (dI : Nat → Nat → Nat) (x0 : Nat) (rt : Nat) (se : Nat) (av : Nat) (ak : Nat) (aq : Nat) (fx : List Value) (frt : List Value) (fse : List Value) (kav : ClassId) (gav : Nat → Int32) (kak : ClassId) (gak : Nat → Int32) (kaq : ClassId) (gaq : Nat → Option Nat) (hfx_0 : fx[0]? = some (Value.ref rt)) (hfx_2 : fx[2]? = some (Value.ref se)) (hn_frt : frt.length = 10) (hfrt_1 : frt[1]? = some (Value.int 0)) (hfrt_4 : frt[4]? = some (Value.ref av)) (hfrt_5 : frt[5]? = some (Value.ref ak)) (hfrt_7 : frt[7]? = some (Value.int 0)) (hfrt_9 : frt[9]? = some (Value.int 0)) (hn_fse : fse.length = 16) (hfse_1 : fse[1]? = some (Value.ref aq)) (hfse_2 : fse[2]? = some (Value.int 0)) (m0 : Nat) (mb : Nat) (mc : Nat) (md : Nat) (fm : List Value) (kmb : ClassId) (gmb : Nat → Int32) (kmc : ClassId) (gmc : Nat → Int32) (kmd : ClassId) (gmd : Nat → Int32) (hn_fm : fm.length = 114) (hfm_1 : fm[1]? = some (Value.int 0)) (hfm_4 : fm[4]? = some (Value.ref mb)) (hfm_5 : fm[5]? = some (Value.ref mc)) (hfm_6 : fm[6]? = some (Value.int 0)) (hfm_57 : fm[57]? = some (Value.int 0)) (hfm_58 : fm[58]? = some (Value.int 0)) (hfm_62 : fm[62]? = some (Value.int 0)) (hfm_63 : fm[63]? = some (Value.int 0)) (hfm_69 : fm[69]? = some (Value.ref md)) {ls : Array Slot} {H : Heap} {locs : List Loc} (hK : va_K (dC, dI) vwCl [(kav, .int), (kak, .int), (kaq, .object RX0), (kmb, .int), (kmc, .int), (kmd, .boolean)] s) (hP : va_P (dC, dI) vwCl [(x0, .inr (10, fx)), (rt, .inr (5, frt)), (se, .inr (6, fse)), (av, .inl (kav, 16, .inl gav)), (ak, .inl (kak, 7, .inl gak)), (aq, .inl (kaq, 4, .inr (.inr (.inr (.inr gaq))))), (m0, .inr (11, fm)), (mb, .inl (kmb, 23, .inl gmb)), (mc, .inl (kmc, 92, .inl gmc)), (md, .inl (kmd, 14, .inl gmd))] H) (hD : va_D (fun q => s.heap.size ≤ q) [(x0, .inr (10, fx)), (rt, .inr (5, frt)), (se, .inr (6, fse)), (av, .inl (kav, 16, .inl gav)), (ak, .inl (kak, 7, .inl gak)), (aq, .inl (kaq, 4, .inr (.inr (.inr (.inr gaq))))), (m0, .inr (11, fm)), (mb, .inl (kmb, 23, .inl gmb)), (mc, .inl (kmc, 92, .inl gmc)), (md, .inl (kmd, 14, .inl gmd))]) (hS : va_S (fun q => s.heap.size ≤ q) s.heap H locs) (hl : lv_has ls 4 [(3, .int 0), (2, .ref m0), (1, .ref x0), (0, .ref b)]) : W p l e room_1 s m #[Value.ref b] below meth c H locs 137 78294 (lw_Z below #[Value.ref b] s) (F0 m 256 ls []) := by
  subst hL
  have hL9 : 7 ≤ 7 := Nat.le_refl 7
  obtain ⟨hx, hb, hr, hml, hown, hts, hX, hbl, hlocks, hgv⟩ := id C0
  have hb : c.code = cL_law := hb
  have hown : s.vm.findClass RL = some m.cls := hown
  have ht : ∀ w ∈ lw_g, w.before #[Value.ref b] s = true := fun w h => hts w (List.mem_filter.mp h).1
  have hA : ∀ q : Nat, s.heap.size ≤ q → (fun q => s.heap.size ≤ q) q := fun _ h => h
  have hbA : ¬ (fun q => s.heap.size ≤ q) b := Nat.not_le.mpr hbl
  refine lv_aload_n hx hb dL_law_256 rfl (lv_at hl 2 rfl) ?_
  have hPc := hP.sub (ws' := [(x0, .inr (10, fx)), (rt, .inr (5, frt)), (se, .inr (6, fse)), (av, .inl (kav, 16, .inl gav)), (ak, .inl (kak, 7, .inl gak)), (aq, .inl (kaq, 4, .inr (.inr (.inr (.inr gaq)))))]) [0, 1, 2, 3, 4, 5] rfl
  have hDc := hD.sub (ws' := [(x0, .inr (10, fx)), (rt, .inr (5, frt)), (se, .inr (6, fse)), (av, .inl (kav, 16, .inl gav)), (ak, .inl (kak, 7, .inl gak)), (aq, .inl (kaq, 4, .inr (.inr (.inr (.inr gaq)))))]) [0, 1, 2, 3, 4, 5] (by decide) rfl
  have hKc := hK.sub (tys' := [(kav, .int), (kak, .int), (kaq, .object RX0)]) [0, 1, 2] rfl
  have hFc := va_free (wc := [(x0, .inr (10, fx)), (rt, .inr (5, frt)), (se, .inr (6, fse)), (av, .inl (kav, 16, .inl gav)), (ak, .inl (kak, 7, .inl gak)), (aq, .inl (kaq, 4, .inr (.inr (.inr (.inr gaq)))))]) hD hS hA [0, 1, 2, 3, 4, 5] rfl
  refine va_calli (va_runV (As := []) (rest := []) ⟨hx, hb, hml, hown, ht⟩ (ct_X10_competition l dC dI x0 rt se av ak aq (fx) (frt) (fse) kav gav kak gak kaq gaq hfx_0 hfx_2 hn_frt hfrt_1 hfrt_4 hfrt_5 hfrt_7 hfrt_9 hn_fse hfse_1 hfse_2 _ ) (cwV 0 ht gv_L_23 rfl rfl rfl (by decide +kernel) ⟨Nat.le_of_ble_eq_true rfl, Nat.le_of_ble_eq_true rfl⟩) ⟨ra_blind, va_recv hKc hPc (ci := 10) (q0 := 0) rfl rfl, fun U hU hW => ⟨rfl, by rw [hU], by rw [hU]; exact hPc, va_K.moved hW.alike hKc, hDc.weaken (fun _ _ _ _ => trivial), ex_warm hW hE, ea_call hEa hS hFc hU hW⟩⟩ rfl rfl hl.1 rfl (lv_room (Nat.le_of_ble_eq_true rfl)) dL_law_257 ⟨Nat.le_of_ble_eq_true rfl, Nat.le_of_ble_eq_true rfl⟩) hS (fun q _ h => hFc q h) hFc (fun rr u t H1 locs ht1 hvm hw hB hz1 hk1 hS => ?_)
  subst hw
  obtain ⟨hP, hD⟩ := va_join (wr := [(m0, .inr (11, fm)), (mb, .inl (kmb, 23, .inl gmb)), (mc, .inl (kmc, 92, .inl gmc)), (md, .inl (kmd, 14, .inl gmd))]) (w1 := []) hP hD [0, 1, 2, 3, 4, 5] [6, 7, 8, 9] rfl rfl (by decide) (by decide) hk1 hFc (fun k q h => by simp at h) ⟨fun i j p q h => by simp at h, fun k q h => by simp at h⟩
  generalize H1 = H at hP hS ⊢
  have hP : va_P (dC, dI) vwCl [(m0, .inr (11, fm)), (mb, .inl (kmb, 23, .inl gmb)), (mc, .inl (kmc, 92, .inl gmc)), (md, .inl (kmd, 14, .inl gmd))] H := hP
  have hD : va_D (fun q => s.heap.size ≤ q) [(m0, .inr (11, fm)), (mb, .inl (kmb, 23, .inl gmb)), (mc, .inl (kmc, 92, .inl gmc)), (md, .inl (kmd, 14, .inl gmd))] := hD
  refine W.widen (k := 142) (n := 78350) (Nat.le_of_ble_eq_true rfl) (Nat.le_of_ble_eq_true rfl) ?_
  refine lv_aload_n hx hb dL_law_260 rfl (lv_at hl 1 rfl) ?_
  have hPc := hP.sub (ws' := [(m0, .inr (11, fm)), (mb, .inl (kmb, 23, .inl gmb)), (mc, .inl (kmc, 92, .inl gmc)), (md, .inl (kmd, 14, .inl gmd))]) [0, 1, 2, 3] rfl
  have hDc := hD.sub (ws' := [(m0, .inr (11, fm)), (mb, .inl (kmb, 23, .inl gmb)), (mc, .inl (kmc, 92, .inl gmc)), (md, .inl (kmd, 14, .inl gmd))]) [0, 1, 2, 3] (by decide) rfl
  have hKc := hK.sub (tys' := [(kmb, .int), (kmc, .int), (kmd, .boolean)]) [3, 4, 5] rfl
  have hFc := va_free (wc := [(m0, .inr (11, fm)), (mb, .inl (kmb, 23, .inl gmb)), (mc, .inl (kmc, 92, .inl gmc)), (md, .inl (kmd, 14, .inl gmd))]) hD hS hA [0, 1, 2, 3] rfl
  refine va_calli (va_runV (As := []) (rest := [.int 0]) ⟨hx, hb, hml, hown, ht⟩ (ct_X11_competition l dC dI m0 mb mc md (fm) kmb gmb kmc gmc kmd gmd hn_fm hfm_1 hfm_4 hfm_5 hfm_6 hfm_57 hfm_58 hfm_62 hfm_63 hfm_69 _ ) (cwV 0 ht gv_L_26 rfl rfl rfl (by decide +kernel) ⟨Nat.le_of_ble_eq_true rfl, Nat.le_of_ble_eq_true rfl⟩) ⟨ro_blind, va_recv hKc hPc (ci := 11) (q0 := 0) rfl rfl, fun U hU hW => ⟨rfl, by rw [hU], by rw [hU]; exact hPc, va_K.moved hW.alike hKc, hDc.weaken (fun _ _ _ _ => trivial), ex_warm hW hE⟩⟩ rfl rfl hl.1 rfl (lv_room (Nat.le_of_ble_eq_true rfl)) dL_law_261 ⟨Nat.le_of_ble_eq_true rfl, Nat.le_of_ble_eq_true rfl⟩) hS (fun q _ h => hFc q h) hFc (fun rr u t H1 locs ht1 hvm hw hB hz1 hk1 hS => ?_)
  subst hw
  obtain ⟨hP, hD⟩ := va_join (wr := []) (w1 := []) hP hD [0, 1, 2, 3] [] rfl rfl (by decide) (by decide) hk1 hFc (fun k q h => by simp at h) ⟨fun i j p q h => by simp at h, fun k q h => by simp at h⟩
  generalize H1 = H at hP hS ⊢
  have hP : va_P (dC, dI) vwCl [] H := hP
  have hD : va_D (fun q => s.heap.size ≤ q) [] := hD
  refine lv_icmp_eq (tgt := 1627) hx hb dL_law_264 (by decide) (fun c1 => ?_) (fun c1 => ?_)
  rotate_left
  · exact absurd (by decide) c1
  exact lw_fin hL9 C0 (Nat.le_of_ble_eq_true rfl) (Nat.le_of_ble_eq_true rfl) hS hl
theorem kw_614 : Cond.methodLink RL 27 yX10_fault ∈ lw_g := lw_at 614 (by decide +kernel) rfl
theorem kw_615 : Cond.instanceMethod yX10_fault ∈ lw_g := lw_at 615 (by decide +kernel) rfl
theorem kw_616 : Cond.selects RX10 yX10_fault yX10_fault ∈ lw_g := lw_at 616 (by decide +kernel) rfl
theorem kw_617 : Cond.code yX10_fault cX10_fault 1 (some .int) ∈ lw_g := lw_at 617 (by decide +kernel) rfl
theorem gv_L_27 : GoodIn lw_g (wsV RL 27 RX10 yX10_fault (.code yX10_fault cX10_fault 1 (some .int) :: lw_g)) := gi_V kw_614 kw_615 kw_616 kw_1 kw_617
theorem kw_1824 : Cond.methodLink RL 30 yX11_fault ∈ lw_g := lw_at 1824 (by decide +kernel) rfl
theorem kw_1825 : Cond.instanceMethod yX11_fault ∈ lw_g := lw_at 1825 (by decide +kernel) rfl
theorem kw_1826 : Cond.selects RX11 yX11_fault yX11_fault ∈ lw_g := lw_at 1826 (by decide +kernel) rfl
theorem kw_1827 : Cond.code yX11_fault cX11_fault 1 (some .int) ∈ lw_g := lw_at 1827 (by decide +kernel) rfl
theorem gv_L_30 : GoodIn lw_g (wsV RL 30 RX11 yX11_fault (.code yX11_fault cX11_fault 1 (some .int) :: lw_g)) := gi_V kw_1824 kw_1825 kw_1826 kw_10 kw_1827
set_option maxHeartbeats 4000000 in
set_option maxRecDepth 100000 in
theorem lc_3 {p : Program} {l : Launch} {e : Env} {s : State} {m : MethodId} {below : List Frame} {meth : Method} {c : Code} {b L : Nat} {xs : Nat → Int32} (C0 : lw_At p s m meth c b L xs) (hL : L = 7) (hE : ex_E s) (hEa : ea_E (fun q => s.heap.size ≤ q) s) (dC : Nat → ClassId) (dI : Nat → Nat → Nat) (x0 : Nat) (rt : Nat) (fx : List Value) (frt : List Value) (hfx_0 : fx[0]? = some (Value.ref rt)) (hfrt_3 : frt[3]? = some (Value.int (-1))) (m0 : Nat) (fm : List Value) (hfm_2 : fm[2]? = some (Value.int (-1))) {ls : Array Slot} {H : Heap} {locs : List Loc} (hK : va_K (dC, dI) vwCl [] s) (hP : va_P (dC, dI) vwCl [(x0, .inr (10, fx)), (rt, .inr (5, frt)), (m0, .inr (11, fm))] H) (hD : va_D (fun q => s.heap.size ≤ q) [(x0, .inr (10, fx)), (rt, .inr (5, frt)), (m0, .inr (11, fm))]) (hS : va_S (fun q => s.heap.size ≤ q) s.heap H locs) (hl : lv_has ls 4 [(3, .int 0), (2, .ref m0), (1, .ref x0), (0, .ref b)]) : W p l e room_1 s m #[Value.ref b] below meth c H locs 137 78294 (lw_Z below #[Value.ref b] s) (F0 m 269 ls []) := by
  subst hL
  have hL9 : 7 ≤ 7 := Nat.le_refl 7
  obtain ⟨hx, hb, hr, hml, hown, hts, hX, hbl, hlocks, hgv⟩ := id C0
  have hb : c.code = cL_law := hb
  have hown : s.vm.findClass RL = some m.cls := hown
  have ht : ∀ w ∈ lw_g, w.before #[Value.ref b] s = true := fun w h => hts w (List.mem_filter.mp h).1
  have hA : ∀ q : Nat, s.heap.size ≤ q → (fun q => s.heap.size ≤ q) q := fun _ h => h
  have hbA : ¬ (fun q => s.heap.size ≤ q) b := Nat.not_le.mpr hbl
  refine lv_aload_n hx hb dL_law_269 rfl (lv_at hl 2 rfl) ?_
  refine ro_callV (n := 0) (As := []) (rest := []) hx hb hml hown ht hK hP (hD.weaken (fun _ _ _ _ => trivial)) hS hA hE (ct_X10_fault l dC dI x0 rt fx frt hfx_0 hfrt_3 _ ) [0, 1] [] rfl (by decide) rfl 0 (ci := 10) rfl rfl rfl gv_L_27 rfl rfl (by decide +kernel) ⟨Nat.le_of_ble_eq_true rfl, Nat.le_of_ble_eq_true rfl⟩ rfl hl.1 (Nat.le_of_ble_eq_true rfl) ⟨Nat.le_of_ble_eq_true rfl, Nat.le_of_ble_eq_true rfl⟩ rfl dL_law_270 (fun H locs hP hS => ?_)
  refine lv_aload_n hx hb dL_law_273 rfl (lv_at hl 1 rfl) ?_
  refine ro_callV (n := 0) (As := []) (rest := [.int (-1)]) hx hb hml hown ht hK hP (hD.weaken (fun _ _ _ _ => trivial)) hS hA hE (ct_X11_fault l dC dI m0 fm hfm_2 _ ) [2] [] rfl (by decide) rfl 2 (ci := 11) rfl rfl rfl gv_L_30 rfl rfl (by decide +kernel) ⟨Nat.le_of_ble_eq_true rfl, Nat.le_of_ble_eq_true rfl⟩ rfl hl.1 (Nat.le_of_ble_eq_true rfl) ⟨Nat.le_of_ble_eq_true rfl, Nat.le_of_ble_eq_true rfl⟩ rfl dL_law_274 (fun H locs hP hS => ?_)
  refine lv_icmp_eq (tgt := 1627) hx hb dL_law_277 (by decide) (fun c1 => ?_) (fun c1 => ?_)
  rotate_left
  · exact absurd (by decide) c1
  exact lw_fin hL9 C0 (Nat.le_of_ble_eq_true rfl) (Nat.le_of_ble_eq_true rfl) hS hl
theorem kw_618 : Cond.methodLink RL 31 yX10_rule ∈ lw_g := lw_at 618 (by decide +kernel) rfl
theorem kw_619 : Cond.instanceMethod yX10_rule ∈ lw_g := lw_at 619 (by decide +kernel) rfl
theorem kw_620 : Cond.selects RX10 yX10_rule yX10_rule ∈ lw_g := lw_at 620 (by decide +kernel) rfl
theorem kw_621 : Cond.code yX10_rule cX10_rule 5 (some .int) ∈ lw_g := lw_at 621 (by decide +kernel) rfl
theorem gv_L_31 : GoodIn lw_g (wsV RL 31 RX10 yX10_rule (.code yX10_rule cX10_rule 5 (some .int) :: lw_g)) := gi_V kw_618 kw_619 kw_620 kw_1 kw_621
theorem kw_1828 : Cond.methodLink RL 35 yX11_rule ∈ lw_g := lw_at 1828 (by decide +kernel) rfl
theorem kw_1829 : Cond.instanceMethod yX11_rule ∈ lw_g := lw_at 1829 (by decide +kernel) rfl
theorem kw_1830 : Cond.selects RX11 yX11_rule yX11_rule ∈ lw_g := lw_at 1830 (by decide +kernel) rfl
theorem kw_1831 : Cond.code yX11_rule cX11_rule 3 (some .int) ∈ lw_g := lw_at 1831 (by decide +kernel) rfl
theorem gv_L_35 : GoodIn lw_g (wsV RL 35 RX11 yX11_rule (.code yX11_rule cX11_rule 3 (some .int) :: lw_g)) := gi_V kw_1828 kw_1829 kw_1830 kw_10 kw_1831
set_option maxHeartbeats 4000000 in
set_option maxRecDepth 100000 in
theorem lc_4 {p : Program} {l : Launch} {e : Env} {s : State} {m : MethodId} {below : List Frame} {meth : Method} {c : Code} {b L : Nat} {xs : Nat → Int32} (C0 : lw_At p s m meth c b L xs) (hL : L = 7) (hE : ex_E s) (hEa : ea_E (fun q => s.heap.size ≤ q) s) (dC : Nat → ClassId) (dI : Nat → Nat → Nat) (x0 : Nat) (se : Nat) (fx : List Value) (fse : List Value) (hfx_2 : fx[2]? = some (Value.ref se)) (hfse_2 : fse[2]? = some (Value.int 0)) (m0 : Nat) (fm : List Value) (hfm_6 : fm[6]? = some (Value.int 0)) {ls : Array Slot} {H : Heap} {locs : List Loc} (hK : va_K (dC, dI) vwCl [] s) (hP : va_P (dC, dI) vwCl [(x0, .inr (10, fx)), (se, .inr (6, fse)), (m0, .inr (11, fm))] H) (hD : va_D (fun q => s.heap.size ≤ q) [(x0, .inr (10, fx)), (se, .inr (6, fse)), (m0, .inr (11, fm))]) (hS : va_S (fun q => s.heap.size ≤ q) s.heap H locs) (hl : lv_has ls 4 [(3, .int 0), (2, .ref m0), (1, .ref x0), (0, .ref b)]) : W p l e room_1 s m #[Value.ref b] below meth c H locs 137 78294 (lw_Z below #[Value.ref b] s) (F0 m 282 ls []) := by
  subst hL
  have hL9 : 7 ≤ 7 := Nat.le_refl 7
  obtain ⟨hx, hb, hr, hml, hown, hts, hX, hbl, hlocks, hgv⟩ := id C0
  have hb : c.code = cL_law := hb
  have hown : s.vm.findClass RL = some m.cls := hown
  have ht : ∀ w ∈ lw_g, w.before #[Value.ref b] s = true := fun w h => hts w (List.mem_filter.mp h).1
  have hA : ∀ q : Nat, s.heap.size ≤ q → (fun q => s.heap.size ≤ q) q := fun _ h => h
  have hbA : ¬ (fun q => s.heap.size ≤ q) b := Nat.not_le.mpr hbl
  refine lv_aload_n hx hb dL_law_282 rfl (lv_at hl 2 rfl) ?_
  refine lv_aload_n hx hb dL_law_283 rfl (lv_at hl 3 rfl) ?_
  refine lv_iload_n hx hb dL_law_284 rfl (lv_at hl 0 rfl) ?_
  refine lv_iconst (v := 1) hx hb dL_law_285 (by decide) ?_
  refine lv_iadd hx hb dL_law_286 ?_
  refine lv_topi (fun r1 er1 => ?_)
  have er1 : r1 = 1 := er1.trans (by decide)
  subst er1
  refine va_sld hx hb hX hbl hbA hS (by unfold vp_in; decide) dL_law_287 ?_
  refine lv_aload_n hx hb dL_law_288 rfl (lv_at hl 3 rfl) ?_
  refine lv_iload_n hx hb dL_law_289 rfl (lv_at hl 0 rfl) ?_
  refine lv_iconst (v := 2) hx hb dL_law_290 (by decide) ?_
  refine lv_iadd hx hb dL_law_291 ?_
  refine lv_topi (fun r2 er2 => ?_)
  have er2 : r2 = 2 := er2.trans (by decide)
  subst er2
  refine va_sld hx hb hX hbl hbA hS (by unfold vp_in; decide) dL_law_292 ?_
  refine ro_callV (n := 2) (As := [.int (xs (1 : Int32).toNatClampNeg), .int (xs (2 : Int32).toNatClampNeg)]) (rest := []) hx hb hml hown ht hK hP (hD.weaken (fun _ _ _ _ => trivial)) hS hA hE (ct_X10_rule l dC dI x0 se fx fse hfx_2 hfse_2 _ (xs (1 : Int32).toNatClampNeg) (xs (2 : Int32).toNatClampNeg)) [0, 1] [] rfl (by decide) rfl 0 (ci := 10) rfl rfl rfl gv_L_31 rfl rfl (by decide +kernel) ⟨Nat.le_of_ble_eq_true rfl, Nat.le_of_ble_eq_true rfl⟩ rfl hl.1 (Nat.le_of_ble_eq_true rfl) ⟨Nat.le_of_ble_eq_true rfl, Nat.le_of_ble_eq_true rfl⟩ rfl dL_law_293 (fun H locs hP hS => ?_)
  refine lv_aload_n hx hb dL_law_296 rfl (lv_at hl 1 rfl) ?_
  refine lv_aload_n hx hb dL_law_297 rfl (lv_at hl 3 rfl) ?_
  refine lv_iload_n hx hb dL_law_298 rfl (lv_at hl 0 rfl) ?_
  refine lv_iconst (v := 1) hx hb dL_law_299 (by decide) ?_
  refine lv_iadd hx hb dL_law_300 ?_
  refine lv_topi (fun r3 er3 => ?_)
  have er3 : r3 = 1 := er3.trans (by decide)
  subst er3
  refine va_sld hx hb hX hbl hbA hS (by unfold vp_in; decide) dL_law_301 ?_
  refine lv_aload_n hx hb dL_law_302 rfl (lv_at hl 3 rfl) ?_
  refine lv_iload_n hx hb dL_law_303 rfl (lv_at hl 0 rfl) ?_
  refine lv_iconst (v := 2) hx hb dL_law_304 (by decide) ?_
  refine lv_iadd hx hb dL_law_305 ?_
  refine lv_topi (fun r4 er4 => ?_)
  have er4 : r4 = 2 := er4.trans (by decide)
  subst er4
  refine va_sld hx hb hX hbl hbA hS (by unfold vp_in; decide) dL_law_306 ?_
  refine ro_callV (n := 2) (As := [.int (xs (1 : Int32).toNatClampNeg), .int (xs (2 : Int32).toNatClampNeg)]) (rest := [.int (-2)]) hx hb hml hown ht hK hP (hD.weaken (fun _ _ _ _ => trivial)) hS hA hE (ct_X11_rule l dC dI m0 fm hfm_6 _ (xs (1 : Int32).toNatClampNeg) (xs (2 : Int32).toNatClampNeg)) [2] [] rfl (by decide) rfl 2 (ci := 11) rfl rfl rfl gv_L_35 rfl rfl (by decide +kernel) ⟨Nat.le_of_ble_eq_true rfl, Nat.le_of_ble_eq_true rfl⟩ rfl hl.1 (Nat.le_of_ble_eq_true rfl) ⟨Nat.le_of_ble_eq_true rfl, Nat.le_of_ble_eq_true rfl⟩ rfl dL_law_307 (fun H locs hP hS => ?_)
  refine lv_icmp_eq (tgt := 1627) hx hb dL_law_310 (by decide) (fun c5 => ?_) (fun c5 => ?_)
  rotate_left
  · exact absurd (by decide) c5
  exact lw_fin hL9 C0 (Nat.le_of_ble_eq_true rfl) (Nat.le_of_ble_eq_true rfl) hS hl
theorem kw_629 : Cond.methodLink RL 36 yX10_club ∈ lw_g := lw_at 629 (by decide +kernel) rfl
theorem kw_630 : Cond.instanceMethod yX10_club ∈ lw_g := lw_at 630 (by decide +kernel) rfl
theorem kw_631 : Cond.selects RX10 yX10_club yX10_club ∈ lw_g := lw_at 631 (by decide +kernel) rfl
theorem kw_632 : Cond.code yX10_club cX10_club 4 (some .int) ∈ lw_g := lw_at 632 (by decide +kernel) rfl
theorem gv_L_36 : GoodIn lw_g (wsV RL 36 RX10 yX10_club (.code yX10_club cX10_club 4 (some .int) :: lw_g)) := gi_V kw_629 kw_630 kw_631 kw_1 kw_632
theorem kw_1839 : Cond.methodLink RL 39 yX11_club ∈ lw_g := lw_at 1839 (by decide +kernel) rfl
theorem kw_1840 : Cond.instanceMethod yX11_club ∈ lw_g := lw_at 1840 (by decide +kernel) rfl
theorem kw_1841 : Cond.selects RX11 yX11_club yX11_club ∈ lw_g := lw_at 1841 (by decide +kernel) rfl
theorem kw_1842 : Cond.code yX11_club cX11_club 3 (some .int) ∈ lw_g := lw_at 1842 (by decide +kernel) rfl
theorem gv_L_39 : GoodIn lw_g (wsV RL 39 RX11 yX11_club (.code yX11_club cX11_club 3 (some .int) :: lw_g)) := gi_V kw_1839 kw_1840 kw_1841 kw_10 kw_1842
set_option maxHeartbeats 4000000 in
set_option maxRecDepth 100000 in
theorem lc_5 {p : Program} {l : Launch} {e : Env} {s : State} {m : MethodId} {below : List Frame} {meth : Method} {c : Code} {b L : Nat} {xs : Nat → Int32} (C0 : lw_At p s m meth c b L xs) (hL : L = 7) (hE : ex_E s) (hEa : ea_E (fun q => s.heap.size ≤ q) s) (dC : Nat → ClassId) (dI : Nat → Nat → Nat) (x0 : Nat) (th : Nat) (as : Nat) (ac : Nat) (fx : List Value) (fth : List Value) (kas : ClassId) (gas : Nat → Int32) (kac : ClassId) (gac : Nat → Int32) (hfx_1 : fx[1]? = some (Value.ref th)) (hn_fth : fth.length = 14) (hfth_0 : fth[0]? = some (Value.ref as)) (hfth_1 : fth[1]? = some (Value.ref ac)) (hfth_2 : fth[2]? = some (Value.int 0)) (m0 : Nat) (me : Nat) (mf : Nat) (fm : List Value) (kme : ClassId) (gme : Nat → Int32) (kmf : ClassId) (gmf : Nat → Int32) (hn_fm : fm.length = 114) (hfm_12 : fm[12]? = some (Value.int 0)) (hfm_13 : fm[13]? = some (Value.ref me)) (hfm_14 : fm[14]? = some (Value.ref mf)) {ls : Array Slot} {H : Heap} {locs : List Loc} (hK : va_K (dC, dI) vwCl [(kas, .int), (kac, .int), (kme, .int), (kmf, .int)] s) (hP : va_P (dC, dI) vwCl [(x0, .inr (10, fx)), (th, .inr (8, fth)), (as, .inl (kas, 12, .inl gas)), (ac, .inl (kac, 12, .inl gac)), (m0, .inr (11, fm)), (me, .inl (kme, 12, .inl gme)), (mf, .inl (kmf, 12, .inl gmf))] H) (hD : va_D (fun q => s.heap.size ≤ q) [(x0, .inr (10, fx)), (th, .inr (8, fth)), (as, .inl (kas, 12, .inl gas)), (ac, .inl (kac, 12, .inl gac)), (m0, .inr (11, fm)), (me, .inl (kme, 12, .inl gme)), (mf, .inl (kmf, 12, .inl gmf))]) (hS : va_S (fun q => s.heap.size ≤ q) s.heap H locs) (hl : lv_has ls 4 [(3, .int 0), (2, .ref m0), (1, .ref x0), (0, .ref b)]) : W p l e room_1 s m #[Value.ref b] below meth c H locs 137 78294 (lw_Z below #[Value.ref b] s) (F0 m 315 ls []) := by
  subst hL
  have hL9 : 7 ≤ 7 := Nat.le_refl 7
  obtain ⟨hx, hb, hr, hml, hown, hts, hX, hbl, hlocks, hgv⟩ := id C0
  have hb : c.code = cL_law := hb
  have hown : s.vm.findClass RL = some m.cls := hown
  have ht : ∀ w ∈ lw_g, w.before #[Value.ref b] s = true := fun w h => hts w (List.mem_filter.mp h).1
  have hA : ∀ q : Nat, s.heap.size ≤ q → (fun q => s.heap.size ≤ q) q := fun _ h => h
  have hbA : ¬ (fun q => s.heap.size ≤ q) b := Nat.not_le.mpr hbl
  refine lv_aload_n hx hb dL_law_315 rfl (lv_at hl 2 rfl) ?_
  refine lv_aload_n hx hb dL_law_316 rfl (lv_at hl 3 rfl) ?_
  refine lv_iload_n hx hb dL_law_317 rfl (lv_at hl 0 rfl) ?_
  refine lv_iconst (v := 1) hx hb dL_law_318 (by decide) ?_
  refine lv_iadd hx hb dL_law_319 ?_
  refine lv_topi (fun r1 er1 => ?_)
  have er1 : r1 = 1 := er1.trans (by decide)
  subst er1
  refine va_sld hx hb hX hbl hbA hS (by unfold vp_in; decide) dL_law_320 ?_
  refine lv_aload_n hx hb dL_law_321 rfl (lv_at hl 3 rfl) ?_
  refine lv_iload_n hx hb dL_law_322 rfl (lv_at hl 0 rfl) ?_
  refine lv_iconst (v := 2) hx hb dL_law_323 (by decide) ?_
  refine lv_iadd hx hb dL_law_324 ?_
  refine lv_topi (fun r2 er2 => ?_)
  have er2 : r2 = 2 := er2.trans (by decide)
  subst er2
  refine va_sld hx hb hX hbl hbA hS (by unfold vp_in; decide) dL_law_325 ?_
  have hPc := hP.sub (ws' := [(x0, .inr (10, fx)), (th, .inr (8, fth)), (as, .inl (kas, 12, .inl gas)), (ac, .inl (kac, 12, .inl gac))]) [0, 1, 2, 3] rfl
  have hDc := hD.sub (ws' := [(x0, .inr (10, fx)), (th, .inr (8, fth)), (as, .inl (kas, 12, .inl gas)), (ac, .inl (kac, 12, .inl gac))]) [0, 1, 2, 3] (by decide) rfl
  have hKc := hK.sub (tys' := [(kas, .int), (kac, .int)]) [0, 1] rfl
  have hFc := va_free (wc := [(x0, .inr (10, fx)), (th, .inr (8, fth)), (as, .inl (kas, 12, .inl gas)), (ac, .inl (kac, 12, .inl gac))]) hD hS hA [0, 1, 2, 3] rfl
  refine va_calli (va_runV (As := [.int (xs (1 : Int32).toNatClampNeg), .int (xs (2 : Int32).toNatClampNeg)]) (rest := []) ⟨hx, hb, hml, hown, ht⟩ (ct_X10_club l dC dI x0 th as ac (fx) (fth) kas gas kac gac hfx_1 hn_fth hfth_0 hfth_1 hfth_2 _ (xs (1 : Int32).toNatClampNeg) (xs (2 : Int32).toNatClampNeg)) (cwV 2 ht gv_L_36 rfl rfl rfl (by decide +kernel) ⟨Nat.le_of_ble_eq_true rfl, Nat.le_of_ble_eq_true rfl⟩) ⟨ro_blind, va_recv hKc hPc (ci := 10) (q0 := 0) rfl rfl, fun U hU hW => ⟨rfl, by rw [hU], by rw [hU]; exact hPc, va_K.moved hW.alike hKc, hDc.weaken (fun _ _ _ _ => trivial), ex_warm hW hE⟩⟩ rfl rfl hl.1 rfl (lv_room (Nat.le_of_ble_eq_true rfl)) dL_law_326 ⟨Nat.le_of_ble_eq_true rfl, Nat.le_of_ble_eq_true rfl⟩) hS (fun q _ h => hFc q h) hFc (fun rr u t H1 locs ht1 hvm hw hB hz1 hk1 hS => ?_)
  subst hw
  obtain ⟨hP, hD⟩ := va_join (wr := [(m0, .inr (11, fm)), (me, .inl (kme, 12, .inl gme)), (mf, .inl (kmf, 12, .inl gmf))]) (w1 := []) hP hD [0, 1, 2, 3] [4, 5, 6] rfl rfl (by decide) (by decide) hk1 hFc (fun k q h => by simp at h) ⟨fun i j p q h => by simp at h, fun k q h => by simp at h⟩
  generalize H1 = H at hP hS ⊢
  have hP : va_P (dC, dI) vwCl [(m0, .inr (11, fm)), (me, .inl (kme, 12, .inl gme)), (mf, .inl (kmf, 12, .inl gmf))] H := hP
  have hD : va_D (fun q => s.heap.size ≤ q) [(m0, .inr (11, fm)), (me, .inl (kme, 12, .inl gme)), (mf, .inl (kmf, 12, .inl gmf))] := hD
  refine lv_aload_n hx hb dL_law_329 rfl (lv_at hl 1 rfl) ?_
  refine lv_aload_n hx hb dL_law_330 rfl (lv_at hl 3 rfl) ?_
  refine lv_iload_n hx hb dL_law_331 rfl (lv_at hl 0 rfl) ?_
  refine lv_iconst (v := 1) hx hb dL_law_332 (by decide) ?_
  refine lv_iadd hx hb dL_law_333 ?_
  refine lv_topi (fun r3 er3 => ?_)
  have er3 : r3 = 1 := er3.trans (by decide)
  subst er3
  refine va_sld hx hb hX hbl hbA hS (by unfold vp_in; decide) dL_law_334 ?_
  refine lv_aload_n hx hb dL_law_335 rfl (lv_at hl 3 rfl) ?_
  refine lv_iload_n hx hb dL_law_336 rfl (lv_at hl 0 rfl) ?_
  refine lv_iconst (v := 2) hx hb dL_law_337 (by decide) ?_
  refine lv_iadd hx hb dL_law_338 ?_
  refine lv_topi (fun r4 er4 => ?_)
  have er4 : r4 = 2 := er4.trans (by decide)
  subst er4
  refine va_sld hx hb hX hbl hbA hS (by unfold vp_in; decide) dL_law_339 ?_
  have hPc := hP.sub (ws' := [(m0, .inr (11, fm)), (me, .inl (kme, 12, .inl gme)), (mf, .inl (kmf, 12, .inl gmf))]) [0, 1, 2] rfl
  have hDc := hD.sub (ws' := [(m0, .inr (11, fm)), (me, .inl (kme, 12, .inl gme)), (mf, .inl (kmf, 12, .inl gmf))]) [0, 1, 2] (by decide) rfl
  have hKc := hK.sub (tys' := [(kme, .int), (kmf, .int)]) [2, 3] rfl
  have hFc := va_free (wc := [(m0, .inr (11, fm)), (me, .inl (kme, 12, .inl gme)), (mf, .inl (kmf, 12, .inl gmf))]) hD hS hA [0, 1, 2] rfl
  refine va_calli (va_runV (As := [.int (xs (1 : Int32).toNatClampNeg), .int (xs (2 : Int32).toNatClampNeg)]) (rest := [.int (sp_X10_club (xs (1 : Int32).toNatClampNeg) (xs (2 : Int32).toNatClampNeg))]) ⟨hx, hb, hml, hown, ht⟩ (ct_X11_club l dC dI m0 me mf (fm) kme gme kmf gmf hn_fm hfm_12 hfm_13 hfm_14 _ (xs (1 : Int32).toNatClampNeg) (xs (2 : Int32).toNatClampNeg)) (cwV 2 ht gv_L_39 rfl rfl rfl (by decide +kernel) ⟨Nat.le_of_ble_eq_true rfl, Nat.le_of_ble_eq_true rfl⟩) ⟨ro_blind, va_recv hKc hPc (ci := 11) (q0 := 0) rfl rfl, fun U hU hW => ⟨rfl, by rw [hU], by rw [hU]; exact hPc, va_K.moved hW.alike hKc, hDc.weaken (fun _ _ _ _ => trivial), ex_warm hW hE⟩⟩ rfl rfl hl.1 rfl (lv_room (Nat.le_of_ble_eq_true rfl)) dL_law_340 ⟨Nat.le_of_ble_eq_true rfl, Nat.le_of_ble_eq_true rfl⟩) hS (fun q _ h => hFc q h) hFc (fun rr u t H1 locs ht1 hvm hw hB hz1 hk1 hS => ?_)
  subst hw
  obtain ⟨hP, hD⟩ := va_join (wr := []) (w1 := []) hP hD [0, 1, 2] [] rfl rfl (by decide) (by decide) hk1 hFc (fun k q h => by simp at h) ⟨fun i j p q h => by simp at h, fun k q h => by simp at h⟩
  generalize H1 = H at hP hS ⊢
  have hP : va_P (dC, dI) vwCl [] H := hP
  have hD : va_D (fun q => s.heap.size ≤ q) [] := hD
  refine lv_icmp_eq (tgt := 1627) hx hb dL_law_343 (by decide) (fun c9 => ?_) (fun c9 => absurd (sq_club _ _) c9)
  exact lw_fin hL9 C0 (Nat.le_of_ble_eq_true rfl) (Nat.le_of_ble_eq_true rfl) hS hl
theorem kw_633 : Cond.methodLink RL 40 yX10_person ∈ lw_g := lw_at 633 (by decide +kernel) rfl
theorem kw_634 : Cond.instanceMethod yX10_person ∈ lw_g := lw_at 634 (by decide +kernel) rfl
theorem kw_635 : Cond.selects RX10 yX10_person yX10_person ∈ lw_g := lw_at 635 (by decide +kernel) rfl
theorem kw_636 : Cond.code yX10_person cX10_person 2 (some .int) ∈ lw_g := lw_at 636 (by decide +kernel) rfl
theorem gv_L_40 : GoodIn lw_g (wsV RL 40 RX10 yX10_person (.code yX10_person cX10_person 2 (some .int) :: lw_g)) := gi_V kw_633 kw_634 kw_635 kw_1 kw_636
theorem kw_1843 : Cond.methodLink RL 43 yX11_person ∈ lw_g := lw_at 1843 (by decide +kernel) rfl
theorem kw_1844 : Cond.instanceMethod yX11_person ∈ lw_g := lw_at 1844 (by decide +kernel) rfl
theorem kw_1845 : Cond.selects RX11 yX11_person yX11_person ∈ lw_g := lw_at 1845 (by decide +kernel) rfl
theorem kw_1846 : Cond.code yX11_person cX11_person 1 (some .int) ∈ lw_g := lw_at 1846 (by decide +kernel) rfl
theorem gv_L_43 : GoodIn lw_g (wsV RL 43 RX11 yX11_person (.code yX11_person cX11_person 1 (some .int) :: lw_g)) := gi_V kw_1843 kw_1844 kw_1845 kw_10 kw_1846
set_option maxHeartbeats 4000000 in
set_option maxRecDepth 100000 in
theorem lc_6 {p : Program} {l : Launch} {e : Env} {s : State} {m : MethodId} {below : List Frame} {meth : Method} {c : Code} {b L : Nat} {xs : Nat → Int32} (C0 : lw_At p s m meth c b L xs) (hL : L = 7) (hE : ex_E s) (hEa : ea_E (fun q => s.heap.size ≤ q) s) (dC : Nat → ClassId) (dI : Nat → Nat → Nat) (x0 : Nat) (th : Nat) (af : Nat) (fx : List Value) (fth : List Value) (kaf : ClassId) (gaf : Nat → Int32) (hfx_1 : fx[1]? = some (Value.ref th)) (hn_fth : fth.length = 14) (hfth_3 : fth[3]? = some (Value.int 0)) (hfth_4 : fth[4]? = some (Value.ref af)) (m0 : Nat) (fm : List Value) (hn_fm : fm.length = 114) (hfm_15 : fm[15]? = some (Value.int 0)) {ls : Array Slot} {H : Heap} {locs : List Loc} (hK : va_K (dC, dI) vwCl [(kaf, .int)] s) (hP : va_P (dC, dI) vwCl [(x0, .inr (10, fx)), (th, .inr (8, fth)), (af, .inl (kaf, 200, .inl gaf)), (m0, .inr (11, fm))] H) (hD : va_D (fun q => s.heap.size ≤ q) [(x0, .inr (10, fx)), (th, .inr (8, fth)), (af, .inl (kaf, 200, .inl gaf)), (m0, .inr (11, fm))]) (hS : va_S (fun q => s.heap.size ≤ q) s.heap H locs) (hl : lv_has ls 4 [(3, .int 0), (2, .ref m0), (1, .ref x0), (0, .ref b)]) : W p l e room_1 s m #[Value.ref b] below meth c H locs 137 78294 (lw_Z below #[Value.ref b] s) (F0 m 348 ls []) := by
  subst hL
  have hL9 : 7 ≤ 7 := Nat.le_refl 7
  obtain ⟨hx, hb, hr, hml, hown, hts, hX, hbl, hlocks, hgv⟩ := id C0
  have hb : c.code = cL_law := hb
  have hown : s.vm.findClass RL = some m.cls := hown
  have ht : ∀ w ∈ lw_g, w.before #[Value.ref b] s = true := fun w h => hts w (List.mem_filter.mp h).1
  have hA : ∀ q : Nat, s.heap.size ≤ q → (fun q => s.heap.size ≤ q) q := fun _ h => h
  have hbA : ¬ (fun q => s.heap.size ≤ q) b := Nat.not_le.mpr hbl
  refine lv_aload_n hx hb dL_law_348 rfl (lv_at hl 2 rfl) ?_
  have hPc := hP.sub (ws' := [(x0, .inr (10, fx)), (th, .inr (8, fth)), (af, .inl (kaf, 200, .inl gaf))]) [0, 1, 2] rfl
  have hDc := hD.sub (ws' := [(x0, .inr (10, fx)), (th, .inr (8, fth)), (af, .inl (kaf, 200, .inl gaf))]) [0, 1, 2] (by decide) rfl
  have hKc := hK.sub (tys' := [(kaf, .int)]) [0] rfl
  have hFc := va_free (wc := [(x0, .inr (10, fx)), (th, .inr (8, fth)), (af, .inl (kaf, 200, .inl gaf))]) hD hS hA [0, 1, 2] rfl
  refine va_calli (va_runV (As := []) (rest := []) ⟨hx, hb, hml, hown, ht⟩ (ct_X10_person l dC dI x0 th af (fx) (fth) kaf gaf hfx_1 hn_fth hfth_3 hfth_4 _ ) (cwV 0 ht gv_L_40 rfl rfl rfl (by decide +kernel) ⟨Nat.le_of_ble_eq_true rfl, Nat.le_of_ble_eq_true rfl⟩) ⟨ro_blind, va_recv hKc hPc (ci := 10) (q0 := 0) rfl rfl, fun U hU hW => ⟨rfl, by rw [hU], by rw [hU]; exact hPc, va_K.moved hW.alike hKc, hDc.weaken (fun _ _ _ _ => trivial), ex_warm hW hE⟩⟩ rfl rfl hl.1 rfl (lv_room (Nat.le_of_ble_eq_true rfl)) dL_law_349 ⟨Nat.le_of_ble_eq_true rfl, Nat.le_of_ble_eq_true rfl⟩) hS (fun q _ h => hFc q h) hFc (fun rr u t H1 locs ht1 hvm hw hB hz1 hk1 hS => ?_)
  subst hw
  obtain ⟨hP, hD⟩ := va_join (wr := [(m0, .inr (11, fm))]) (w1 := []) hP hD [0, 1, 2] [3] rfl rfl (by decide) (by decide) hk1 hFc (fun k q h => by simp at h) ⟨fun i j p q h => by simp at h, fun k q h => by simp at h⟩
  generalize H1 = H at hP hS ⊢
  have hP : va_P (dC, dI) vwCl [(m0, .inr (11, fm))] H := hP
  have hD : va_D (fun q => s.heap.size ≤ q) [(m0, .inr (11, fm))] := hD
  refine lv_aload_n hx hb dL_law_352 rfl (lv_at hl 1 rfl) ?_
  have hPc := hP.sub (ws' := [(m0, .inr (11, fm))]) [0] rfl
  have hDc := hD.sub (ws' := [(m0, .inr (11, fm))]) [0] (by decide) rfl
  have hKc := hK.sub (tys' := []) [] rfl
  have hFc := va_free (wc := [(m0, .inr (11, fm))]) hD hS hA [0] rfl
  refine va_calli (va_runV (As := []) (rest := [.int 0]) ⟨hx, hb, hml, hown, ht⟩ (ct_X11_person l dC dI m0 (fm) hn_fm hfm_15 _ ) (cwV 0 ht gv_L_43 rfl rfl rfl (by decide +kernel) ⟨Nat.le_of_ble_eq_true rfl, Nat.le_of_ble_eq_true rfl⟩) ⟨ro_blind, va_recv hKc hPc (ci := 11) (q0 := 0) rfl rfl, fun U hU hW => ⟨rfl, by rw [hU], by rw [hU]; exact hPc, va_K.moved hW.alike hKc, hDc.weaken (fun _ _ _ _ => trivial), ex_warm hW hE⟩⟩ rfl rfl hl.1 rfl (lv_room (Nat.le_of_ble_eq_true rfl)) dL_law_353 ⟨Nat.le_of_ble_eq_true rfl, Nat.le_of_ble_eq_true rfl⟩) hS (fun q _ h => hFc q h) hFc (fun rr u t H1 locs ht1 hvm hw hB hz1 hk1 hS => ?_)
  subst hw
  obtain ⟨hP, hD⟩ := va_join (wr := []) (w1 := []) hP hD [0] [] rfl rfl (by decide) (by decide) hk1 hFc (fun k q h => by simp at h) ⟨fun i j p q h => by simp at h, fun k q h => by simp at h⟩
  generalize H1 = H at hP hS ⊢
  have hP : va_P (dC, dI) vwCl [] H := hP
  have hD : va_D (fun q => s.heap.size ≤ q) [] := hD
  refine lv_icmp_eq (tgt := 1627) hx hb dL_law_356 (by decide) (fun c1 => ?_) (fun c1 => ?_)
  rotate_left
  · exact absurd (by decide) c1
  exact lw_fin hL9 C0 (Nat.le_of_ble_eq_true rfl) (Nat.le_of_ble_eq_true rfl) hS hl
theorem kw_637 : Cond.methodLink RL 44 yX10_register ∈ lw_g := lw_at 637 (by decide +kernel) rfl
theorem kw_638 : Cond.instanceMethod yX10_register ∈ lw_g := lw_at 638 (by decide +kernel) rfl
theorem kw_639 : Cond.selects RX10 yX10_register yX10_register ∈ lw_g := lw_at 639 (by decide +kernel) rfl
theorem kw_640 : Cond.code yX10_register cX10_register 5 (some .int) ∈ lw_g := lw_at 640 (by decide +kernel) rfl
theorem gv_L_44 : GoodIn lw_g (wsV RL 44 RX10 yX10_register (.code yX10_register cX10_register 5 (some .int) :: lw_g)) := gi_V kw_637 kw_638 kw_639 kw_1 kw_640
theorem kw_1847 : Cond.methodLink RL 48 yX11_register ∈ lw_g := lw_at 1847 (by decide +kernel) rfl
theorem kw_1848 : Cond.instanceMethod yX11_register ∈ lw_g := lw_at 1848 (by decide +kernel) rfl
theorem kw_1849 : Cond.selects RX11 yX11_register yX11_register ∈ lw_g := lw_at 1849 (by decide +kernel) rfl
theorem kw_1850 : Cond.code yX11_register cX11_register 6 (some .int) ∈ lw_g := lw_at 1850 (by decide +kernel) rfl
theorem gv_L_48 : GoodIn lw_g (wsV RL 48 RX11 yX11_register (.code yX11_register cX11_register 6 (some .int) :: lw_g)) := gi_V kw_1847 kw_1848 kw_1849 kw_10 kw_1850
set_option maxHeartbeats 4000000 in
set_option maxRecDepth 100000 in
theorem lc_7 {p : Program} {l : Launch} {e : Env} {s : State} {m : MethodId} {below : List Frame} {meth : Method} {c : Code} {b L : Nat} {xs : Nat → Int32} (C0 : lw_At p s m meth c b L xs) (hL : L = 7) (hE : ex_E s) (hEa : ea_E (fun q => s.heap.size ≤ q) s) (dC : Nat → ClassId) (dI : Nat → Nat → Nat) (x0 : Nat) (th : Nat) (fx : List Value) (fth : List Value) (hfx_1 : fx[1]? = some (Value.ref th)) (hfth_3 : fth[3]? = some (Value.int 0)) (m0 : Nat) (fm : List Value) (hfm_15 : fm[15]? = some (Value.int 0)) {ls : Array Slot} {H : Heap} {locs : List Loc} (hK : va_K (dC, dI) vwCl [] s) (hP : va_P (dC, dI) vwCl [(x0, .inr (10, fx)), (th, .inr (8, fth)), (m0, .inr (11, fm))] H) (hD : va_D (fun q => s.heap.size ≤ q) [(x0, .inr (10, fx)), (th, .inr (8, fth)), (m0, .inr (11, fm))]) (hS : va_S (fun q => s.heap.size ≤ q) s.heap H locs) (hl : lv_has ls 4 [(3, .int 0), (2, .ref m0), (1, .ref x0), (0, .ref b)]) : W p l e room_1 s m #[Value.ref b] below meth c H locs 137 78294 (lw_Z below #[Value.ref b] s) (F0 m 361 ls []) := by
  subst hL
  have hL9 : 7 ≤ 7 := Nat.le_refl 7
  obtain ⟨hx, hb, hr, hml, hown, hts, hX, hbl, hlocks, hgv⟩ := id C0
  have hb : c.code = cL_law := hb
  have hown : s.vm.findClass RL = some m.cls := hown
  have ht : ∀ w ∈ lw_g, w.before #[Value.ref b] s = true := fun w h => hts w (List.mem_filter.mp h).1
  have hA : ∀ q : Nat, s.heap.size ≤ q → (fun q => s.heap.size ≤ q) q := fun _ h => h
  have hbA : ¬ (fun q => s.heap.size ≤ q) b := Nat.not_le.mpr hbl
  refine lv_aload_n hx hb dL_law_361 rfl (lv_at hl 2 rfl) ?_
  refine lv_aload_n hx hb dL_law_362 rfl (lv_at hl 3 rfl) ?_
  refine lv_iload_n hx hb dL_law_363 rfl (lv_at hl 0 rfl) ?_
  refine lv_iconst (v := 1) hx hb dL_law_364 (by decide) ?_
  refine lv_iadd hx hb dL_law_365 ?_
  refine lv_topi (fun r1 er1 => ?_)
  have er1 : r1 = 1 := er1.trans (by decide)
  subst er1
  refine va_sld hx hb hX hbl hbA hS (by unfold vp_in; decide) dL_law_366 ?_
  refine lv_aload_n hx hb dL_law_367 rfl (lv_at hl 3 rfl) ?_
  refine lv_iload_n hx hb dL_law_368 rfl (lv_at hl 0 rfl) ?_
  refine lv_iconst (v := 2) hx hb dL_law_369 (by decide) ?_
  refine lv_iadd hx hb dL_law_370 ?_
  refine lv_topi (fun r2 er2 => ?_)
  have er2 : r2 = 2 := er2.trans (by decide)
  subst er2
  refine va_sld hx hb hX hbl hbA hS (by unfold vp_in; decide) dL_law_371 ?_
  refine lv_aload_n hx hb dL_law_372 rfl (lv_at hl 3 rfl) ?_
  refine lv_iload_n hx hb dL_law_373 rfl (lv_at hl 0 rfl) ?_
  refine lv_iconst (v := 3) hx hb dL_law_374 (by decide) ?_
  refine lv_iadd hx hb dL_law_375 ?_
  refine lv_topi (fun r3 er3 => ?_)
  have er3 : r3 = 3 := er3.trans (by decide)
  subst er3
  refine va_sld hx hb hX hbl hbA hS (by unfold vp_in; decide) dL_law_376 ?_
  refine lv_aload_n hx hb dL_law_377 rfl (lv_at hl 3 rfl) ?_
  refine lv_iload_n hx hb dL_law_378 rfl (lv_at hl 0 rfl) ?_
  refine lv_iconst (v := 4) hx hb dL_law_379 (by decide) ?_
  refine lv_iadd hx hb dL_law_380 ?_
  refine lv_topi (fun r4 er4 => ?_)
  have er4 : r4 = 4 := er4.trans (by decide)
  subst er4
  refine va_sld hx hb hX hbl hbA hS (by unfold vp_in; decide) dL_law_381 ?_
  refine ro_callV (n := 4) (As := [.int (xs (1 : Int32).toNatClampNeg), .int (xs (2 : Int32).toNatClampNeg), .int (xs (3 : Int32).toNatClampNeg), .int (xs (4 : Int32).toNatClampNeg)]) (rest := []) hx hb hml hown ht hK hP (hD.weaken (fun _ _ _ _ => trivial)) hS hA hE (ct_X10_register l dC dI x0 th fx fth hfx_1 hfth_3 _ (xs (1 : Int32).toNatClampNeg) (xs (2 : Int32).toNatClampNeg) (xs (3 : Int32).toNatClampNeg) (xs (4 : Int32).toNatClampNeg)) [0, 1] [] rfl (by decide) rfl 0 (ci := 10) rfl rfl rfl gv_L_44 rfl rfl (by decide +kernel) ⟨Nat.le_of_ble_eq_true rfl, Nat.le_of_ble_eq_true rfl⟩ rfl hl.1 (Nat.le_of_ble_eq_true rfl) ⟨Nat.le_of_ble_eq_true rfl, Nat.le_of_ble_eq_true rfl⟩ rfl dL_law_382 (fun H locs hP hS => ?_)
  refine lv_aload_n hx hb dL_law_385 rfl (lv_at hl 1 rfl) ?_
  refine lv_aload_n hx hb dL_law_386 rfl (lv_at hl 3 rfl) ?_
  refine lv_iload_n hx hb dL_law_387 rfl (lv_at hl 0 rfl) ?_
  refine lv_iconst (v := 1) hx hb dL_law_388 (by decide) ?_
  refine lv_iadd hx hb dL_law_389 ?_
  refine lv_topi (fun r5 er5 => ?_)
  have er5 : r5 = 1 := er5.trans (by decide)
  subst er5
  refine va_sld hx hb hX hbl hbA hS (by unfold vp_in; decide) dL_law_390 ?_
  refine lv_aload_n hx hb dL_law_391 rfl (lv_at hl 3 rfl) ?_
  refine lv_iload_n hx hb dL_law_392 rfl (lv_at hl 0 rfl) ?_
  refine lv_iconst (v := 2) hx hb dL_law_393 (by decide) ?_
  refine lv_iadd hx hb dL_law_394 ?_
  refine lv_topi (fun r6 er6 => ?_)
  have er6 : r6 = 2 := er6.trans (by decide)
  subst er6
  refine va_sld hx hb hX hbl hbA hS (by unfold vp_in; decide) dL_law_395 ?_
  refine lv_aload_n hx hb dL_law_396 rfl (lv_at hl 3 rfl) ?_
  refine lv_iload_n hx hb dL_law_397 rfl (lv_at hl 0 rfl) ?_
  refine lv_iconst (v := 3) hx hb dL_law_398 (by decide) ?_
  refine lv_iadd hx hb dL_law_399 ?_
  refine lv_topi (fun r7 er7 => ?_)
  have er7 : r7 = 3 := er7.trans (by decide)
  subst er7
  refine va_sld hx hb hX hbl hbA hS (by unfold vp_in; decide) dL_law_400 ?_
  refine lv_aload_n hx hb dL_law_401 rfl (lv_at hl 3 rfl) ?_
  refine lv_iload_n hx hb dL_law_402 rfl (lv_at hl 0 rfl) ?_
  refine lv_iconst (v := 4) hx hb dL_law_403 (by decide) ?_
  refine lv_iadd hx hb dL_law_404 ?_
  refine lv_topi (fun r8 er8 => ?_)
  have er8 : r8 = 4 := er8.trans (by decide)
  subst er8
  refine va_sld hx hb hX hbl hbA hS (by unfold vp_in; decide) dL_law_405 ?_
  refine ro_callV (n := 4) (As := [.int (xs (1 : Int32).toNatClampNeg), .int (xs (2 : Int32).toNatClampNeg), .int (xs (3 : Int32).toNatClampNeg), .int (xs (4 : Int32).toNatClampNeg)]) (rest := [.int (-2)]) hx hb hml hown ht hK hP (hD.weaken (fun _ _ _ _ => trivial)) hS hA hE (ct_X11_register l dC dI m0 fm hfm_15 _ (xs (1 : Int32).toNatClampNeg) (xs (2 : Int32).toNatClampNeg) (xs (3 : Int32).toNatClampNeg) (xs (4 : Int32).toNatClampNeg)) [2] [] rfl (by decide) rfl 2 (ci := 11) rfl rfl rfl gv_L_48 rfl rfl (by decide +kernel) ⟨Nat.le_of_ble_eq_true rfl, Nat.le_of_ble_eq_true rfl⟩ rfl hl.1 (Nat.le_of_ble_eq_true rfl) ⟨Nat.le_of_ble_eq_true rfl, Nat.le_of_ble_eq_true rfl⟩ rfl dL_law_406 (fun H locs hP hS => ?_)
  refine lv_icmp_eq (tgt := 1627) hx hb dL_law_409 (by decide) (fun c9 => ?_) (fun c9 => ?_)
  rotate_left
  · exact absurd (by decide) c9
  exact lw_fin hL9 C0 (Nat.le_of_ble_eq_true rfl) (Nat.le_of_ble_eq_true rfl) hS hl
theorem kw_660 : Cond.methodLink RL 49 yX10_official ∈ lw_g := lw_at 660 (by decide +kernel) rfl
theorem kw_661 : Cond.instanceMethod yX10_official ∈ lw_g := lw_at 661 (by decide +kernel) rfl
theorem kw_662 : Cond.selects RX10 yX10_official yX10_official ∈ lw_g := lw_at 662 (by decide +kernel) rfl
theorem kw_663 : Cond.code yX10_official cX10_official 4 (some .int) ∈ lw_g := lw_at 663 (by decide +kernel) rfl
theorem gv_L_49 : GoodIn lw_g (wsV RL 49 RX10 yX10_official (.code yX10_official cX10_official 4 (some .int) :: lw_g)) := gi_V kw_660 kw_661 kw_662 kw_1 kw_663
theorem kw_1851 : Cond.methodLink RL 52 yX11_official ∈ lw_g := lw_at 1851 (by decide +kernel) rfl
theorem kw_1852 : Cond.instanceMethod yX11_official ∈ lw_g := lw_at 1852 (by decide +kernel) rfl
theorem kw_1853 : Cond.selects RX11 yX11_official yX11_official ∈ lw_g := lw_at 1853 (by decide +kernel) rfl
theorem kw_1854 : Cond.code yX11_official cX11_official 3 (some .int) ∈ lw_g := lw_at 1854 (by decide +kernel) rfl
theorem gv_L_52 : GoodIn lw_g (wsV RL 52 RX11 yX11_official (.code yX11_official cX11_official 3 (some .int) :: lw_g)) := gi_V kw_1851 kw_1852 kw_1853 kw_10 kw_1854
set_option maxHeartbeats 4000000 in
set_option maxRecDepth 100000 in
theorem lc_8 {p : Program} {l : Launch} {e : Env} {s : State} {m : MethodId} {below : List Frame} {meth : Method} {c : Code} {b L : Nat} {xs : Nat → Int32} (C0 : lw_At p s m meth c b L xs) (hL : L = 7) (hE : ex_E s) (hEa : ea_E (fun q => s.heap.size ≤ q) s) (dC : Nat → ClassId) (dI : Nat → Nat → Nat) (x0 : Nat) (th : Nat) (ao : Nat) (ap : Nat) (fx : List Value) (fth : List Value) (kao : ClassId) (gao : Nat → Int32) (kap : ClassId) (gap : Nat → Int32) (hfx_1 : fx[1]? = some (Value.ref th)) (hn_fth : fth.length = 14) (hfth_10 : fth[10]? = some (Value.ref ao)) (hfth_11 : fth[11]? = some (Value.ref ap)) (hfth_12 : fth[12]? = some (Value.int 0)) (m0 : Nat) (mg : Nat) (mh : Nat) (fm : List Value) (kmg : ClassId) (gmg : Nat → Int32) (kmh : ClassId) (gmh : Nat → Int32) (hn_fm : fm.length = 114) (hfm_21 : fm[21]? = some (Value.int 0)) (hfm_22 : fm[22]? = some (Value.ref mg)) (hfm_23 : fm[23]? = some (Value.ref mh)) {ls : Array Slot} {H : Heap} {locs : List Loc} (hK : va_K (dC, dI) vwCl [(kao, .int), (kap, .int), (kmg, .int), (kmh, .int)] s) (hP : va_P (dC, dI) vwCl [(x0, .inr (10, fx)), (th, .inr (8, fth)), (ao, .inl (kao, 8, .inl gao)), (ap, .inl (kap, 8, .inl gap)), (m0, .inr (11, fm)), (mg, .inl (kmg, 8, .inl gmg)), (mh, .inl (kmh, 8, .inl gmh))] H) (hD : va_D (fun q => s.heap.size ≤ q) [(x0, .inr (10, fx)), (th, .inr (8, fth)), (ao, .inl (kao, 8, .inl gao)), (ap, .inl (kap, 8, .inl gap)), (m0, .inr (11, fm)), (mg, .inl (kmg, 8, .inl gmg)), (mh, .inl (kmh, 8, .inl gmh))]) (hS : va_S (fun q => s.heap.size ≤ q) s.heap H locs) (hl : lv_has ls 4 [(3, .int 0), (2, .ref m0), (1, .ref x0), (0, .ref b)]) : W p l e room_1 s m #[Value.ref b] below meth c H locs 137 78294 (lw_Z below #[Value.ref b] s) (F0 m 414 ls []) := by
  subst hL
  have hL9 : 7 ≤ 7 := Nat.le_refl 7
  obtain ⟨hx, hb, hr, hml, hown, hts, hX, hbl, hlocks, hgv⟩ := id C0
  have hb : c.code = cL_law := hb
  have hown : s.vm.findClass RL = some m.cls := hown
  have ht : ∀ w ∈ lw_g, w.before #[Value.ref b] s = true := fun w h => hts w (List.mem_filter.mp h).1
  have hA : ∀ q : Nat, s.heap.size ≤ q → (fun q => s.heap.size ≤ q) q := fun _ h => h
  have hbA : ¬ (fun q => s.heap.size ≤ q) b := Nat.not_le.mpr hbl
  refine lv_aload_n hx hb dL_law_414 rfl (lv_at hl 2 rfl) ?_
  refine lv_aload_n hx hb dL_law_415 rfl (lv_at hl 3 rfl) ?_
  refine lv_iload_n hx hb dL_law_416 rfl (lv_at hl 0 rfl) ?_
  refine lv_iconst (v := 1) hx hb dL_law_417 (by decide) ?_
  refine lv_iadd hx hb dL_law_418 ?_
  refine lv_topi (fun r1 er1 => ?_)
  have er1 : r1 = 1 := er1.trans (by decide)
  subst er1
  refine va_sld hx hb hX hbl hbA hS (by unfold vp_in; decide) dL_law_419 ?_
  refine lv_aload_n hx hb dL_law_420 rfl (lv_at hl 3 rfl) ?_
  refine lv_iload_n hx hb dL_law_421 rfl (lv_at hl 0 rfl) ?_
  refine lv_iconst (v := 2) hx hb dL_law_422 (by decide) ?_
  refine lv_iadd hx hb dL_law_423 ?_
  refine lv_topi (fun r2 er2 => ?_)
  have er2 : r2 = 2 := er2.trans (by decide)
  subst er2
  refine va_sld hx hb hX hbl hbA hS (by unfold vp_in; decide) dL_law_424 ?_
  have hPc := hP.sub (ws' := [(x0, .inr (10, fx)), (th, .inr (8, fth)), (ao, .inl (kao, 8, .inl gao)), (ap, .inl (kap, 8, .inl gap))]) [0, 1, 2, 3] rfl
  have hDc := hD.sub (ws' := [(x0, .inr (10, fx)), (th, .inr (8, fth)), (ao, .inl (kao, 8, .inl gao)), (ap, .inl (kap, 8, .inl gap))]) [0, 1, 2, 3] (by decide) rfl
  have hKc := hK.sub (tys' := [(kao, .int), (kap, .int)]) [0, 1] rfl
  have hFc := va_free (wc := [(x0, .inr (10, fx)), (th, .inr (8, fth)), (ao, .inl (kao, 8, .inl gao)), (ap, .inl (kap, 8, .inl gap))]) hD hS hA [0, 1, 2, 3] rfl
  refine va_calli (va_runV (As := [.int (xs (1 : Int32).toNatClampNeg), .int (xs (2 : Int32).toNatClampNeg)]) (rest := []) ⟨hx, hb, hml, hown, ht⟩ (ct_X10_official l dC dI x0 th ao ap (fx) (fth) kao gao kap gap hfx_1 hn_fth hfth_10 hfth_11 hfth_12 _ (xs (1 : Int32).toNatClampNeg) (xs (2 : Int32).toNatClampNeg)) (cwV 2 ht gv_L_49 rfl rfl rfl (by decide +kernel) ⟨Nat.le_of_ble_eq_true rfl, Nat.le_of_ble_eq_true rfl⟩) ⟨ro_blind, va_recv hKc hPc (ci := 10) (q0 := 0) rfl rfl, fun U hU hW => ⟨rfl, by rw [hU], by rw [hU]; exact hPc, va_K.moved hW.alike hKc, hDc.weaken (fun _ _ _ _ => trivial), ex_warm hW hE⟩⟩ rfl rfl hl.1 rfl (lv_room (Nat.le_of_ble_eq_true rfl)) dL_law_425 ⟨Nat.le_of_ble_eq_true rfl, Nat.le_of_ble_eq_true rfl⟩) hS (fun q _ h => hFc q h) hFc (fun rr u t H1 locs ht1 hvm hw hB hz1 hk1 hS => ?_)
  subst hw
  obtain ⟨hP, hD⟩ := va_join (wr := [(m0, .inr (11, fm)), (mg, .inl (kmg, 8, .inl gmg)), (mh, .inl (kmh, 8, .inl gmh))]) (w1 := []) hP hD [0, 1, 2, 3] [4, 5, 6] rfl rfl (by decide) (by decide) hk1 hFc (fun k q h => by simp at h) ⟨fun i j p q h => by simp at h, fun k q h => by simp at h⟩
  generalize H1 = H at hP hS ⊢
  have hP : va_P (dC, dI) vwCl [(m0, .inr (11, fm)), (mg, .inl (kmg, 8, .inl gmg)), (mh, .inl (kmh, 8, .inl gmh))] H := hP
  have hD : va_D (fun q => s.heap.size ≤ q) [(m0, .inr (11, fm)), (mg, .inl (kmg, 8, .inl gmg)), (mh, .inl (kmh, 8, .inl gmh))] := hD
  refine lv_aload_n hx hb dL_law_428 rfl (lv_at hl 1 rfl) ?_
  refine lv_aload_n hx hb dL_law_429 rfl (lv_at hl 3 rfl) ?_
  refine lv_iload_n hx hb dL_law_430 rfl (lv_at hl 0 rfl) ?_
  refine lv_iconst (v := 1) hx hb dL_law_431 (by decide) ?_
  refine lv_iadd hx hb dL_law_432 ?_
  refine lv_topi (fun r3 er3 => ?_)
  have er3 : r3 = 1 := er3.trans (by decide)
  subst er3
  refine va_sld hx hb hX hbl hbA hS (by unfold vp_in; decide) dL_law_433 ?_
  refine lv_aload_n hx hb dL_law_434 rfl (lv_at hl 3 rfl) ?_
  refine lv_iload_n hx hb dL_law_435 rfl (lv_at hl 0 rfl) ?_
  refine lv_iconst (v := 2) hx hb dL_law_436 (by decide) ?_
  refine lv_iadd hx hb dL_law_437 ?_
  refine lv_topi (fun r4 er4 => ?_)
  have er4 : r4 = 2 := er4.trans (by decide)
  subst er4
  refine va_sld hx hb hX hbl hbA hS (by unfold vp_in; decide) dL_law_438 ?_
  have hPc := hP.sub (ws' := [(m0, .inr (11, fm)), (mg, .inl (kmg, 8, .inl gmg)), (mh, .inl (kmh, 8, .inl gmh))]) [0, 1, 2] rfl
  have hDc := hD.sub (ws' := [(m0, .inr (11, fm)), (mg, .inl (kmg, 8, .inl gmg)), (mh, .inl (kmh, 8, .inl gmh))]) [0, 1, 2] (by decide) rfl
  have hKc := hK.sub (tys' := [(kmg, .int), (kmh, .int)]) [2, 3] rfl
  have hFc := va_free (wc := [(m0, .inr (11, fm)), (mg, .inl (kmg, 8, .inl gmg)), (mh, .inl (kmh, 8, .inl gmh))]) hD hS hA [0, 1, 2] rfl
  refine va_calli (va_runV (As := [.int (xs (1 : Int32).toNatClampNeg), .int (xs (2 : Int32).toNatClampNeg)]) (rest := [.int (sp_X10_official (xs (1 : Int32).toNatClampNeg) (xs (2 : Int32).toNatClampNeg))]) ⟨hx, hb, hml, hown, ht⟩ (ct_X11_official l dC dI m0 mg mh (fm) kmg gmg kmh gmh hn_fm hfm_21 hfm_22 hfm_23 _ (xs (1 : Int32).toNatClampNeg) (xs (2 : Int32).toNatClampNeg)) (cwV 2 ht gv_L_52 rfl rfl rfl (by decide +kernel) ⟨Nat.le_of_ble_eq_true rfl, Nat.le_of_ble_eq_true rfl⟩) ⟨ro_blind, va_recv hKc hPc (ci := 11) (q0 := 0) rfl rfl, fun U hU hW => ⟨rfl, by rw [hU], by rw [hU]; exact hPc, va_K.moved hW.alike hKc, hDc.weaken (fun _ _ _ _ => trivial), ex_warm hW hE⟩⟩ rfl rfl hl.1 rfl (lv_room (Nat.le_of_ble_eq_true rfl)) dL_law_439 ⟨Nat.le_of_ble_eq_true rfl, Nat.le_of_ble_eq_true rfl⟩) hS (fun q _ h => hFc q h) hFc (fun rr u t H1 locs ht1 hvm hw hB hz1 hk1 hS => ?_)
  subst hw
  obtain ⟨hP, hD⟩ := va_join (wr := []) (w1 := []) hP hD [0, 1, 2] [] rfl rfl (by decide) (by decide) hk1 hFc (fun k q h => by simp at h) ⟨fun i j p q h => by simp at h, fun k q h => by simp at h⟩
  generalize H1 = H at hP hS ⊢
  have hP : va_P (dC, dI) vwCl [] H := hP
  have hD : va_D (fun q => s.heap.size ≤ q) [] := hD
  refine lv_icmp_eq (tgt := 1627) hx hb dL_law_442 (by decide) (fun c9 => ?_) (fun c9 => absurd (sq_official _ _) c9)
  exact lw_fin hL9 C0 (Nat.le_of_ble_eq_true rfl) (Nat.le_of_ble_eq_true rfl) hS hl
theorem kw_664 : Cond.methodLink RL 53 yX10_day ∈ lw_g := lw_at 664 (by decide +kernel) rfl
theorem kw_665 : Cond.instanceMethod yX10_day ∈ lw_g := lw_at 665 (by decide +kernel) rfl
theorem kw_666 : Cond.selects RX10 yX10_day yX10_day ∈ lw_g := lw_at 666 (by decide +kernel) rfl
theorem kw_667 : Cond.code yX10_day cX10_day 3 (some .int) ∈ lw_g := lw_at 667 (by decide +kernel) rfl
theorem gv_L_53 : GoodIn lw_g (wsV RL 53 RX10 yX10_day (.code yX10_day cX10_day 3 (some .int) :: lw_g)) := gi_V kw_664 kw_665 kw_666 kw_1 kw_667
theorem kw_1855 : Cond.methodLink RL 56 yX11_day ∈ lw_g := lw_at 1855 (by decide +kernel) rfl
theorem kw_1856 : Cond.instanceMethod yX11_day ∈ lw_g := lw_at 1856 (by decide +kernel) rfl
theorem kw_1857 : Cond.selects RX11 yX11_day yX11_day ∈ lw_g := lw_at 1857 (by decide +kernel) rfl
theorem kw_1858 : Cond.code yX11_day cX11_day 3 (some .int) ∈ lw_g := lw_at 1858 (by decide +kernel) rfl
theorem gv_L_56 : GoodIn lw_g (wsV RL 56 RX11 yX11_day (.code yX11_day cX11_day 3 (some .int) :: lw_g)) := gi_V kw_1855 kw_1856 kw_1857 kw_10 kw_1858
set_option maxHeartbeats 4000000 in
set_option maxRecDepth 100000 in
theorem lc_9 {p : Program} {l : Launch} {e : Env} {s : State} {m : MethodId} {below : List Frame} {meth : Method} {c : Code} {b L : Nat} {xs : Nat → Int32} (C0 : lw_At p s m meth c b L xs) (hL : L = 7) (hE : ex_E s) (hEa : ea_E (fun q => s.heap.size ≤ q) s) (dC : Nat → ClassId) (dI : Nat → Nat → Nat) (x0 : Nat) (th : Nat) (fx : List Value) (fth : List Value) (hfx_1 : fx[1]? = some (Value.ref th)) (hn_fth : fth.length = 14) (hfth_13 : fth[13]? = some (Value.int 0)) (m0 : Nat) (fm : List Value) (hn_fm : fm.length = 114) (hfm_3 : fm[3]? = some (Value.int 0)) {ls : Array Slot} {H : Heap} {locs : List Loc} (hK : va_K (dC, dI) vwCl [] s) (hP : va_P (dC, dI) vwCl [(x0, .inr (10, fx)), (th, .inr (8, fth)), (m0, .inr (11, fm))] H) (hD : va_D (fun q => s.heap.size ≤ q) [(x0, .inr (10, fx)), (th, .inr (8, fth)), (m0, .inr (11, fm))]) (hS : va_S (fun q => s.heap.size ≤ q) s.heap H locs) (hl : lv_has ls 4 [(3, .int 0), (2, .ref m0), (1, .ref x0), (0, .ref b)]) : W p l e room_1 s m #[Value.ref b] below meth c H locs 137 78294 (lw_Z below #[Value.ref b] s) (F0 m 447 ls []) := by
  subst hL
  have hL9 : 7 ≤ 7 := Nat.le_refl 7
  obtain ⟨hx, hb, hr, hml, hown, hts, hX, hbl, hlocks, hgv⟩ := id C0
  have hb : c.code = cL_law := hb
  have hown : s.vm.findClass RL = some m.cls := hown
  have ht : ∀ w ∈ lw_g, w.before #[Value.ref b] s = true := fun w h => hts w (List.mem_filter.mp h).1
  have hA : ∀ q : Nat, s.heap.size ≤ q → (fun q => s.heap.size ≤ q) q := fun _ h => h
  have hbA : ¬ (fun q => s.heap.size ≤ q) b := Nat.not_le.mpr hbl
  refine lv_aload_n hx hb dL_law_447 rfl (lv_at hl 2 rfl) ?_
  refine lv_aload_n hx hb dL_law_448 rfl (lv_at hl 3 rfl) ?_
  refine lv_iload_n hx hb dL_law_449 rfl (lv_at hl 0 rfl) ?_
  refine lv_iconst (v := 1) hx hb dL_law_450 (by decide) ?_
  refine lv_iadd hx hb dL_law_451 ?_
  refine lv_topi (fun r1 er1 => ?_)
  have er1 : r1 = 1 := er1.trans (by decide)
  subst er1
  refine va_sld hx hb hX hbl hbA hS (by unfold vp_in; decide) dL_law_452 ?_
  have hPc := hP.sub (ws' := [(x0, .inr (10, fx)), (th, .inr (8, fth))]) [0, 1] rfl
  have hDc := hD.sub (ws' := [(x0, .inr (10, fx)), (th, .inr (8, fth))]) [0, 1] (by decide) rfl
  have hKc := hK.sub (tys' := []) [] rfl
  have hFc := va_free (wc := [(x0, .inr (10, fx)), (th, .inr (8, fth))]) hD hS hA [0, 1] rfl
  refine va_calli (va_runV (As := [.int (xs (1 : Int32).toNatClampNeg)]) (rest := []) ⟨hx, hb, hml, hown, ht⟩ (ct_X10_day l dC dI x0 th (fx) (fth) hfx_1 hn_fth hfth_13 _ (xs (1 : Int32).toNatClampNeg)) (cwV 1 ht gv_L_53 rfl rfl rfl (by decide +kernel) ⟨Nat.le_of_ble_eq_true rfl, Nat.le_of_ble_eq_true rfl⟩) ⟨ro_blind, va_recv hKc hPc (ci := 10) (q0 := 0) rfl rfl, fun U hU hW => ⟨rfl, by rw [hU], by rw [hU]; exact hPc, va_K.moved hW.alike hKc, hDc.weaken (fun _ _ _ _ => trivial), ex_warm hW hE⟩⟩ rfl rfl hl.1 rfl (lv_room (Nat.le_of_ble_eq_true rfl)) dL_law_453 ⟨Nat.le_of_ble_eq_true rfl, Nat.le_of_ble_eq_true rfl⟩) hS (fun q _ h => hFc q h) hFc (fun rr u t H1 locs ht1 hvm hw hB hz1 hk1 hS => ?_)
  subst hw
  obtain ⟨hP, hD⟩ := va_join (wr := [(m0, .inr (11, fm))]) (w1 := []) hP hD [0, 1] [2] rfl rfl (by decide) (by decide) hk1 hFc (fun k q h => by simp at h) ⟨fun i j p q h => by simp at h, fun k q h => by simp at h⟩
  generalize H1 = H at hP hS ⊢
  have hP : va_P (dC, dI) vwCl [(m0, .inr (11, fm))] H := hP
  have hD : va_D (fun q => s.heap.size ≤ q) [(m0, .inr (11, fm))] := hD
  refine lv_aload_n hx hb dL_law_456 rfl (lv_at hl 1 rfl) ?_
  refine lv_aload_n hx hb dL_law_457 rfl (lv_at hl 3 rfl) ?_
  refine lv_iload_n hx hb dL_law_458 rfl (lv_at hl 0 rfl) ?_
  refine lv_iconst (v := 1) hx hb dL_law_459 (by decide) ?_
  refine lv_iadd hx hb dL_law_460 ?_
  refine lv_topi (fun r2 er2 => ?_)
  have er2 : r2 = 1 := er2.trans (by decide)
  subst er2
  refine va_sld hx hb hX hbl hbA hS (by unfold vp_in; decide) dL_law_461 ?_
  have hPc := hP.sub (ws' := [(m0, .inr (11, fm))]) [0] rfl
  have hDc := hD.sub (ws' := [(m0, .inr (11, fm))]) [0] (by decide) rfl
  have hKc := hK.sub (tys' := []) [] rfl
  have hFc := va_free (wc := [(m0, .inr (11, fm))]) hD hS hA [0] rfl
  refine va_calli (va_runV (As := [.int (xs (1 : Int32).toNatClampNeg)]) (rest := [.int (sp_X10_day (xs (1 : Int32).toNatClampNeg))]) ⟨hx, hb, hml, hown, ht⟩ (ct_X11_day l dC dI m0 (fm) hn_fm hfm_3 _ (xs (1 : Int32).toNatClampNeg)) (cwV 1 ht gv_L_56 rfl rfl rfl (by decide +kernel) ⟨Nat.le_of_ble_eq_true rfl, Nat.le_of_ble_eq_true rfl⟩) ⟨ro_blind, va_recv hKc hPc (ci := 11) (q0 := 0) rfl rfl, fun U hU hW => ⟨rfl, by rw [hU], by rw [hU]; exact hPc, va_K.moved hW.alike hKc, hDc.weaken (fun _ _ _ _ => trivial), ex_warm hW hE⟩⟩ rfl rfl hl.1 rfl (lv_room (Nat.le_of_ble_eq_true rfl)) dL_law_462 ⟨Nat.le_of_ble_eq_true rfl, Nat.le_of_ble_eq_true rfl⟩) hS (fun q _ h => hFc q h) hFc (fun rr u t H1 locs ht1 hvm hw hB hz1 hk1 hS => ?_)
  subst hw
  obtain ⟨hP, hD⟩ := va_join (wr := []) (w1 := []) hP hD [0] [] rfl rfl (by decide) (by decide) hk1 hFc (fun k q h => by simp at h) ⟨fun i j p q h => by simp at h, fun k q h => by simp at h⟩
  generalize H1 = H at hP hS ⊢
  have hP : va_P (dC, dI) vwCl [] H := hP
  have hD : va_D (fun q => s.heap.size ≤ q) [] := hD
  refine lv_icmp_eq (tgt := 1627) hx hb dL_law_465 (by decide) (fun c9 => ?_) (fun c9 => absurd (sq_day _) c9)
  exact lw_fin hL9 C0 (Nat.le_of_ble_eq_true rfl) (Nat.le_of_ble_eq_true rfl) hS hl
theorem kw_668 : Cond.methodLink RL 57 yX10_enter ∈ lw_g := lw_at 668 (by decide +kernel) rfl
theorem kw_669 : Cond.instanceMethod yX10_enter ∈ lw_g := lw_at 669 (by decide +kernel) rfl
theorem kw_670 : Cond.selects RX10 yX10_enter yX10_enter ∈ lw_g := lw_at 670 (by decide +kernel) rfl
theorem kw_671 : Cond.code yX10_enter cX10_enter 4 (some .int) ∈ lw_g := lw_at 671 (by decide +kernel) rfl
theorem gv_L_57 : GoodIn lw_g (wsV RL 57 RX10 yX10_enter (.code yX10_enter cX10_enter 4 (some .int) :: lw_g)) := gi_V kw_668 kw_669 kw_670 kw_1 kw_671
theorem kw_1859 : Cond.methodLink RL 60 yX11_enter ∈ lw_g := lw_at 1859 (by decide +kernel) rfl
theorem kw_1860 : Cond.instanceMethod yX11_enter ∈ lw_g := lw_at 1860 (by decide +kernel) rfl
theorem kw_1861 : Cond.selects RX11 yX11_enter yX11_enter ∈ lw_g := lw_at 1861 (by decide +kernel) rfl
theorem kw_1862 : Cond.code yX11_enter cX11_enter 3 (some .int) ∈ lw_g := lw_at 1862 (by decide +kernel) rfl
theorem gv_L_60 : GoodIn lw_g (wsV RL 60 RX11 yX11_enter (.code yX11_enter cX11_enter 3 (some .int) :: lw_g)) := gi_V kw_1859 kw_1860 kw_1861 kw_10 kw_1862
set_option maxHeartbeats 4000000 in
set_option maxRecDepth 100000 in
theorem lc_10 {p : Program} {l : Launch} {e : Env} {s : State} {m : MethodId} {below : List Frame} {meth : Method} {c : Code} {b L : Nat} {xs : Nat → Int32} (C0 : lw_At p s m meth c b L xs) (hL : L = 7) (hE : ex_E s) (hEa : ea_E (fun q => s.heap.size ≤ q) s) (dC : Nat → ClassId) (dI : Nat → Nat → Nat) (x0 : Nat) (se : Nat) (fx : List Value) (fse : List Value) (hfx_2 : fx[2]? = some (Value.ref se)) (hfse_2 : fse[2]? = some (Value.int 0)) (m0 : Nat) (fm : List Value) (hfm_6 : fm[6]? = some (Value.int 0)) {ls : Array Slot} {H : Heap} {locs : List Loc} (hK : va_K (dC, dI) vwCl [] s) (hP : va_P (dC, dI) vwCl [(x0, .inr (10, fx)), (se, .inr (6, fse)), (m0, .inr (11, fm))] H) (hD : va_D (fun q => s.heap.size ≤ q) [(x0, .inr (10, fx)), (se, .inr (6, fse)), (m0, .inr (11, fm))]) (hS : va_S (fun q => s.heap.size ≤ q) s.heap H locs) (hl : lv_has ls 4 [(3, .int 0), (2, .ref m0), (1, .ref x0), (0, .ref b)]) : W p l e room_1 s m #[Value.ref b] below meth c H locs 137 78294 (lw_Z below #[Value.ref b] s) (F0 m 470 ls []) := by
  subst hL
  have hL9 : 7 ≤ 7 := Nat.le_refl 7
  obtain ⟨hx, hb, hr, hml, hown, hts, hX, hbl, hlocks, hgv⟩ := id C0
  have hb : c.code = cL_law := hb
  have hown : s.vm.findClass RL = some m.cls := hown
  have ht : ∀ w ∈ lw_g, w.before #[Value.ref b] s = true := fun w h => hts w (List.mem_filter.mp h).1
  have hA : ∀ q : Nat, s.heap.size ≤ q → (fun q => s.heap.size ≤ q) q := fun _ h => h
  have hbA : ¬ (fun q => s.heap.size ≤ q) b := Nat.not_le.mpr hbl
  refine lv_aload_n hx hb dL_law_470 rfl (lv_at hl 2 rfl) ?_
  refine lv_aload_n hx hb dL_law_471 rfl (lv_at hl 3 rfl) ?_
  refine lv_iload_n hx hb dL_law_472 rfl (lv_at hl 0 rfl) ?_
  refine lv_iconst (v := 1) hx hb dL_law_473 (by decide) ?_
  refine lv_iadd hx hb dL_law_474 ?_
  refine lv_topi (fun r1 er1 => ?_)
  have er1 : r1 = 1 := er1.trans (by decide)
  subst er1
  refine va_sld hx hb hX hbl hbA hS (by unfold vp_in; decide) dL_law_475 ?_
  refine lv_aload_n hx hb dL_law_476 rfl (lv_at hl 3 rfl) ?_
  refine lv_iload_n hx hb dL_law_477 rfl (lv_at hl 0 rfl) ?_
  refine lv_iconst (v := 2) hx hb dL_law_478 (by decide) ?_
  refine lv_iadd hx hb dL_law_479 ?_
  refine lv_topi (fun r2 er2 => ?_)
  have er2 : r2 = 2 := er2.trans (by decide)
  subst er2
  refine va_sld hx hb hX hbl hbA hS (by unfold vp_in; decide) dL_law_480 ?_
  refine ro_callV (n := 2) (As := [.int (xs (1 : Int32).toNatClampNeg), .int (xs (2 : Int32).toNatClampNeg)]) (rest := []) hx hb hml hown ht hK hP (hD.weaken (fun _ _ _ _ => trivial)) hS hA hE (ct_X10_enter l dC dI x0 se fx fse hfx_2 hfse_2 _ (xs (1 : Int32).toNatClampNeg) (xs (2 : Int32).toNatClampNeg)) [0, 1] [] rfl (by decide) rfl 0 (ci := 10) rfl rfl rfl gv_L_57 rfl rfl (by decide +kernel) ⟨Nat.le_of_ble_eq_true rfl, Nat.le_of_ble_eq_true rfl⟩ rfl hl.1 (Nat.le_of_ble_eq_true rfl) ⟨Nat.le_of_ble_eq_true rfl, Nat.le_of_ble_eq_true rfl⟩ rfl dL_law_481 (fun H locs hP hS => ?_)
  refine lv_aload_n hx hb dL_law_484 rfl (lv_at hl 1 rfl) ?_
  refine lv_aload_n hx hb dL_law_485 rfl (lv_at hl 3 rfl) ?_
  refine lv_iload_n hx hb dL_law_486 rfl (lv_at hl 0 rfl) ?_
  refine lv_iconst (v := 1) hx hb dL_law_487 (by decide) ?_
  refine lv_iadd hx hb dL_law_488 ?_
  refine lv_topi (fun r3 er3 => ?_)
  have er3 : r3 = 1 := er3.trans (by decide)
  subst er3
  refine va_sld hx hb hX hbl hbA hS (by unfold vp_in; decide) dL_law_489 ?_
  refine lv_aload_n hx hb dL_law_490 rfl (lv_at hl 3 rfl) ?_
  refine lv_iload_n hx hb dL_law_491 rfl (lv_at hl 0 rfl) ?_
  refine lv_iconst (v := 2) hx hb dL_law_492 (by decide) ?_
  refine lv_iadd hx hb dL_law_493 ?_
  refine lv_topi (fun r4 er4 => ?_)
  have er4 : r4 = 2 := er4.trans (by decide)
  subst er4
  refine va_sld hx hb hX hbl hbA hS (by unfold vp_in; decide) dL_law_494 ?_
  refine ro_callV (n := 2) (As := [.int (xs (1 : Int32).toNatClampNeg), .int (xs (2 : Int32).toNatClampNeg)]) (rest := [.int (-2)]) hx hb hml hown ht hK hP (hD.weaken (fun _ _ _ _ => trivial)) hS hA hE (ct_X11_enter l dC dI m0 fm hfm_6 _ (xs (1 : Int32).toNatClampNeg) (xs (2 : Int32).toNatClampNeg)) [2] [] rfl (by decide) rfl 2 (ci := 11) rfl rfl rfl gv_L_60 rfl rfl (by decide +kernel) ⟨Nat.le_of_ble_eq_true rfl, Nat.le_of_ble_eq_true rfl⟩ rfl hl.1 (Nat.le_of_ble_eq_true rfl) ⟨Nat.le_of_ble_eq_true rfl, Nat.le_of_ble_eq_true rfl⟩ rfl dL_law_495 (fun H locs hP hS => ?_)
  refine lv_icmp_eq (tgt := 1627) hx hb dL_law_498 (by decide) (fun c5 => ?_) (fun c5 => ?_)
  rotate_left
  · exact absurd (by decide) c5
  exact lw_fin hL9 C0 (Nat.le_of_ble_eq_true rfl) (Nat.le_of_ble_eq_true rfl) hS hl
theorem kw_672 : Cond.methodLink RL 61 yX10_plan ∈ lw_g := lw_at 672 (by decide +kernel) rfl
theorem kw_673 : Cond.instanceMethod yX10_plan ∈ lw_g := lw_at 673 (by decide +kernel) rfl
theorem kw_674 : Cond.selects RX10 yX10_plan yX10_plan ∈ lw_g := lw_at 674 (by decide +kernel) rfl
theorem kw_675 : Cond.code yX10_plan cX10_plan 4 (some .int) ∈ lw_g := lw_at 675 (by decide +kernel) rfl
theorem gv_L_61 : GoodIn lw_g (wsV RL 61 RX10 yX10_plan (.code yX10_plan cX10_plan 4 (some .int) :: lw_g)) := gi_V kw_672 kw_673 kw_674 kw_1 kw_675
theorem kw_1867 : Cond.methodLink RL 64 yX11_plan ∈ lw_g := lw_at 1867 (by decide +kernel) rfl
theorem kw_1868 : Cond.instanceMethod yX11_plan ∈ lw_g := lw_at 1868 (by decide +kernel) rfl
theorem kw_1869 : Cond.selects RX11 yX11_plan yX11_plan ∈ lw_g := lw_at 1869 (by decide +kernel) rfl
theorem kw_1870 : Cond.code yX11_plan cX11_plan 15 (some .int) ∈ lw_g := lw_at 1870 (by decide +kernel) rfl
theorem gv_L_64 : GoodIn lw_g (wsV RL 64 RX11 yX11_plan (.code yX11_plan cX11_plan 15 (some .int) :: lw_g)) := gi_V kw_1867 kw_1868 kw_1869 kw_10 kw_1870
set_option maxHeartbeats 4000000 in
set_option maxRecDepth 100000 in
theorem lc_11 {p : Program} {l : Launch} {e : Env} {s : State} {m : MethodId} {below : List Frame} {meth : Method} {c : Code} {b L : Nat} {xs : Nat → Int32} (C0 : lw_At p s m meth c b L xs) (hL : L = 7) (hE : ex_E s) (hEa : ea_E (fun q => s.heap.size ≤ q) s) (dC : Nat → ClassId) (dI : Nat → Nat → Nat) (x0 : Nat) (se : Nat) (fx : List Value) (fse : List Value) (hfx_2 : fx[2]? = some (Value.ref se)) (hfse_2 : fse[2]? = some (Value.int 0)) (m0 : Nat) (fm : List Value) (hfm_6 : fm[6]? = some (Value.int 0)) {ls : Array Slot} {H : Heap} {locs : List Loc} (hK : va_K (dC, dI) vwCl [] s) (hP : va_P (dC, dI) vwCl [(x0, .inr (10, fx)), (se, .inr (6, fse)), (m0, .inr (11, fm))] H) (hD : va_D (fun q => s.heap.size ≤ q) [(x0, .inr (10, fx)), (se, .inr (6, fse)), (m0, .inr (11, fm))]) (hS : va_S (fun q => s.heap.size ≤ q) s.heap H locs) (hl : lv_has ls 4 [(3, .int 0), (2, .ref m0), (1, .ref x0), (0, .ref b)]) : W p l e room_1 s m #[Value.ref b] below meth c H locs 137 78294 (lw_Z below #[Value.ref b] s) (F0 m 503 ls []) := by
  subst hL
  have hL9 : 7 ≤ 7 := Nat.le_refl 7
  obtain ⟨hx, hb, hr, hml, hown, hts, hX, hbl, hlocks, hgv⟩ := id C0
  have hb : c.code = cL_law := hb
  have hown : s.vm.findClass RL = some m.cls := hown
  have ht : ∀ w ∈ lw_g, w.before #[Value.ref b] s = true := fun w h => hts w (List.mem_filter.mp h).1
  have hA : ∀ q : Nat, s.heap.size ≤ q → (fun q => s.heap.size ≤ q) q := fun _ h => h
  have hbA : ¬ (fun q => s.heap.size ≤ q) b := Nat.not_le.mpr hbl
  refine lv_aload_n hx hb dL_law_503 rfl (lv_at hl 2 rfl) ?_
  refine lv_aload_n hx hb dL_law_504 rfl (lv_at hl 3 rfl) ?_
  refine lv_iload_n hx hb dL_law_505 rfl (lv_at hl 0 rfl) ?_
  refine lv_iconst (v := 1) hx hb dL_law_506 (by decide) ?_
  refine lv_iadd hx hb dL_law_507 ?_
  refine lv_topi (fun r1 er1 => ?_)
  have er1 : r1 = 1 := er1.trans (by decide)
  subst er1
  refine va_sld hx hb hX hbl hbA hS (by unfold vp_in; decide) dL_law_508 ?_
  refine lv_aload_n hx hb dL_law_509 rfl (lv_at hl 3 rfl) ?_
  refine lv_iload_n hx hb dL_law_510 rfl (lv_at hl 0 rfl) ?_
  refine lv_iconst (v := 2) hx hb dL_law_511 (by decide) ?_
  refine lv_iadd hx hb dL_law_512 ?_
  refine lv_topi (fun r2 er2 => ?_)
  have er2 : r2 = 2 := er2.trans (by decide)
  subst er2
  refine va_sld hx hb hX hbl hbA hS (by unfold vp_in; decide) dL_law_513 ?_
  refine ro_callV (n := 2) (As := [.int (xs (1 : Int32).toNatClampNeg), .int (xs (2 : Int32).toNatClampNeg)]) (rest := []) hx hb hml hown ht hK hP (hD.weaken (fun _ _ _ _ => trivial)) hS hA hE (ct_X10_plan l dC dI x0 se fx fse hfx_2 hfse_2 _ (xs (1 : Int32).toNatClampNeg) (xs (2 : Int32).toNatClampNeg)) [0, 1] [] rfl (by decide) rfl 0 (ci := 10) rfl rfl rfl gv_L_61 rfl rfl (by decide +kernel) ⟨Nat.le_of_ble_eq_true rfl, Nat.le_of_ble_eq_true rfl⟩ rfl hl.1 (Nat.le_of_ble_eq_true rfl) ⟨Nat.le_of_ble_eq_true rfl, Nat.le_of_ble_eq_true rfl⟩ rfl dL_law_514 (fun H locs hP hS => ?_)
  refine lv_aload_n hx hb dL_law_517 rfl (lv_at hl 1 rfl) ?_
  refine lv_aload_n hx hb dL_law_518 rfl (lv_at hl 3 rfl) ?_
  refine lv_iload_n hx hb dL_law_519 rfl (lv_at hl 0 rfl) ?_
  refine lv_iconst (v := 1) hx hb dL_law_520 (by decide) ?_
  refine lv_iadd hx hb dL_law_521 ?_
  refine lv_topi (fun r3 er3 => ?_)
  have er3 : r3 = 1 := er3.trans (by decide)
  subst er3
  refine va_sld hx hb hX hbl hbA hS (by unfold vp_in; decide) dL_law_522 ?_
  refine lv_aload_n hx hb dL_law_523 rfl (lv_at hl 3 rfl) ?_
  refine lv_iload_n hx hb dL_law_524 rfl (lv_at hl 0 rfl) ?_
  refine lv_iconst (v := 2) hx hb dL_law_525 (by decide) ?_
  refine lv_iadd hx hb dL_law_526 ?_
  refine lv_topi (fun r4 er4 => ?_)
  have er4 : r4 = 2 := er4.trans (by decide)
  subst er4
  refine va_sld hx hb hX hbl hbA hS (by unfold vp_in; decide) dL_law_527 ?_
  refine ro_callV (n := 2) (As := [.int (xs (1 : Int32).toNatClampNeg), .int (xs (2 : Int32).toNatClampNeg)]) (rest := [.int (-2)]) hx hb hml hown ht hK hP (hD.weaken (fun _ _ _ _ => trivial)) hS hA hE (ct_X11_plan l dC dI m0 fm hfm_6 _ (xs (1 : Int32).toNatClampNeg) (xs (2 : Int32).toNatClampNeg)) [2] [] rfl (by decide) rfl 2 (ci := 11) rfl rfl rfl gv_L_64 rfl rfl (by decide +kernel) ⟨Nat.le_of_ble_eq_true rfl, Nat.le_of_ble_eq_true rfl⟩ rfl hl.1 (Nat.le_of_ble_eq_true rfl) ⟨Nat.le_of_ble_eq_true rfl, Nat.le_of_ble_eq_true rfl⟩ rfl dL_law_528 (fun H locs hP hS => ?_)
  refine lv_icmp_eq (tgt := 1627) hx hb dL_law_531 (by decide) (fun c5 => ?_) (fun c5 => ?_)
  rotate_left
  · exact absurd (by decide) c5
  exact lw_fin hL9 C0 (Nat.le_of_ble_eq_true rfl) (Nat.le_of_ble_eq_true rfl) hS hl
theorem kw_769 : Cond.methodLink RL 65 yX10_match ∈ lw_g := lw_at 769 (by decide +kernel) rfl
theorem kw_770 : Cond.instanceMethod yX10_match ∈ lw_g := lw_at 770 (by decide +kernel) rfl
theorem kw_771 : Cond.selects RX10 yX10_match yX10_match ∈ lw_g := lw_at 771 (by decide +kernel) rfl
theorem kw_772 : Cond.code yX10_match cX10_match 4 (some .int) ∈ lw_g := lw_at 772 (by decide +kernel) rfl
theorem gv_L_65 : GoodIn lw_g (wsV RL 65 RX10 yX10_match (.code yX10_match cX10_match 4 (some .int) :: lw_g)) := gi_V kw_769 kw_770 kw_771 kw_1 kw_772
theorem kw_1875 : Cond.methodLink RL 68 yX11_match ∈ lw_g := lw_at 1875 (by decide +kernel) rfl
theorem kw_1876 : Cond.instanceMethod yX11_match ∈ lw_g := lw_at 1876 (by decide +kernel) rfl
theorem kw_1877 : Cond.selects RX11 yX11_match yX11_match ∈ lw_g := lw_at 1877 (by decide +kernel) rfl
theorem kw_1878 : Cond.code yX11_match cX11_match 3 (some .int) ∈ lw_g := lw_at 1878 (by decide +kernel) rfl
theorem gv_L_68 : GoodIn lw_g (wsV RL 68 RX11 yX11_match (.code yX11_match cX11_match 3 (some .int) :: lw_g)) := gi_V kw_1875 kw_1876 kw_1877 kw_10 kw_1878
set_option maxHeartbeats 4000000 in
set_option maxRecDepth 100000 in
theorem lc_12 {p : Program} {l : Launch} {e : Env} {s : State} {m : MethodId} {below : List Frame} {meth : Method} {c : Code} {b L : Nat} {xs : Nat → Int32} (C0 : lw_At p s m meth c b L xs) (hL : L = 7) (hE : ex_E s) (hEa : ea_E (fun q => s.heap.size ≤ q) s) (dC : Nat → ClassId) (dI : Nat → Nat → Nat) (x0 : Nat) (se : Nat) (fx : List Value) (fse : List Value) (hfx_2 : fx[2]? = some (Value.ref se)) (hfse_4 : fse[4]? = some (Value.int 0)) (m0 : Nat) (fm : List Value) (hfm_29 : fm[29]? = some (Value.int 0)) {ls : Array Slot} {H : Heap} {locs : List Loc} (hK : va_K (dC, dI) vwCl [] s) (hP : va_P (dC, dI) vwCl [(x0, .inr (10, fx)), (se, .inr (6, fse)), (m0, .inr (11, fm))] H) (hD : va_D (fun q => s.heap.size ≤ q) [(x0, .inr (10, fx)), (se, .inr (6, fse)), (m0, .inr (11, fm))]) (hS : va_S (fun q => s.heap.size ≤ q) s.heap H locs) (hl : lv_has ls 4 [(3, .int 0), (2, .ref m0), (1, .ref x0), (0, .ref b)]) : W p l e room_1 s m #[Value.ref b] below meth c H locs 137 78294 (lw_Z below #[Value.ref b] s) (F0 m 536 ls []) := by
  subst hL
  have hL9 : 7 ≤ 7 := Nat.le_refl 7
  obtain ⟨hx, hb, hr, hml, hown, hts, hX, hbl, hlocks, hgv⟩ := id C0
  have hb : c.code = cL_law := hb
  have hown : s.vm.findClass RL = some m.cls := hown
  have ht : ∀ w ∈ lw_g, w.before #[Value.ref b] s = true := fun w h => hts w (List.mem_filter.mp h).1
  have hA : ∀ q : Nat, s.heap.size ≤ q → (fun q => s.heap.size ≤ q) q := fun _ h => h
  have hbA : ¬ (fun q => s.heap.size ≤ q) b := Nat.not_le.mpr hbl
  refine lv_aload_n hx hb dL_law_536 rfl (lv_at hl 2 rfl) ?_
  refine lv_aload_n hx hb dL_law_537 rfl (lv_at hl 3 rfl) ?_
  refine lv_iload_n hx hb dL_law_538 rfl (lv_at hl 0 rfl) ?_
  refine lv_iconst (v := 1) hx hb dL_law_539 (by decide) ?_
  refine lv_iadd hx hb dL_law_540 ?_
  refine lv_topi (fun r1 er1 => ?_)
  have er1 : r1 = 1 := er1.trans (by decide)
  subst er1
  refine va_sld hx hb hX hbl hbA hS (by unfold vp_in; decide) dL_law_541 ?_
  refine lv_aload_n hx hb dL_law_542 rfl (lv_at hl 3 rfl) ?_
  refine lv_iload_n hx hb dL_law_543 rfl (lv_at hl 0 rfl) ?_
  refine lv_iconst (v := 2) hx hb dL_law_544 (by decide) ?_
  refine lv_iadd hx hb dL_law_545 ?_
  refine lv_topi (fun r2 er2 => ?_)
  have er2 : r2 = 2 := er2.trans (by decide)
  subst er2
  refine va_sld hx hb hX hbl hbA hS (by unfold vp_in; decide) dL_law_546 ?_
  refine ro_callV (n := 2) (As := [.int (xs (1 : Int32).toNatClampNeg), .int (xs (2 : Int32).toNatClampNeg)]) (rest := []) hx hb hml hown ht hK hP (hD.weaken (fun _ _ _ _ => trivial)) hS hA hE (ct_X10_match l dC dI x0 se fx fse hfx_2 hfse_4 _ (xs (1 : Int32).toNatClampNeg) (xs (2 : Int32).toNatClampNeg)) [0, 1] [] rfl (by decide) rfl 0 (ci := 10) rfl rfl rfl gv_L_65 rfl rfl (by decide +kernel) ⟨Nat.le_of_ble_eq_true rfl, Nat.le_of_ble_eq_true rfl⟩ rfl hl.1 (Nat.le_of_ble_eq_true rfl) ⟨Nat.le_of_ble_eq_true rfl, Nat.le_of_ble_eq_true rfl⟩ rfl dL_law_547 (fun H locs hP hS => ?_)
  refine lv_aload_n hx hb dL_law_550 rfl (lv_at hl 1 rfl) ?_
  refine lv_aload_n hx hb dL_law_551 rfl (lv_at hl 3 rfl) ?_
  refine lv_iload_n hx hb dL_law_552 rfl (lv_at hl 0 rfl) ?_
  refine lv_iconst (v := 1) hx hb dL_law_553 (by decide) ?_
  refine lv_iadd hx hb dL_law_554 ?_
  refine lv_topi (fun r3 er3 => ?_)
  have er3 : r3 = 1 := er3.trans (by decide)
  subst er3
  refine va_sld hx hb hX hbl hbA hS (by unfold vp_in; decide) dL_law_555 ?_
  refine lv_aload_n hx hb dL_law_556 rfl (lv_at hl 3 rfl) ?_
  refine lv_iload_n hx hb dL_law_557 rfl (lv_at hl 0 rfl) ?_
  refine lv_iconst (v := 2) hx hb dL_law_558 (by decide) ?_
  refine lv_iadd hx hb dL_law_559 ?_
  refine lv_topi (fun r4 er4 => ?_)
  have er4 : r4 = 2 := er4.trans (by decide)
  subst er4
  refine va_sld hx hb hX hbl hbA hS (by unfold vp_in; decide) dL_law_560 ?_
  refine ro_callV (n := 2) (As := [.int (xs (1 : Int32).toNatClampNeg), .int (xs (2 : Int32).toNatClampNeg)]) (rest := [.int (-2)]) hx hb hml hown ht hK hP (hD.weaken (fun _ _ _ _ => trivial)) hS hA hE (ct_X11_match l dC dI m0 fm hfm_29 _ (xs (1 : Int32).toNatClampNeg) (xs (2 : Int32).toNatClampNeg)) [2] [] rfl (by decide) rfl 2 (ci := 11) rfl rfl rfl gv_L_68 rfl rfl (by decide +kernel) ⟨Nat.le_of_ble_eq_true rfl, Nat.le_of_ble_eq_true rfl⟩ rfl hl.1 (Nat.le_of_ble_eq_true rfl) ⟨Nat.le_of_ble_eq_true rfl, Nat.le_of_ble_eq_true rfl⟩ rfl dL_law_561 (fun H locs hP hS => ?_)
  refine lv_icmp_eq (tgt := 1627) hx hb dL_law_564 (by decide) (fun c5 => ?_) (fun c5 => ?_)
  rotate_left
  · exact absurd (by decide) c5
  exact lw_fin hL9 C0 (Nat.le_of_ble_eq_true rfl) (Nat.le_of_ble_eq_true rfl) hS hl
theorem kw_785 : Cond.methodLink RL 69 yX10_breaks ∈ lw_g := lw_at 785 (by decide +kernel) rfl
theorem kw_786 : Cond.instanceMethod yX10_breaks ∈ lw_g := lw_at 786 (by decide +kernel) rfl
theorem kw_787 : Cond.selects RX10 yX10_breaks yX10_breaks ∈ lw_g := lw_at 787 (by decide +kernel) rfl
theorem kw_788 : Cond.code yX10_breaks cX10_breaks 4 (some .int) ∈ lw_g := lw_at 788 (by decide +kernel) rfl
theorem gv_L_69 : GoodIn lw_g (wsV RL 69 RX10 yX10_breaks (.code yX10_breaks cX10_breaks 4 (some .int) :: lw_g)) := gi_V kw_785 kw_786 kw_787 kw_1 kw_788
theorem kw_1879 : Cond.methodLink RL 72 yX11_breaks ∈ lw_g := lw_at 1879 (by decide +kernel) rfl
theorem kw_1880 : Cond.instanceMethod yX11_breaks ∈ lw_g := lw_at 1880 (by decide +kernel) rfl
theorem kw_1881 : Cond.selects RX11 yX11_breaks yX11_breaks ∈ lw_g := lw_at 1881 (by decide +kernel) rfl
theorem kw_1882 : Cond.code yX11_breaks cX11_breaks 7 (some .int) ∈ lw_g := lw_at 1882 (by decide +kernel) rfl
theorem gv_L_72 : GoodIn lw_g (wsV RL 72 RX11 yX11_breaks (.code yX11_breaks cX11_breaks 7 (some .int) :: lw_g)) := gi_V kw_1879 kw_1880 kw_1881 kw_10 kw_1882
set_option maxHeartbeats 4000000 in
set_option maxRecDepth 100000 in
theorem lc_13 {p : Program} {l : Launch} {e : Env} {s : State} {m : MethodId} {below : List Frame} {meth : Method} {c : Code} {b L : Nat} {xs : Nat → Int32} (C0 : lw_At p s m meth c b L xs) (hL : L = 7) (hE : ex_E s) (hEa : ea_E (fun q => s.heap.size ≤ q) s) (dC : Nat → ClassId) (dI : Nat → Nat → Nat) (x0 : Nat) (se : Nat) (fx : List Value) (fse : List Value) (hfx_2 : fx[2]? = some (Value.ref se)) (hfse_2 : fse[2]? = some (Value.int 0)) (m0 : Nat) (fm : List Value) (hfm_6 : fm[6]? = some (Value.int 0)) {ls : Array Slot} {H : Heap} {locs : List Loc} (hK : va_K (dC, dI) vwCl [] s) (hP : va_P (dC, dI) vwCl [(x0, .inr (10, fx)), (se, .inr (6, fse)), (m0, .inr (11, fm))] H) (hD : va_D (fun q => s.heap.size ≤ q) [(x0, .inr (10, fx)), (se, .inr (6, fse)), (m0, .inr (11, fm))]) (hS : va_S (fun q => s.heap.size ≤ q) s.heap H locs) (hl : lv_has ls 4 [(3, .int 0), (2, .ref m0), (1, .ref x0), (0, .ref b)]) : W p l e room_1 s m #[Value.ref b] below meth c H locs 137 78294 (lw_Z below #[Value.ref b] s) (F0 m 569 ls []) := by
  subst hL
  have hL9 : 7 ≤ 7 := Nat.le_refl 7
  obtain ⟨hx, hb, hr, hml, hown, hts, hX, hbl, hlocks, hgv⟩ := id C0
  have hb : c.code = cL_law := hb
  have hown : s.vm.findClass RL = some m.cls := hown
  have ht : ∀ w ∈ lw_g, w.before #[Value.ref b] s = true := fun w h => hts w (List.mem_filter.mp h).1
  have hA : ∀ q : Nat, s.heap.size ≤ q → (fun q => s.heap.size ≤ q) q := fun _ h => h
  have hbA : ¬ (fun q => s.heap.size ≤ q) b := Nat.not_le.mpr hbl
  refine lv_aload_n hx hb dL_law_569 rfl (lv_at hl 2 rfl) ?_
  refine lv_aload_n hx hb dL_law_570 rfl (lv_at hl 3 rfl) ?_
  refine lv_iload_n hx hb dL_law_571 rfl (lv_at hl 0 rfl) ?_
  refine lv_iconst (v := 1) hx hb dL_law_572 (by decide) ?_
  refine lv_iadd hx hb dL_law_573 ?_
  refine lv_topi (fun r1 er1 => ?_)
  have er1 : r1 = 1 := er1.trans (by decide)
  subst er1
  refine va_sld hx hb hX hbl hbA hS (by unfold vp_in; decide) dL_law_574 ?_
  refine lv_aload_n hx hb dL_law_575 rfl (lv_at hl 3 rfl) ?_
  refine lv_iload_n hx hb dL_law_576 rfl (lv_at hl 0 rfl) ?_
  refine lv_iconst (v := 2) hx hb dL_law_577 (by decide) ?_
  refine lv_iadd hx hb dL_law_578 ?_
  refine lv_topi (fun r2 er2 => ?_)
  have er2 : r2 = 2 := er2.trans (by decide)
  subst er2
  refine va_sld hx hb hX hbl hbA hS (by unfold vp_in; decide) dL_law_579 ?_
  refine ro_callV (n := 2) (As := [.int (xs (1 : Int32).toNatClampNeg), .int (xs (2 : Int32).toNatClampNeg)]) (rest := []) hx hb hml hown ht hK hP (hD.weaken (fun _ _ _ _ => trivial)) hS hA hE (ct_X10_breaks l dC dI x0 se fx fse hfx_2 hfse_2 _ (xs (1 : Int32).toNatClampNeg) (xs (2 : Int32).toNatClampNeg)) [0, 1] [] rfl (by decide) rfl 0 (ci := 10) rfl rfl rfl gv_L_69 rfl rfl (by decide +kernel) ⟨Nat.le_of_ble_eq_true rfl, Nat.le_of_ble_eq_true rfl⟩ rfl hl.1 (Nat.le_of_ble_eq_true rfl) ⟨Nat.le_of_ble_eq_true rfl, Nat.le_of_ble_eq_true rfl⟩ rfl dL_law_580 (fun H locs hP hS => ?_)
  refine lv_aload_n hx hb dL_law_583 rfl (lv_at hl 1 rfl) ?_
  refine lv_aload_n hx hb dL_law_584 rfl (lv_at hl 3 rfl) ?_
  refine lv_iload_n hx hb dL_law_585 rfl (lv_at hl 0 rfl) ?_
  refine lv_iconst (v := 1) hx hb dL_law_586 (by decide) ?_
  refine lv_iadd hx hb dL_law_587 ?_
  refine lv_topi (fun r3 er3 => ?_)
  have er3 : r3 = 1 := er3.trans (by decide)
  subst er3
  refine va_sld hx hb hX hbl hbA hS (by unfold vp_in; decide) dL_law_588 ?_
  refine lv_aload_n hx hb dL_law_589 rfl (lv_at hl 3 rfl) ?_
  refine lv_iload_n hx hb dL_law_590 rfl (lv_at hl 0 rfl) ?_
  refine lv_iconst (v := 2) hx hb dL_law_591 (by decide) ?_
  refine lv_iadd hx hb dL_law_592 ?_
  refine lv_topi (fun r4 er4 => ?_)
  have er4 : r4 = 2 := er4.trans (by decide)
  subst er4
  refine va_sld hx hb hX hbl hbA hS (by unfold vp_in; decide) dL_law_593 ?_
  refine ro_callV (n := 2) (As := [.int (xs (1 : Int32).toNatClampNeg), .int (xs (2 : Int32).toNatClampNeg)]) (rest := [.int (-2)]) hx hb hml hown ht hK hP (hD.weaken (fun _ _ _ _ => trivial)) hS hA hE (ct_X11_breaks l dC dI m0 fm hfm_6 _ (xs (1 : Int32).toNatClampNeg) (xs (2 : Int32).toNatClampNeg)) [2] [] rfl (by decide) rfl 2 (ci := 11) rfl rfl rfl gv_L_72 rfl rfl (by decide +kernel) ⟨Nat.le_of_ble_eq_true rfl, Nat.le_of_ble_eq_true rfl⟩ rfl hl.1 (Nat.le_of_ble_eq_true rfl) ⟨Nat.le_of_ble_eq_true rfl, Nat.le_of_ble_eq_true rfl⟩ rfl dL_law_594 (fun H locs hP hS => ?_)
  refine lv_icmp_eq (tgt := 1627) hx hb dL_law_597 (by decide) (fun c5 => ?_) (fun c5 => ?_)
  rotate_left
  · exact absurd (by decide) c5
  exact lw_fin hL9 C0 (Nat.le_of_ble_eq_true rfl) (Nat.le_of_ble_eq_true rfl) hS hl
theorem kw_797 : Cond.methodLink RL 73 yX10_postpone ∈ lw_g := lw_at 797 (by decide +kernel) rfl
theorem kw_798 : Cond.instanceMethod yX10_postpone ∈ lw_g := lw_at 798 (by decide +kernel) rfl
theorem kw_799 : Cond.selects RX10 yX10_postpone yX10_postpone ∈ lw_g := lw_at 799 (by decide +kernel) rfl
theorem kw_800 : Cond.code yX10_postpone cX10_postpone 4 (some .int) ∈ lw_g := lw_at 800 (by decide +kernel) rfl
theorem gv_L_73 : GoodIn lw_g (wsV RL 73 RX10 yX10_postpone (.code yX10_postpone cX10_postpone 4 (some .int) :: lw_g)) := gi_V kw_797 kw_798 kw_799 kw_1 kw_800
theorem kw_1883 : Cond.methodLink RL 76 yX11_postpone ∈ lw_g := lw_at 1883 (by decide +kernel) rfl
theorem kw_1884 : Cond.instanceMethod yX11_postpone ∈ lw_g := lw_at 1884 (by decide +kernel) rfl
theorem kw_1885 : Cond.selects RX11 yX11_postpone yX11_postpone ∈ lw_g := lw_at 1885 (by decide +kernel) rfl
theorem kw_1886 : Cond.code yX11_postpone cX11_postpone 9 (some .int) ∈ lw_g := lw_at 1886 (by decide +kernel) rfl
theorem gv_L_76 : GoodIn lw_g (wsV RL 76 RX11 yX11_postpone (.code yX11_postpone cX11_postpone 9 (some .int) :: lw_g)) := gi_V kw_1883 kw_1884 kw_1885 kw_10 kw_1886
set_option maxHeartbeats 4000000 in
set_option maxRecDepth 100000 in
theorem lc_14 {p : Program} {l : Launch} {e : Env} {s : State} {m : MethodId} {below : List Frame} {meth : Method} {c : Code} {b L : Nat} {xs : Nat → Int32} (C0 : lw_At p s m meth c b L xs) (hL : L = 7) (hE : ex_E s) (hEa : ea_E (fun q => s.heap.size ≤ q) s) (dC : Nat → ClassId) (dI : Nat → Nat → Nat) (x0 : Nat) (se : Nat) (fx : List Value) (fse : List Value) (hfx_2 : fx[2]? = some (Value.ref se)) (hfse_4 : fse[4]? = some (Value.int 0)) (m0 : Nat) (fm : List Value) (hfm_29 : fm[29]? = some (Value.int 0)) {ls : Array Slot} {H : Heap} {locs : List Loc} (hK : va_K (dC, dI) vwCl [] s) (hP : va_P (dC, dI) vwCl [(x0, .inr (10, fx)), (se, .inr (6, fse)), (m0, .inr (11, fm))] H) (hD : va_D (fun q => s.heap.size ≤ q) [(x0, .inr (10, fx)), (se, .inr (6, fse)), (m0, .inr (11, fm))]) (hS : va_S (fun q => s.heap.size ≤ q) s.heap H locs) (hl : lv_has ls 4 [(3, .int 0), (2, .ref m0), (1, .ref x0), (0, .ref b)]) : W p l e room_1 s m #[Value.ref b] below meth c H locs 137 78294 (lw_Z below #[Value.ref b] s) (F0 m 602 ls []) := by
  subst hL
  have hL9 : 7 ≤ 7 := Nat.le_refl 7
  obtain ⟨hx, hb, hr, hml, hown, hts, hX, hbl, hlocks, hgv⟩ := id C0
  have hb : c.code = cL_law := hb
  have hown : s.vm.findClass RL = some m.cls := hown
  have ht : ∀ w ∈ lw_g, w.before #[Value.ref b] s = true := fun w h => hts w (List.mem_filter.mp h).1
  have hA : ∀ q : Nat, s.heap.size ≤ q → (fun q => s.heap.size ≤ q) q := fun _ h => h
  have hbA : ¬ (fun q => s.heap.size ≤ q) b := Nat.not_le.mpr hbl
  refine lv_aload_n hx hb dL_law_602 rfl (lv_at hl 2 rfl) ?_
  refine lv_aload_n hx hb dL_law_603 rfl (lv_at hl 3 rfl) ?_
  refine lv_iload_n hx hb dL_law_604 rfl (lv_at hl 0 rfl) ?_
  refine lv_iconst (v := 1) hx hb dL_law_605 (by decide) ?_
  refine lv_iadd hx hb dL_law_606 ?_
  refine lv_topi (fun r1 er1 => ?_)
  have er1 : r1 = 1 := er1.trans (by decide)
  subst er1
  refine va_sld hx hb hX hbl hbA hS (by unfold vp_in; decide) dL_law_607 ?_
  refine lv_aload_n hx hb dL_law_608 rfl (lv_at hl 3 rfl) ?_
  refine lv_iload_n hx hb dL_law_609 rfl (lv_at hl 0 rfl) ?_
  refine lv_iconst (v := 2) hx hb dL_law_610 (by decide) ?_
  refine lv_iadd hx hb dL_law_611 ?_
  refine lv_topi (fun r2 er2 => ?_)
  have er2 : r2 = 2 := er2.trans (by decide)
  subst er2
  refine va_sld hx hb hX hbl hbA hS (by unfold vp_in; decide) dL_law_612 ?_
  refine ro_callV (n := 2) (As := [.int (xs (1 : Int32).toNatClampNeg), .int (xs (2 : Int32).toNatClampNeg)]) (rest := []) hx hb hml hown ht hK hP (hD.weaken (fun _ _ _ _ => trivial)) hS hA hE (ct_X10_postpone l dC dI x0 se fx fse hfx_2 hfse_4 _ (xs (1 : Int32).toNatClampNeg) (xs (2 : Int32).toNatClampNeg)) [0, 1] [] rfl (by decide) rfl 0 (ci := 10) rfl rfl rfl gv_L_73 rfl rfl (by decide +kernel) ⟨Nat.le_of_ble_eq_true rfl, Nat.le_of_ble_eq_true rfl⟩ rfl hl.1 (Nat.le_of_ble_eq_true rfl) ⟨Nat.le_of_ble_eq_true rfl, Nat.le_of_ble_eq_true rfl⟩ rfl dL_law_613 (fun H locs hP hS => ?_)
  refine lv_aload_n hx hb dL_law_616 rfl (lv_at hl 1 rfl) ?_
  refine lv_aload_n hx hb dL_law_617 rfl (lv_at hl 3 rfl) ?_
  refine lv_iload_n hx hb dL_law_618 rfl (lv_at hl 0 rfl) ?_
  refine lv_iconst (v := 1) hx hb dL_law_619 (by decide) ?_
  refine lv_iadd hx hb dL_law_620 ?_
  refine lv_topi (fun r3 er3 => ?_)
  have er3 : r3 = 1 := er3.trans (by decide)
  subst er3
  refine va_sld hx hb hX hbl hbA hS (by unfold vp_in; decide) dL_law_621 ?_
  refine lv_aload_n hx hb dL_law_622 rfl (lv_at hl 3 rfl) ?_
  refine lv_iload_n hx hb dL_law_623 rfl (lv_at hl 0 rfl) ?_
  refine lv_iconst (v := 2) hx hb dL_law_624 (by decide) ?_
  refine lv_iadd hx hb dL_law_625 ?_
  refine lv_topi (fun r4 er4 => ?_)
  have er4 : r4 = 2 := er4.trans (by decide)
  subst er4
  refine va_sld hx hb hX hbl hbA hS (by unfold vp_in; decide) dL_law_626 ?_
  refine ro_callV (n := 2) (As := [.int (xs (1 : Int32).toNatClampNeg), .int (xs (2 : Int32).toNatClampNeg)]) (rest := [.int (-2)]) hx hb hml hown ht hK hP (hD.weaken (fun _ _ _ _ => trivial)) hS hA hE (ct_X11_postpone l dC dI m0 fm hfm_29 _ (xs (1 : Int32).toNatClampNeg) (xs (2 : Int32).toNatClampNeg)) [2] [] rfl (by decide) rfl 2 (ci := 11) rfl rfl rfl gv_L_76 rfl rfl (by decide +kernel) ⟨Nat.le_of_ble_eq_true rfl, Nat.le_of_ble_eq_true rfl⟩ rfl hl.1 (Nat.le_of_ble_eq_true rfl) ⟨Nat.le_of_ble_eq_true rfl, Nat.le_of_ble_eq_true rfl⟩ rfl dL_law_627 (fun H locs hP hS => ?_)
  refine lv_icmp_eq (tgt := 1627) hx hb dL_law_630 (by decide) (fun c5 => ?_) (fun c5 => ?_)
  rotate_left
  · exact absurd (by decide) c5
  exact lw_fin hL9 C0 (Nat.le_of_ble_eq_true rfl) (Nat.le_of_ble_eq_true rfl) hS hl
theorem kw_839 : Cond.methodLink RL 77 yX10_moved ∈ lw_g := lw_at 839 (by decide +kernel) rfl
theorem kw_840 : Cond.instanceMethod yX10_moved ∈ lw_g := lw_at 840 (by decide +kernel) rfl
theorem kw_841 : Cond.selects RX10 yX10_moved yX10_moved ∈ lw_g := lw_at 841 (by decide +kernel) rfl
theorem kw_842 : Cond.code yX10_moved cX10_moved 2 (some .int) ∈ lw_g := lw_at 842 (by decide +kernel) rfl
theorem gv_L_77 : GoodIn lw_g (wsV RL 77 RX10 yX10_moved (.code yX10_moved cX10_moved 2 (some .int) :: lw_g)) := gi_V kw_839 kw_840 kw_841 kw_1 kw_842
theorem kw_1899 : Cond.methodLink RL 80 yX11_moved ∈ lw_g := lw_at 1899 (by decide +kernel) rfl
theorem kw_1900 : Cond.instanceMethod yX11_moved ∈ lw_g := lw_at 1900 (by decide +kernel) rfl
theorem kw_1901 : Cond.selects RX11 yX11_moved yX11_moved ∈ lw_g := lw_at 1901 (by decide +kernel) rfl
theorem kw_1902 : Cond.code yX11_moved cX11_moved 2 (some .int) ∈ lw_g := lw_at 1902 (by decide +kernel) rfl
theorem gv_L_80 : GoodIn lw_g (wsV RL 80 RX11 yX11_moved (.code yX11_moved cX11_moved 2 (some .int) :: lw_g)) := gi_V kw_1899 kw_1900 kw_1901 kw_10 kw_1902
set_option maxHeartbeats 4000000 in
set_option maxRecDepth 100000 in
theorem lc_15 {p : Program} {l : Launch} {e : Env} {s : State} {m : MethodId} {below : List Frame} {meth : Method} {c : Code} {b L : Nat} {xs : Nat → Int32} (C0 : lw_At p s m meth c b L xs) (hL : L = 7) (hE : ex_E s) (hEa : ea_E (fun q => s.heap.size ≤ q) s) (dC : Nat → ClassId) (dI : Nat → Nat → Nat) (x0 : Nat) (se : Nat) (fx : List Value) (fse : List Value) (hfx_2 : fx[2]? = some (Value.ref se)) (hfse_12 : fse[12]? = some (Value.int 0)) (m0 : Nat) (fm : List Value) (hfm_75 : fm[75]? = some (Value.int 0)) {ls : Array Slot} {H : Heap} {locs : List Loc} (hK : va_K (dC, dI) vwCl [] s) (hP : va_P (dC, dI) vwCl [(x0, .inr (10, fx)), (se, .inr (6, fse)), (m0, .inr (11, fm))] H) (hD : va_D (fun q => s.heap.size ≤ q) [(x0, .inr (10, fx)), (se, .inr (6, fse)), (m0, .inr (11, fm))]) (hS : va_S (fun q => s.heap.size ≤ q) s.heap H locs) (hl : lv_has ls 4 [(3, .int 0), (2, .ref m0), (1, .ref x0), (0, .ref b)]) : W p l e room_1 s m #[Value.ref b] below meth c H locs 137 78294 (lw_Z below #[Value.ref b] s) (F0 m 635 ls []) := by
  subst hL
  have hL9 : 7 ≤ 7 := Nat.le_refl 7
  obtain ⟨hx, hb, hr, hml, hown, hts, hX, hbl, hlocks, hgv⟩ := id C0
  have hb : c.code = cL_law := hb
  have hown : s.vm.findClass RL = some m.cls := hown
  have ht : ∀ w ∈ lw_g, w.before #[Value.ref b] s = true := fun w h => hts w (List.mem_filter.mp h).1
  have hA : ∀ q : Nat, s.heap.size ≤ q → (fun q => s.heap.size ≤ q) q := fun _ h => h
  have hbA : ¬ (fun q => s.heap.size ≤ q) b := Nat.not_le.mpr hbl
  refine lv_aload_n hx hb dL_law_635 rfl (lv_at hl 2 rfl) ?_
  refine lv_aload_n hx hb dL_law_636 rfl (lv_at hl 3 rfl) ?_
  refine lv_iload_n hx hb dL_law_637 rfl (lv_at hl 0 rfl) ?_
  refine lv_iconst (v := 1) hx hb dL_law_638 (by decide) ?_
  refine lv_iadd hx hb dL_law_639 ?_
  refine lv_topi (fun r1 er1 => ?_)
  have er1 : r1 = 1 := er1.trans (by decide)
  subst er1
  refine va_sld hx hb hX hbl hbA hS (by unfold vp_in; decide) dL_law_640 ?_
  refine ro_callV (n := 1) (As := [.int (xs (1 : Int32).toNatClampNeg)]) (rest := []) hx hb hml hown ht hK hP (hD.weaken (fun _ _ _ _ => trivial)) hS hA hE (ct_X10_moved l dC dI x0 se fx fse hfx_2 hfse_12 _ (xs (1 : Int32).toNatClampNeg)) [0, 1] [] rfl (by decide) rfl 0 (ci := 10) rfl rfl rfl gv_L_77 rfl rfl (by decide +kernel) ⟨Nat.le_of_ble_eq_true rfl, Nat.le_of_ble_eq_true rfl⟩ rfl hl.1 (Nat.le_of_ble_eq_true rfl) ⟨Nat.le_of_ble_eq_true rfl, Nat.le_of_ble_eq_true rfl⟩ rfl dL_law_641 (fun H locs hP hS => ?_)
  refine lv_aload_n hx hb dL_law_644 rfl (lv_at hl 1 rfl) ?_
  refine lv_aload_n hx hb dL_law_645 rfl (lv_at hl 3 rfl) ?_
  refine lv_iload_n hx hb dL_law_646 rfl (lv_at hl 0 rfl) ?_
  refine lv_iconst (v := 1) hx hb dL_law_647 (by decide) ?_
  refine lv_iadd hx hb dL_law_648 ?_
  refine lv_topi (fun r2 er2 => ?_)
  have er2 : r2 = 1 := er2.trans (by decide)
  subst er2
  refine va_sld hx hb hX hbl hbA hS (by unfold vp_in; decide) dL_law_649 ?_
  refine ro_callV (n := 1) (As := [.int (xs (1 : Int32).toNatClampNeg)]) (rest := [.int (-1)]) hx hb hml hown ht hK hP (hD.weaken (fun _ _ _ _ => trivial)) hS hA hE (ct_X11_moved l dC dI m0 fm hfm_75 _ (xs (1 : Int32).toNatClampNeg)) [2] [] rfl (by decide) rfl 2 (ci := 11) rfl rfl rfl gv_L_80 rfl rfl (by decide +kernel) ⟨Nat.le_of_ble_eq_true rfl, Nat.le_of_ble_eq_true rfl⟩ rfl hl.1 (Nat.le_of_ble_eq_true rfl) ⟨Nat.le_of_ble_eq_true rfl, Nat.le_of_ble_eq_true rfl⟩ rfl dL_law_650 (fun H locs hP hS => ?_)
  refine lv_icmp_eq (tgt := 1627) hx hb dL_law_653 (by decide) (fun c3 => ?_) (fun c3 => ?_)
  rotate_left
  · exact absurd (by decide) c3
  exact lw_fin hL9 C0 (Nat.le_of_ble_eq_true rfl) (Nat.le_of_ble_eq_true rfl) hS hl
theorem kw_843 : Cond.methodLink RL 81 yX10_deduct ∈ lw_g := lw_at 843 (by decide +kernel) rfl
theorem kw_844 : Cond.instanceMethod yX10_deduct ∈ lw_g := lw_at 844 (by decide +kernel) rfl
theorem kw_845 : Cond.selects RX10 yX10_deduct yX10_deduct ∈ lw_g := lw_at 845 (by decide +kernel) rfl
theorem kw_846 : Cond.code yX10_deduct cX10_deduct 4 (some .int) ∈ lw_g := lw_at 846 (by decide +kernel) rfl
theorem gv_L_81 : GoodIn lw_g (wsV RL 81 RX10 yX10_deduct (.code yX10_deduct cX10_deduct 4 (some .int) :: lw_g)) := gi_V kw_843 kw_844 kw_845 kw_1 kw_846
theorem kw_1903 : Cond.methodLink RL 85 yX11_deduct ∈ lw_g := lw_at 1903 (by decide +kernel) rfl
theorem kw_1904 : Cond.instanceMethod yX11_deduct ∈ lw_g := lw_at 1904 (by decide +kernel) rfl
theorem kw_1905 : Cond.selects RX11 yX11_deduct yX11_deduct ∈ lw_g := lw_at 1905 (by decide +kernel) rfl
theorem kw_1906 : Cond.code yX11_deduct cX11_deduct 4 (some .int) ∈ lw_g := lw_at 1906 (by decide +kernel) rfl
theorem gv_L_85 : GoodIn lw_g (wsV RL 85 RX11 yX11_deduct (.code yX11_deduct cX11_deduct 4 (some .int) :: lw_g)) := gi_V kw_1903 kw_1904 kw_1905 kw_10 kw_1906
set_option maxHeartbeats 4000000 in
set_option maxRecDepth 100000 in
theorem lc_16 {p : Program} {l : Launch} {e : Env} {s : State} {m : MethodId} {below : List Frame} {meth : Method} {c : Code} {b L : Nat} {xs : Nat → Int32} (C0 : lw_At p s m meth c b L xs) (hL : L = 7) (hE : ex_E s) (hEa : ea_E (fun q => s.heap.size ≤ q) s) (dC : Nat → ClassId) (dI : Nat → Nat → Nat) (x0 : Nat) (se : Nat) (fx : List Value) (fse : List Value) (hfx_2 : fx[2]? = some (Value.ref se)) (hfse_2 : fse[2]? = some (Value.int 0)) (m0 : Nat) (fm : List Value) (hfm_6 : fm[6]? = some (Value.int 0)) {ls : Array Slot} {H : Heap} {locs : List Loc} (hK : va_K (dC, dI) vwCl [] s) (hP : va_P (dC, dI) vwCl [(x0, .inr (10, fx)), (se, .inr (6, fse)), (m0, .inr (11, fm))] H) (hD : va_D (fun q => s.heap.size ≤ q) [(x0, .inr (10, fx)), (se, .inr (6, fse)), (m0, .inr (11, fm))]) (hS : va_S (fun q => s.heap.size ≤ q) s.heap H locs) (hl : lv_has ls 4 [(3, .int 0), (2, .ref m0), (1, .ref x0), (0, .ref b)]) : W p l e room_1 s m #[Value.ref b] below meth c H locs 137 78294 (lw_Z below #[Value.ref b] s) (F0 m 658 ls []) := by
  subst hL
  have hL9 : 7 ≤ 7 := Nat.le_refl 7
  obtain ⟨hx, hb, hr, hml, hown, hts, hX, hbl, hlocks, hgv⟩ := id C0
  have hb : c.code = cL_law := hb
  have hown : s.vm.findClass RL = some m.cls := hown
  have ht : ∀ w ∈ lw_g, w.before #[Value.ref b] s = true := fun w h => hts w (List.mem_filter.mp h).1
  have hA : ∀ q : Nat, s.heap.size ≤ q → (fun q => s.heap.size ≤ q) q := fun _ h => h
  have hbA : ¬ (fun q => s.heap.size ≤ q) b := Nat.not_le.mpr hbl
  refine lv_aload_n hx hb dL_law_658 rfl (lv_at hl 2 rfl) ?_
  refine lv_aload_n hx hb dL_law_659 rfl (lv_at hl 3 rfl) ?_
  refine lv_iload_n hx hb dL_law_660 rfl (lv_at hl 0 rfl) ?_
  refine lv_iconst (v := 1) hx hb dL_law_661 (by decide) ?_
  refine lv_iadd hx hb dL_law_662 ?_
  refine lv_topi (fun r1 er1 => ?_)
  have er1 : r1 = 1 := er1.trans (by decide)
  subst er1
  refine va_sld hx hb hX hbl hbA hS (by unfold vp_in; decide) dL_law_663 ?_
  refine lv_aload_n hx hb dL_law_664 rfl (lv_at hl 3 rfl) ?_
  refine lv_iload_n hx hb dL_law_665 rfl (lv_at hl 0 rfl) ?_
  refine lv_iconst (v := 2) hx hb dL_law_666 (by decide) ?_
  refine lv_iadd hx hb dL_law_667 ?_
  refine lv_topi (fun r2 er2 => ?_)
  have er2 : r2 = 2 := er2.trans (by decide)
  subst er2
  refine va_sld hx hb hX hbl hbA hS (by unfold vp_in; decide) dL_law_668 ?_
  refine lv_aload_n hx hb dL_law_669 rfl (lv_at hl 3 rfl) ?_
  refine lv_iload_n hx hb dL_law_670 rfl (lv_at hl 0 rfl) ?_
  refine lv_iconst (v := 3) hx hb dL_law_671 (by decide) ?_
  refine lv_iadd hx hb dL_law_672 ?_
  refine lv_topi (fun r3 er3 => ?_)
  have er3 : r3 = 3 := er3.trans (by decide)
  subst er3
  refine va_sld hx hb hX hbl hbA hS (by unfold vp_in; decide) dL_law_673 ?_
  refine ro_callV (n := 3) (As := [.int (xs (1 : Int32).toNatClampNeg), .int (xs (2 : Int32).toNatClampNeg), .int (xs (3 : Int32).toNatClampNeg)]) (rest := []) hx hb hml hown ht hK hP (hD.weaken (fun _ _ _ _ => trivial)) hS hA hE (ct_X10_deduct l dC dI x0 se fx fse hfx_2 hfse_2 _ (xs (1 : Int32).toNatClampNeg) (xs (2 : Int32).toNatClampNeg) (xs (3 : Int32).toNatClampNeg)) [0, 1] [] rfl (by decide) rfl 0 (ci := 10) rfl rfl rfl gv_L_81 rfl rfl (by decide +kernel) ⟨Nat.le_of_ble_eq_true rfl, Nat.le_of_ble_eq_true rfl⟩ rfl hl.1 (Nat.le_of_ble_eq_true rfl) ⟨Nat.le_of_ble_eq_true rfl, Nat.le_of_ble_eq_true rfl⟩ rfl dL_law_674 (fun H locs hP hS => ?_)
  refine lv_aload_n hx hb dL_law_677 rfl (lv_at hl 1 rfl) ?_
  refine lv_aload_n hx hb dL_law_678 rfl (lv_at hl 3 rfl) ?_
  refine lv_iload_n hx hb dL_law_679 rfl (lv_at hl 0 rfl) ?_
  refine lv_iconst (v := 1) hx hb dL_law_680 (by decide) ?_
  refine lv_iadd hx hb dL_law_681 ?_
  refine lv_topi (fun r4 er4 => ?_)
  have er4 : r4 = 1 := er4.trans (by decide)
  subst er4
  refine va_sld hx hb hX hbl hbA hS (by unfold vp_in; decide) dL_law_682 ?_
  refine lv_aload_n hx hb dL_law_683 rfl (lv_at hl 3 rfl) ?_
  refine lv_iload_n hx hb dL_law_684 rfl (lv_at hl 0 rfl) ?_
  refine lv_iconst (v := 2) hx hb dL_law_685 (by decide) ?_
  refine lv_iadd hx hb dL_law_686 ?_
  refine lv_topi (fun r5 er5 => ?_)
  have er5 : r5 = 2 := er5.trans (by decide)
  subst er5
  refine va_sld hx hb hX hbl hbA hS (by unfold vp_in; decide) dL_law_687 ?_
  refine lv_aload_n hx hb dL_law_688 rfl (lv_at hl 3 rfl) ?_
  refine lv_iload_n hx hb dL_law_689 rfl (lv_at hl 0 rfl) ?_
  refine lv_iconst (v := 3) hx hb dL_law_690 (by decide) ?_
  refine lv_iadd hx hb dL_law_691 ?_
  refine lv_topi (fun r6 er6 => ?_)
  have er6 : r6 = 3 := er6.trans (by decide)
  subst er6
  refine va_sld hx hb hX hbl hbA hS (by unfold vp_in; decide) dL_law_692 ?_
  refine ro_callV (n := 3) (As := [.int (xs (1 : Int32).toNatClampNeg), .int (xs (2 : Int32).toNatClampNeg), .int (xs (3 : Int32).toNatClampNeg)]) (rest := [.int (-2)]) hx hb hml hown ht hK hP (hD.weaken (fun _ _ _ _ => trivial)) hS hA hE (ct_X11_deduct l dC dI m0 fm hfm_6 _ (xs (1 : Int32).toNatClampNeg) (xs (2 : Int32).toNatClampNeg) (xs (3 : Int32).toNatClampNeg)) [2] [] rfl (by decide) rfl 2 (ci := 11) rfl rfl rfl gv_L_85 rfl rfl (by decide +kernel) ⟨Nat.le_of_ble_eq_true rfl, Nat.le_of_ble_eq_true rfl⟩ rfl hl.1 (Nat.le_of_ble_eq_true rfl) ⟨Nat.le_of_ble_eq_true rfl, Nat.le_of_ble_eq_true rfl⟩ rfl dL_law_693 (fun H locs hP hS => ?_)
  refine lv_icmp_eq (tgt := 1627) hx hb dL_law_696 (by decide) (fun c7 => ?_) (fun c7 => ?_)
  rotate_left
  · exact absurd (by decide) c7
  exact lw_fin hL9 C0 (Nat.le_of_ble_eq_true rfl) (Nat.le_of_ble_eq_true rfl) hS hl
theorem kw_851 : Cond.methodLink RL 86 yX10_eligible ∈ lw_g := lw_at 851 (by decide +kernel) rfl
theorem kw_852 : Cond.instanceMethod yX10_eligible ∈ lw_g := lw_at 852 (by decide +kernel) rfl
theorem kw_853 : Cond.selects RX10 yX10_eligible yX10_eligible ∈ lw_g := lw_at 853 (by decide +kernel) rfl
theorem kw_854 : Cond.code yX10_eligible cX10_eligible 4 (some .int) ∈ lw_g := lw_at 854 (by decide +kernel) rfl
theorem gv_L_86 : GoodIn lw_g (wsV RL 86 RX10 yX10_eligible (.code yX10_eligible cX10_eligible 4 (some .int) :: lw_g)) := gi_V kw_851 kw_852 kw_853 kw_1 kw_854
theorem kw_1907 : Cond.methodLink RL 89 yX11_eligible ∈ lw_g := lw_at 1907 (by decide +kernel) rfl
theorem kw_1908 : Cond.instanceMethod yX11_eligible ∈ lw_g := lw_at 1908 (by decide +kernel) rfl
theorem kw_1909 : Cond.selects RX11 yX11_eligible yX11_eligible ∈ lw_g := lw_at 1909 (by decide +kernel) rfl
theorem kw_1910 : Cond.code yX11_eligible cX11_eligible 4 (some .int) ∈ lw_g := lw_at 1910 (by decide +kernel) rfl
theorem gv_L_89 : GoodIn lw_g (wsV RL 89 RX11 yX11_eligible (.code yX11_eligible cX11_eligible 4 (some .int) :: lw_g)) := gi_V kw_1907 kw_1908 kw_1909 kw_10 kw_1910
set_option maxHeartbeats 4000000 in
set_option maxRecDepth 100000 in
theorem lc_17 {p : Program} {l : Launch} {e : Env} {s : State} {m : MethodId} {below : List Frame} {meth : Method} {c : Code} {b L : Nat} {xs : Nat → Int32} (C0 : lw_At p s m meth c b L xs) (hL : L = 7) (hE : ex_E s) (hEa : ea_E (fun q => s.heap.size ≤ q) s) (dC : Nat → ClassId) (dI : Nat → Nat → Nat) (x0 : Nat) (th : Nat) (fx : List Value) (fth : List Value) (hfx_1 : fx[1]? = some (Value.ref th)) (hfth_3 : fth[3]? = some (Value.int 0)) (m0 : Nat) (fm : List Value) (hfm_15 : fm[15]? = some (Value.int 0)) {ls : Array Slot} {H : Heap} {locs : List Loc} (hK : va_K (dC, dI) vwCl [] s) (hP : va_P (dC, dI) vwCl [(x0, .inr (10, fx)), (th, .inr (8, fth)), (m0, .inr (11, fm))] H) (hD : va_D (fun q => s.heap.size ≤ q) [(x0, .inr (10, fx)), (th, .inr (8, fth)), (m0, .inr (11, fm))]) (hS : va_S (fun q => s.heap.size ≤ q) s.heap H locs) (hl : lv_has ls 4 [(3, .int 0), (2, .ref m0), (1, .ref x0), (0, .ref b)]) : W p l e room_1 s m #[Value.ref b] below meth c H locs 137 78294 (lw_Z below #[Value.ref b] s) (F0 m 701 ls []) := by
  subst hL
  have hL9 : 7 ≤ 7 := Nat.le_refl 7
  obtain ⟨hx, hb, hr, hml, hown, hts, hX, hbl, hlocks, hgv⟩ := id C0
  have hb : c.code = cL_law := hb
  have hown : s.vm.findClass RL = some m.cls := hown
  have ht : ∀ w ∈ lw_g, w.before #[Value.ref b] s = true := fun w h => hts w (List.mem_filter.mp h).1
  have hA : ∀ q : Nat, s.heap.size ≤ q → (fun q => s.heap.size ≤ q) q := fun _ h => h
  have hbA : ¬ (fun q => s.heap.size ≤ q) b := Nat.not_le.mpr hbl
  refine lv_aload_n hx hb dL_law_701 rfl (lv_at hl 2 rfl) ?_
  refine lv_aload_n hx hb dL_law_702 rfl (lv_at hl 3 rfl) ?_
  refine lv_iload_n hx hb dL_law_703 rfl (lv_at hl 0 rfl) ?_
  refine lv_iconst (v := 1) hx hb dL_law_704 (by decide) ?_
  refine lv_iadd hx hb dL_law_705 ?_
  refine lv_topi (fun r1 er1 => ?_)
  have er1 : r1 = 1 := er1.trans (by decide)
  subst er1
  refine va_sld hx hb hX hbl hbA hS (by unfold vp_in; decide) dL_law_706 ?_
  refine lv_aload_n hx hb dL_law_707 rfl (lv_at hl 3 rfl) ?_
  refine lv_iload_n hx hb dL_law_708 rfl (lv_at hl 0 rfl) ?_
  refine lv_iconst (v := 2) hx hb dL_law_709 (by decide) ?_
  refine lv_iadd hx hb dL_law_710 ?_
  refine lv_topi (fun r2 er2 => ?_)
  have er2 : r2 = 2 := er2.trans (by decide)
  subst er2
  refine va_sld hx hb hX hbl hbA hS (by unfold vp_in; decide) dL_law_711 ?_
  refine lv_aload_n hx hb dL_law_712 rfl (lv_at hl 3 rfl) ?_
  refine lv_iload_n hx hb dL_law_713 rfl (lv_at hl 0 rfl) ?_
  refine lv_iconst (v := 3) hx hb dL_law_714 (by decide) ?_
  refine lv_iadd hx hb dL_law_715 ?_
  refine lv_topi (fun r3 er3 => ?_)
  have er3 : r3 = 3 := er3.trans (by decide)
  subst er3
  refine va_sld hx hb hX hbl hbA hS (by unfold vp_in; decide) dL_law_716 ?_
  refine ro_callV (n := 3) (As := [.int (xs (1 : Int32).toNatClampNeg), .int (xs (2 : Int32).toNatClampNeg), .int (xs (3 : Int32).toNatClampNeg)]) (rest := []) hx hb hml hown ht hK hP (hD.weaken (fun _ _ _ _ => trivial)) hS hA hE (ct_X10_eligible l dC dI x0 th fx fth hfx_1 hfth_3 _ (xs (1 : Int32).toNatClampNeg) (xs (2 : Int32).toNatClampNeg) (xs (3 : Int32).toNatClampNeg)) [0, 1] [] rfl (by decide) rfl 0 (ci := 10) rfl rfl rfl gv_L_86 rfl rfl (by decide +kernel) ⟨Nat.le_of_ble_eq_true rfl, Nat.le_of_ble_eq_true rfl⟩ rfl hl.1 (Nat.le_of_ble_eq_true rfl) ⟨Nat.le_of_ble_eq_true rfl, Nat.le_of_ble_eq_true rfl⟩ rfl dL_law_717 (fun H locs hP hS => ?_)
  refine lv_aload_n hx hb dL_law_720 rfl (lv_at hl 1 rfl) ?_
  refine lv_aload_n hx hb dL_law_721 rfl (lv_at hl 3 rfl) ?_
  refine lv_iload_n hx hb dL_law_722 rfl (lv_at hl 0 rfl) ?_
  refine lv_iconst (v := 1) hx hb dL_law_723 (by decide) ?_
  refine lv_iadd hx hb dL_law_724 ?_
  refine lv_topi (fun r4 er4 => ?_)
  have er4 : r4 = 1 := er4.trans (by decide)
  subst er4
  refine va_sld hx hb hX hbl hbA hS (by unfold vp_in; decide) dL_law_725 ?_
  refine lv_aload_n hx hb dL_law_726 rfl (lv_at hl 3 rfl) ?_
  refine lv_iload_n hx hb dL_law_727 rfl (lv_at hl 0 rfl) ?_
  refine lv_iconst (v := 2) hx hb dL_law_728 (by decide) ?_
  refine lv_iadd hx hb dL_law_729 ?_
  refine lv_topi (fun r5 er5 => ?_)
  have er5 : r5 = 2 := er5.trans (by decide)
  subst er5
  refine va_sld hx hb hX hbl hbA hS (by unfold vp_in; decide) dL_law_730 ?_
  refine lv_aload_n hx hb dL_law_731 rfl (lv_at hl 3 rfl) ?_
  refine lv_iload_n hx hb dL_law_732 rfl (lv_at hl 0 rfl) ?_
  refine lv_iconst (v := 3) hx hb dL_law_733 (by decide) ?_
  refine lv_iadd hx hb dL_law_734 ?_
  refine lv_topi (fun r6 er6 => ?_)
  have er6 : r6 = 3 := er6.trans (by decide)
  subst er6
  refine va_sld hx hb hX hbl hbA hS (by unfold vp_in; decide) dL_law_735 ?_
  refine ro_callV (n := 3) (As := [.int (xs (1 : Int32).toNatClampNeg), .int (xs (2 : Int32).toNatClampNeg), .int (xs (3 : Int32).toNatClampNeg)]) (rest := [.int (-2)]) hx hb hml hown ht hK hP (hD.weaken (fun _ _ _ _ => trivial)) hS hA hE (ct_X11_eligible l dC dI m0 fm hfm_15 _ (xs (1 : Int32).toNatClampNeg) (xs (2 : Int32).toNatClampNeg) (xs (3 : Int32).toNatClampNeg)) [2] [] rfl (by decide) rfl 2 (ci := 11) rfl rfl rfl gv_L_89 rfl rfl (by decide +kernel) ⟨Nat.le_of_ble_eq_true rfl, Nat.le_of_ble_eq_true rfl⟩ rfl hl.1 (Nat.le_of_ble_eq_true rfl) ⟨Nat.le_of_ble_eq_true rfl, Nat.le_of_ble_eq_true rfl⟩ rfl dL_law_736 (fun H locs hP hS => ?_)
  refine lv_icmp_eq (tgt := 1627) hx hb dL_law_739 (by decide) (fun c7 => ?_) (fun c7 => ?_)
  rotate_left
  · exact absurd (by decide) c7
  exact lw_fin hL9 C0 (Nat.le_of_ble_eq_true rfl) (Nat.le_of_ble_eq_true rfl) hS hl
theorem kw_887 : Cond.methodLink RL 90 yX10_lineUp ∈ lw_g := lw_at 887 (by decide +kernel) rfl
theorem kw_888 : Cond.instanceMethod yX10_lineUp ∈ lw_g := lw_at 888 (by decide +kernel) rfl
theorem kw_889 : Cond.selects RX10 yX10_lineUp yX10_lineUp ∈ lw_g := lw_at 889 (by decide +kernel) rfl
theorem kw_890 : Cond.code yX10_lineUp cX10_lineUp 6 (some .int) ∈ lw_g := lw_at 890 (by decide +kernel) rfl
theorem gv_L_90 : GoodIn lw_g (wsV RL 90 RX10 yX10_lineUp (.code yX10_lineUp cX10_lineUp 6 (some .int) :: lw_g)) := gi_V kw_887 kw_888 kw_889 kw_1 kw_890
theorem kw_1939 : Cond.methodLink RL 93 yX11_lineUp ∈ lw_g := lw_at 1939 (by decide +kernel) rfl
theorem kw_1940 : Cond.instanceMethod yX11_lineUp ∈ lw_g := lw_at 1940 (by decide +kernel) rfl
theorem kw_1941 : Cond.selects RX11 yX11_lineUp yX11_lineUp ∈ lw_g := lw_at 1941 (by decide +kernel) rfl
theorem kw_1942 : Cond.code yX11_lineUp cX11_lineUp 6 (some .int) ∈ lw_g := lw_at 1942 (by decide +kernel) rfl
theorem gv_L_93 : GoodIn lw_g (wsV RL 93 RX11 yX11_lineUp (.code yX11_lineUp cX11_lineUp 6 (some .int) :: lw_g)) := gi_V kw_1939 kw_1940 kw_1941 kw_10 kw_1942
set_option maxHeartbeats 4000000 in
set_option maxRecDepth 100000 in
theorem lc_18 {p : Program} {l : Launch} {e : Env} {s : State} {m : MethodId} {below : List Frame} {meth : Method} {c : Code} {b L : Nat} {xs : Nat → Int32} (C0 : lw_At p s m meth c b L xs) (hL : L = 7) (hE : ex_E s) (hEa : ea_E (fun q => s.heap.size ≤ q) s) (dC : Nat → ClassId) (dI : Nat → Nat → Nat) (x0 : Nat) (th : Nat) (fx : List Value) (fth : List Value) (hfx_1 : fx[1]? = some (Value.ref th)) (hfth_3 : fth[3]? = some (Value.int 0)) (m0 : Nat) (fm : List Value) (hfm_15 : fm[15]? = some (Value.int 0)) {ls : Array Slot} {H : Heap} {locs : List Loc} (hK : va_K (dC, dI) vwCl [] s) (hP : va_P (dC, dI) vwCl [(x0, .inr (10, fx)), (th, .inr (8, fth)), (m0, .inr (11, fm))] H) (hD : va_D (fun q => s.heap.size ≤ q) [(x0, .inr (10, fx)), (th, .inr (8, fth)), (m0, .inr (11, fm))]) (hS : va_S (fun q => s.heap.size ≤ q) s.heap H locs) (hl : lv_has ls 4 [(3, .int 0), (2, .ref m0), (1, .ref x0), (0, .ref b)]) : W p l e room_1 s m #[Value.ref b] below meth c H locs 137 78294 (lw_Z below #[Value.ref b] s) (F0 m 744 ls []) := by
  subst hL
  have hL9 : 7 ≤ 7 := Nat.le_refl 7
  obtain ⟨hx, hb, hr, hml, hown, hts, hX, hbl, hlocks, hgv⟩ := id C0
  have hb : c.code = cL_law := hb
  have hown : s.vm.findClass RL = some m.cls := hown
  have ht : ∀ w ∈ lw_g, w.before #[Value.ref b] s = true := fun w h => hts w (List.mem_filter.mp h).1
  have hA : ∀ q : Nat, s.heap.size ≤ q → (fun q => s.heap.size ≤ q) q := fun _ h => h
  have hbA : ¬ (fun q => s.heap.size ≤ q) b := Nat.not_le.mpr hbl
  refine lv_aload_n hx hb dL_law_744 rfl (lv_at hl 2 rfl) ?_
  refine lv_aload_n hx hb dL_law_745 rfl (lv_at hl 3 rfl) ?_
  refine lv_iload_n hx hb dL_law_746 rfl (lv_at hl 0 rfl) ?_
  refine lv_iconst (v := 1) hx hb dL_law_747 (by decide) ?_
  refine lv_iadd hx hb dL_law_748 ?_
  refine lv_topi (fun r1 er1 => ?_)
  have er1 : r1 = 1 := er1.trans (by decide)
  subst er1
  refine va_sld hx hb hX hbl hbA hS (by unfold vp_in; decide) dL_law_749 ?_
  refine lv_aload_n hx hb dL_law_750 rfl (lv_at hl 3 rfl) ?_
  refine lv_iload_n hx hb dL_law_751 rfl (lv_at hl 0 rfl) ?_
  refine lv_iconst (v := 2) hx hb dL_law_752 (by decide) ?_
  refine lv_iadd hx hb dL_law_753 ?_
  refine lv_topi (fun r2 er2 => ?_)
  have er2 : r2 = 2 := er2.trans (by decide)
  subst er2
  refine va_sld hx hb hX hbl hbA hS (by unfold vp_in; decide) dL_law_754 ?_
  refine lv_aload_n hx hb dL_law_755 rfl (lv_at hl 3 rfl) ?_
  refine lv_iload_n hx hb dL_law_756 rfl (lv_at hl 0 rfl) ?_
  refine lv_iconst (v := 3) hx hb dL_law_757 (by decide) ?_
  refine lv_iadd hx hb dL_law_758 ?_
  refine lv_topi (fun r3 er3 => ?_)
  have er3 : r3 = 3 := er3.trans (by decide)
  subst er3
  refine va_sld hx hb hX hbl hbA hS (by unfold vp_in; decide) dL_law_759 ?_
  refine ro_callV (n := 3) (As := [.int (xs (1 : Int32).toNatClampNeg), .int (xs (2 : Int32).toNatClampNeg), .int (xs (3 : Int32).toNatClampNeg)]) (rest := []) hx hb hml hown ht hK hP (hD.weaken (fun _ _ _ _ => trivial)) hS hA hE (ct_X10_lineUp l dC dI x0 th fx fth hfx_1 hfth_3 _ (xs (1 : Int32).toNatClampNeg) (xs (2 : Int32).toNatClampNeg) (xs (3 : Int32).toNatClampNeg)) [0, 1] [] rfl (by decide) rfl 0 (ci := 10) rfl rfl rfl gv_L_90 rfl rfl (by decide +kernel) ⟨Nat.le_of_ble_eq_true rfl, Nat.le_of_ble_eq_true rfl⟩ rfl hl.1 (Nat.le_of_ble_eq_true rfl) ⟨Nat.le_of_ble_eq_true rfl, Nat.le_of_ble_eq_true rfl⟩ rfl dL_law_760 (fun H locs hP hS => ?_)
  refine lv_aload_n hx hb dL_law_763 rfl (lv_at hl 1 rfl) ?_
  refine lv_aload_n hx hb dL_law_764 rfl (lv_at hl 3 rfl) ?_
  refine lv_iload_n hx hb dL_law_765 rfl (lv_at hl 0 rfl) ?_
  refine lv_iconst (v := 1) hx hb dL_law_766 (by decide) ?_
  refine lv_iadd hx hb dL_law_767 ?_
  refine lv_topi (fun r4 er4 => ?_)
  have er4 : r4 = 1 := er4.trans (by decide)
  subst er4
  refine va_sld hx hb hX hbl hbA hS (by unfold vp_in; decide) dL_law_768 ?_
  refine lv_aload_n hx hb dL_law_769 rfl (lv_at hl 3 rfl) ?_
  refine lv_iload_n hx hb dL_law_770 rfl (lv_at hl 0 rfl) ?_
  refine lv_iconst (v := 2) hx hb dL_law_771 (by decide) ?_
  refine lv_iadd hx hb dL_law_772 ?_
  refine lv_topi (fun r5 er5 => ?_)
  have er5 : r5 = 2 := er5.trans (by decide)
  subst er5
  refine va_sld hx hb hX hbl hbA hS (by unfold vp_in; decide) dL_law_773 ?_
  refine lv_aload_n hx hb dL_law_774 rfl (lv_at hl 3 rfl) ?_
  refine lv_iload_n hx hb dL_law_775 rfl (lv_at hl 0 rfl) ?_
  refine lv_iconst (v := 3) hx hb dL_law_776 (by decide) ?_
  refine lv_iadd hx hb dL_law_777 ?_
  refine lv_topi (fun r6 er6 => ?_)
  have er6 : r6 = 3 := er6.trans (by decide)
  subst er6
  refine va_sld hx hb hX hbl hbA hS (by unfold vp_in; decide) dL_law_778 ?_
  refine ro_callV (n := 3) (As := [.int (xs (1 : Int32).toNatClampNeg), .int (xs (2 : Int32).toNatClampNeg), .int (xs (3 : Int32).toNatClampNeg)]) (rest := [.int (-2)]) hx hb hml hown ht hK hP (hD.weaken (fun _ _ _ _ => trivial)) hS hA hE (ct_X11_lineUp l dC dI m0 fm hfm_15 _ (xs (1 : Int32).toNatClampNeg) (xs (2 : Int32).toNatClampNeg) (xs (3 : Int32).toNatClampNeg)) [2] [] rfl (by decide) rfl 2 (ci := 11) rfl rfl rfl gv_L_93 rfl rfl (by decide +kernel) ⟨Nat.le_of_ble_eq_true rfl, Nat.le_of_ble_eq_true rfl⟩ rfl hl.1 (Nat.le_of_ble_eq_true rfl) ⟨Nat.le_of_ble_eq_true rfl, Nat.le_of_ble_eq_true rfl⟩ rfl dL_law_779 (fun H locs hP hS => ?_)
  refine lv_icmp_eq (tgt := 1627) hx hb dL_law_782 (by decide) (fun c7 => ?_) (fun c7 => ?_)
  rotate_left
  · exact absurd (by decide) c7
  exact lw_fin hL9 C0 (Nat.le_of_ble_eq_true rfl) (Nat.le_of_ble_eq_true rfl) hS hl
theorem kw_891 : Cond.methodLink RL 94 yX10_start ∈ lw_g := lw_at 891 (by decide +kernel) rfl
theorem kw_892 : Cond.instanceMethod yX10_start ∈ lw_g := lw_at 892 (by decide +kernel) rfl
theorem kw_893 : Cond.selects RX10 yX10_start yX10_start ∈ lw_g := lw_at 893 (by decide +kernel) rfl
theorem kw_894 : Cond.code yX10_start cX10_start 3 (some .int) ∈ lw_g := lw_at 894 (by decide +kernel) rfl
theorem gv_L_94 : GoodIn lw_g (wsV RL 94 RX10 yX10_start (.code yX10_start cX10_start 3 (some .int) :: lw_g)) := gi_V kw_891 kw_892 kw_893 kw_1 kw_894
theorem kw_1943 : Cond.methodLink RL 97 yX11_start ∈ lw_g := lw_at 1943 (by decide +kernel) rfl
theorem kw_1944 : Cond.instanceMethod yX11_start ∈ lw_g := lw_at 1944 (by decide +kernel) rfl
theorem kw_1945 : Cond.selects RX11 yX11_start yX11_start ∈ lw_g := lw_at 1945 (by decide +kernel) rfl
theorem kw_1946 : Cond.code yX11_start cX11_start 3 (some .int) ∈ lw_g := lw_at 1946 (by decide +kernel) rfl
theorem gv_L_97 : GoodIn lw_g (wsV RL 97 RX11 yX11_start (.code yX11_start cX11_start 3 (some .int) :: lw_g)) := gi_V kw_1943 kw_1944 kw_1945 kw_10 kw_1946
set_option maxHeartbeats 4000000 in
set_option maxRecDepth 100000 in
theorem lc_19 {p : Program} {l : Launch} {e : Env} {s : State} {m : MethodId} {below : List Frame} {meth : Method} {c : Code} {b L : Nat} {xs : Nat → Int32} (C0 : lw_At p s m meth c b L xs) (hL : L = 7) (hE : ex_E s) (hEa : ea_E (fun q => s.heap.size ≤ q) s) (dC : Nat → ClassId) (dI : Nat → Nat → Nat) (x0 : Nat) (se : Nat) (fx : List Value) (fse : List Value) (hfx_2 : fx[2]? = some (Value.ref se)) (hfse_4 : fse[4]? = some (Value.int 0)) (m0 : Nat) (fm : List Value) (hfm_29 : fm[29]? = some (Value.int 0)) {ls : Array Slot} {H : Heap} {locs : List Loc} (hK : va_K (dC, dI) vwCl [] s) (hP : va_P (dC, dI) vwCl [(x0, .inr (10, fx)), (se, .inr (6, fse)), (m0, .inr (11, fm))] H) (hD : va_D (fun q => s.heap.size ≤ q) [(x0, .inr (10, fx)), (se, .inr (6, fse)), (m0, .inr (11, fm))]) (hS : va_S (fun q => s.heap.size ≤ q) s.heap H locs) (hl : lv_has ls 4 [(3, .int 0), (2, .ref m0), (1, .ref x0), (0, .ref b)]) : W p l e room_1 s m #[Value.ref b] below meth c H locs 137 78294 (lw_Z below #[Value.ref b] s) (F0 m 787 ls []) := by
  subst hL
  have hL9 : 7 ≤ 7 := Nat.le_refl 7
  obtain ⟨hx, hb, hr, hml, hown, hts, hX, hbl, hlocks, hgv⟩ := id C0
  have hb : c.code = cL_law := hb
  have hown : s.vm.findClass RL = some m.cls := hown
  have ht : ∀ w ∈ lw_g, w.before #[Value.ref b] s = true := fun w h => hts w (List.mem_filter.mp h).1
  have hA : ∀ q : Nat, s.heap.size ≤ q → (fun q => s.heap.size ≤ q) q := fun _ h => h
  have hbA : ¬ (fun q => s.heap.size ≤ q) b := Nat.not_le.mpr hbl
  refine lv_aload_n hx hb dL_law_787 rfl (lv_at hl 2 rfl) ?_
  refine lv_aload_n hx hb dL_law_788 rfl (lv_at hl 3 rfl) ?_
  refine lv_iload_n hx hb dL_law_789 rfl (lv_at hl 0 rfl) ?_
  refine lv_iconst (v := 1) hx hb dL_law_790 (by decide) ?_
  refine lv_iadd hx hb dL_law_791 ?_
  refine lv_topi (fun r1 er1 => ?_)
  have er1 : r1 = 1 := er1.trans (by decide)
  subst er1
  refine va_sld hx hb hX hbl hbA hS (by unfold vp_in; decide) dL_law_792 ?_
  refine ro_callV (n := 1) (As := [.int (xs (1 : Int32).toNatClampNeg)]) (rest := []) hx hb hml hown ht hK hP (hD.weaken (fun _ _ _ _ => trivial)) hS hA hE (ct_X10_start l dC dI x0 se fx fse hfx_2 hfse_4 _ (xs (1 : Int32).toNatClampNeg)) [0, 1] [] rfl (by decide) rfl 0 (ci := 10) rfl rfl rfl gv_L_94 rfl rfl (by decide +kernel) ⟨Nat.le_of_ble_eq_true rfl, Nat.le_of_ble_eq_true rfl⟩ rfl hl.1 (Nat.le_of_ble_eq_true rfl) ⟨Nat.le_of_ble_eq_true rfl, Nat.le_of_ble_eq_true rfl⟩ rfl dL_law_793 (fun H locs hP hS => ?_)
  refine lv_aload_n hx hb dL_law_796 rfl (lv_at hl 1 rfl) ?_
  refine lv_aload_n hx hb dL_law_797 rfl (lv_at hl 3 rfl) ?_
  refine lv_iload_n hx hb dL_law_798 rfl (lv_at hl 0 rfl) ?_
  refine lv_iconst (v := 1) hx hb dL_law_799 (by decide) ?_
  refine lv_iadd hx hb dL_law_800 ?_
  refine lv_topi (fun r2 er2 => ?_)
  have er2 : r2 = 1 := er2.trans (by decide)
  subst er2
  refine va_sld hx hb hX hbl hbA hS (by unfold vp_in; decide) dL_law_801 ?_
  refine ro_callV (n := 1) (As := [.int (xs (1 : Int32).toNatClampNeg)]) (rest := [.int (-2)]) hx hb hml hown ht hK hP (hD.weaken (fun _ _ _ _ => trivial)) hS hA hE (ct_X11_start l dC dI m0 fm hfm_29 _ (xs (1 : Int32).toNatClampNeg)) [2] [] rfl (by decide) rfl 2 (ci := 11) rfl rfl rfl gv_L_97 rfl rfl (by decide +kernel) ⟨Nat.le_of_ble_eq_true rfl, Nat.le_of_ble_eq_true rfl⟩ rfl hl.1 (Nat.le_of_ble_eq_true rfl) ⟨Nat.le_of_ble_eq_true rfl, Nat.le_of_ble_eq_true rfl⟩ rfl dL_law_802 (fun H locs hP hS => ?_)
  refine lv_icmp_eq (tgt := 1627) hx hb dL_law_805 (by decide) (fun c3 => ?_) (fun c3 => ?_)
  rotate_left
  · exact absurd (by decide) c3
  exact lw_fin hL9 C0 (Nat.le_of_ble_eq_true rfl) (Nat.le_of_ble_eq_true rfl) hS hl
theorem kw_979 : Cond.methodLink RL 98 yX10_walkOver ∈ lw_g := lw_at 979 (by decide +kernel) rfl
theorem kw_980 : Cond.instanceMethod yX10_walkOver ∈ lw_g := lw_at 980 (by decide +kernel) rfl
theorem kw_981 : Cond.selects RX10 yX10_walkOver yX10_walkOver ∈ lw_g := lw_at 981 (by decide +kernel) rfl
theorem kw_982 : Cond.code yX10_walkOver cX10_walkOver 4 (some .int) ∈ lw_g := lw_at 982 (by decide +kernel) rfl
theorem gv_L_98 : GoodIn lw_g (wsV RL 98 RX10 yX10_walkOver (.code yX10_walkOver cX10_walkOver 4 (some .int) :: lw_g)) := gi_V kw_979 kw_980 kw_981 kw_1 kw_982
theorem kw_1951 : Cond.methodLink RL 101 yX11_walkOver ∈ lw_g := lw_at 1951 (by decide +kernel) rfl
theorem kw_1952 : Cond.instanceMethod yX11_walkOver ∈ lw_g := lw_at 1952 (by decide +kernel) rfl
theorem kw_1953 : Cond.selects RX11 yX11_walkOver yX11_walkOver ∈ lw_g := lw_at 1953 (by decide +kernel) rfl
theorem kw_1954 : Cond.code yX11_walkOver cX11_walkOver 3 (some .int) ∈ lw_g := lw_at 1954 (by decide +kernel) rfl
theorem gv_L_101 : GoodIn lw_g (wsV RL 101 RX11 yX11_walkOver (.code yX11_walkOver cX11_walkOver 3 (some .int) :: lw_g)) := gi_V kw_1951 kw_1952 kw_1953 kw_10 kw_1954
set_option maxHeartbeats 4000000 in
set_option maxRecDepth 100000 in
theorem lc_20 {p : Program} {l : Launch} {e : Env} {s : State} {m : MethodId} {below : List Frame} {meth : Method} {c : Code} {b L : Nat} {xs : Nat → Int32} (C0 : lw_At p s m meth c b L xs) (hL : L = 7) (hE : ex_E s) (hEa : ea_E (fun q => s.heap.size ≤ q) s) (dC : Nat → ClassId) (dI : Nat → Nat → Nat) (x0 : Nat) (se : Nat) (fx : List Value) (fse : List Value) (hfx_2 : fx[2]? = some (Value.ref se)) (hfse_4 : fse[4]? = some (Value.int 0)) (m0 : Nat) (fm : List Value) (hfm_29 : fm[29]? = some (Value.int 0)) {ls : Array Slot} {H : Heap} {locs : List Loc} (hK : va_K (dC, dI) vwCl [] s) (hP : va_P (dC, dI) vwCl [(x0, .inr (10, fx)), (se, .inr (6, fse)), (m0, .inr (11, fm))] H) (hD : va_D (fun q => s.heap.size ≤ q) [(x0, .inr (10, fx)), (se, .inr (6, fse)), (m0, .inr (11, fm))]) (hS : va_S (fun q => s.heap.size ≤ q) s.heap H locs) (hl : lv_has ls 4 [(3, .int 0), (2, .ref m0), (1, .ref x0), (0, .ref b)]) : W p l e room_1 s m #[Value.ref b] below meth c H locs 137 78294 (lw_Z below #[Value.ref b] s) (F0 m 810 ls []) := by
  subst hL
  have hL9 : 7 ≤ 7 := Nat.le_refl 7
  obtain ⟨hx, hb, hr, hml, hown, hts, hX, hbl, hlocks, hgv⟩ := id C0
  have hb : c.code = cL_law := hb
  have hown : s.vm.findClass RL = some m.cls := hown
  have ht : ∀ w ∈ lw_g, w.before #[Value.ref b] s = true := fun w h => hts w (List.mem_filter.mp h).1
  have hA : ∀ q : Nat, s.heap.size ≤ q → (fun q => s.heap.size ≤ q) q := fun _ h => h
  have hbA : ¬ (fun q => s.heap.size ≤ q) b := Nat.not_le.mpr hbl
  refine lv_aload_n hx hb dL_law_810 rfl (lv_at hl 2 rfl) ?_
  refine lv_aload_n hx hb dL_law_811 rfl (lv_at hl 3 rfl) ?_
  refine lv_iload_n hx hb dL_law_812 rfl (lv_at hl 0 rfl) ?_
  refine lv_iconst (v := 1) hx hb dL_law_813 (by decide) ?_
  refine lv_iadd hx hb dL_law_814 ?_
  refine lv_topi (fun r1 er1 => ?_)
  have er1 : r1 = 1 := er1.trans (by decide)
  subst er1
  refine va_sld hx hb hX hbl hbA hS (by unfold vp_in; decide) dL_law_815 ?_
  refine lv_aload_n hx hb dL_law_816 rfl (lv_at hl 3 rfl) ?_
  refine lv_iload_n hx hb dL_law_817 rfl (lv_at hl 0 rfl) ?_
  refine lv_iconst (v := 2) hx hb dL_law_818 (by decide) ?_
  refine lv_iadd hx hb dL_law_819 ?_
  refine lv_topi (fun r2 er2 => ?_)
  have er2 : r2 = 2 := er2.trans (by decide)
  subst er2
  refine va_sld hx hb hX hbl hbA hS (by unfold vp_in; decide) dL_law_820 ?_
  refine ro_callV (n := 2) (As := [.int (xs (1 : Int32).toNatClampNeg), .int (xs (2 : Int32).toNatClampNeg)]) (rest := []) hx hb hml hown ht hK hP (hD.weaken (fun _ _ _ _ => trivial)) hS hA hE (ct_X10_walkOver l dC dI x0 se fx fse hfx_2 hfse_4 _ (xs (1 : Int32).toNatClampNeg) (xs (2 : Int32).toNatClampNeg)) [0, 1] [] rfl (by decide) rfl 0 (ci := 10) rfl rfl rfl gv_L_98 rfl rfl (by decide +kernel) ⟨Nat.le_of_ble_eq_true rfl, Nat.le_of_ble_eq_true rfl⟩ rfl hl.1 (Nat.le_of_ble_eq_true rfl) ⟨Nat.le_of_ble_eq_true rfl, Nat.le_of_ble_eq_true rfl⟩ rfl dL_law_821 (fun H locs hP hS => ?_)
  refine lv_aload_n hx hb dL_law_824 rfl (lv_at hl 1 rfl) ?_
  refine lv_aload_n hx hb dL_law_825 rfl (lv_at hl 3 rfl) ?_
  refine lv_iload_n hx hb dL_law_826 rfl (lv_at hl 0 rfl) ?_
  refine lv_iconst (v := 1) hx hb dL_law_827 (by decide) ?_
  refine lv_iadd hx hb dL_law_828 ?_
  refine lv_topi (fun r3 er3 => ?_)
  have er3 : r3 = 1 := er3.trans (by decide)
  subst er3
  refine va_sld hx hb hX hbl hbA hS (by unfold vp_in; decide) dL_law_829 ?_
  refine lv_aload_n hx hb dL_law_830 rfl (lv_at hl 3 rfl) ?_
  refine lv_iload_n hx hb dL_law_831 rfl (lv_at hl 0 rfl) ?_
  refine lv_iconst (v := 2) hx hb dL_law_832 (by decide) ?_
  refine lv_iadd hx hb dL_law_833 ?_
  refine lv_topi (fun r4 er4 => ?_)
  have er4 : r4 = 2 := er4.trans (by decide)
  subst er4
  refine va_sld hx hb hX hbl hbA hS (by unfold vp_in; decide) dL_law_834 ?_
  refine ro_callV (n := 2) (As := [.int (xs (1 : Int32).toNatClampNeg), .int (xs (2 : Int32).toNatClampNeg)]) (rest := [.int (-2)]) hx hb hml hown ht hK hP (hD.weaken (fun _ _ _ _ => trivial)) hS hA hE (ct_X11_walkOver l dC dI m0 fm hfm_29 _ (xs (1 : Int32).toNatClampNeg) (xs (2 : Int32).toNatClampNeg)) [2] [] rfl (by decide) rfl 2 (ci := 11) rfl rfl rfl gv_L_101 rfl rfl (by decide +kernel) ⟨Nat.le_of_ble_eq_true rfl, Nat.le_of_ble_eq_true rfl⟩ rfl hl.1 (Nat.le_of_ble_eq_true rfl) ⟨Nat.le_of_ble_eq_true rfl, Nat.le_of_ble_eq_true rfl⟩ rfl dL_law_835 (fun H locs hP hS => ?_)
  refine lv_icmp_eq (tgt := 1627) hx hb dL_law_838 (by decide) (fun c5 => ?_) (fun c5 => ?_)
  rotate_left
  · exact absurd (by decide) c5
  exact lw_fin hL9 C0 (Nat.le_of_ble_eq_true rfl) (Nat.le_of_ble_eq_true rfl) hS hl
theorem kw_983 : Cond.methodLink RL 102 yX10_event ∈ lw_g := lw_at 983 (by decide +kernel) rfl
theorem kw_984 : Cond.instanceMethod yX10_event ∈ lw_g := lw_at 984 (by decide +kernel) rfl
theorem kw_985 : Cond.selects RX10 yX10_event yX10_event ∈ lw_g := lw_at 985 (by decide +kernel) rfl
theorem kw_986 : Cond.code yX10_event cX10_event 8 (some .int) ∈ lw_g := lw_at 986 (by decide +kernel) rfl
theorem gv_L_102 : GoodIn lw_g (wsV RL 102 RX10 yX10_event (.code yX10_event cX10_event 8 (some .int) :: lw_g)) := gi_V kw_983 kw_984 kw_985 kw_1 kw_986
theorem kw_1955 : Cond.methodLink RL 106 yX11_event ∈ lw_g := lw_at 1955 (by decide +kernel) rfl
theorem kw_1956 : Cond.instanceMethod yX11_event ∈ lw_g := lw_at 1956 (by decide +kernel) rfl
theorem kw_1957 : Cond.selects RX11 yX11_event yX11_event ∈ lw_g := lw_at 1957 (by decide +kernel) rfl
theorem kw_1958 : Cond.code yX11_event cX11_event 8 (some .int) ∈ lw_g := lw_at 1958 (by decide +kernel) rfl
theorem gv_L_106 : GoodIn lw_g (wsV RL 106 RX11 yX11_event (.code yX11_event cX11_event 8 (some .int) :: lw_g)) := gi_V kw_1955 kw_1956 kw_1957 kw_10 kw_1958
set_option maxHeartbeats 4000000 in
set_option maxRecDepth 100000 in
theorem lc_21 {p : Program} {l : Launch} {e : Env} {s : State} {m : MethodId} {below : List Frame} {meth : Method} {c : Code} {b L : Nat} {xs : Nat → Int32} (C0 : lw_At p s m meth c b L xs) (hL : L = 7) (hE : ex_E s) (hEa : ea_E (fun q => s.heap.size ≤ q) s) (dC : Nat → ClassId) (dI : Nat → Nat → Nat) (x0 : Nat) (se : Nat) (fx : List Value) (fse : List Value) (hfx_2 : fx[2]? = some (Value.ref se)) (hfse_4 : fse[4]? = some (Value.int 0)) (m0 : Nat) (fm : List Value) (hfm_29 : fm[29]? = some (Value.int 0)) {ls : Array Slot} {H : Heap} {locs : List Loc} (hK : va_K (dC, dI) vwCl [] s) (hP : va_P (dC, dI) vwCl [(x0, .inr (10, fx)), (se, .inr (6, fse)), (m0, .inr (11, fm))] H) (hD : va_D (fun q => s.heap.size ≤ q) [(x0, .inr (10, fx)), (se, .inr (6, fse)), (m0, .inr (11, fm))]) (hS : va_S (fun q => s.heap.size ≤ q) s.heap H locs) (hl : lv_has ls 4 [(3, .int 0), (2, .ref m0), (1, .ref x0), (0, .ref b)]) : W p l e room_1 s m #[Value.ref b] below meth c H locs 137 78294 (lw_Z below #[Value.ref b] s) (F0 m 843 ls []) := by
  subst hL
  have hL9 : 7 ≤ 7 := Nat.le_refl 7
  obtain ⟨hx, hb, hr, hml, hown, hts, hX, hbl, hlocks, hgv⟩ := id C0
  have hb : c.code = cL_law := hb
  have hown : s.vm.findClass RL = some m.cls := hown
  have ht : ∀ w ∈ lw_g, w.before #[Value.ref b] s = true := fun w h => hts w (List.mem_filter.mp h).1
  have hA : ∀ q : Nat, s.heap.size ≤ q → (fun q => s.heap.size ≤ q) q := fun _ h => h
  have hbA : ¬ (fun q => s.heap.size ≤ q) b := Nat.not_le.mpr hbl
  refine lv_aload_n hx hb dL_law_843 rfl (lv_at hl 2 rfl) ?_
  refine lv_aload_n hx hb dL_law_844 rfl (lv_at hl 3 rfl) ?_
  refine lv_iload_n hx hb dL_law_845 rfl (lv_at hl 0 rfl) ?_
  refine lv_iconst (v := 1) hx hb dL_law_846 (by decide) ?_
  refine lv_iadd hx hb dL_law_847 ?_
  refine lv_topi (fun r1 er1 => ?_)
  have er1 : r1 = 1 := er1.trans (by decide)
  subst er1
  refine va_sld hx hb hX hbl hbA hS (by unfold vp_in; decide) dL_law_848 ?_
  refine lv_aload_n hx hb dL_law_849 rfl (lv_at hl 3 rfl) ?_
  refine lv_iload_n hx hb dL_law_850 rfl (lv_at hl 0 rfl) ?_
  refine lv_iconst (v := 2) hx hb dL_law_851 (by decide) ?_
  refine lv_iadd hx hb dL_law_852 ?_
  refine lv_topi (fun r2 er2 => ?_)
  have er2 : r2 = 2 := er2.trans (by decide)
  subst er2
  refine va_sld hx hb hX hbl hbA hS (by unfold vp_in; decide) dL_law_853 ?_
  refine lv_aload_n hx hb dL_law_854 rfl (lv_at hl 3 rfl) ?_
  refine lv_iload_n hx hb dL_law_855 rfl (lv_at hl 0 rfl) ?_
  refine lv_iconst (v := 3) hx hb dL_law_856 (by decide) ?_
  refine lv_iadd hx hb dL_law_857 ?_
  refine lv_topi (fun r3 er3 => ?_)
  have er3 : r3 = 3 := er3.trans (by decide)
  subst er3
  refine va_sld hx hb hX hbl hbA hS (by unfold vp_in; decide) dL_law_858 ?_
  refine lv_aload_n hx hb dL_law_859 rfl (lv_at hl 3 rfl) ?_
  refine lv_iload_n hx hb dL_law_860 rfl (lv_at hl 0 rfl) ?_
  refine lv_iconst (v := 4) hx hb dL_law_861 (by decide) ?_
  refine lv_iadd hx hb dL_law_862 ?_
  refine lv_topi (fun r4 er4 => ?_)
  have er4 : r4 = 4 := er4.trans (by decide)
  subst er4
  refine va_sld hx hb hX hbl hbA hS (by unfold vp_in; decide) dL_law_863 ?_
  refine lv_aload_n hx hb dL_law_864 rfl (lv_at hl 3 rfl) ?_
  refine lv_iload_n hx hb dL_law_865 rfl (lv_at hl 0 rfl) ?_
  refine lv_iconst (v := 5) hx hb dL_law_866 (by decide) ?_
  refine lv_iadd hx hb dL_law_867 ?_
  refine lv_topi (fun r5 er5 => ?_)
  have er5 : r5 = 5 := er5.trans (by decide)
  subst er5
  refine va_sld hx hb hX hbl hbA hS (by unfold vp_in; decide) dL_law_868 ?_
  refine ro_callV (n := 5) (As := [.int (xs (1 : Int32).toNatClampNeg), .int (xs (2 : Int32).toNatClampNeg), .int (xs (3 : Int32).toNatClampNeg), .int (xs (4 : Int32).toNatClampNeg), .int (xs (5 : Int32).toNatClampNeg)]) (rest := []) hx hb hml hown ht hK hP (hD.weaken (fun _ _ _ _ => trivial)) hS hA hE (ct_X10_event l dC dI x0 se fx fse hfx_2 hfse_4 _ (xs (1 : Int32).toNatClampNeg) (xs (2 : Int32).toNatClampNeg) (xs (3 : Int32).toNatClampNeg) (xs (4 : Int32).toNatClampNeg) (xs (5 : Int32).toNatClampNeg)) [0, 1] [] rfl (by decide) rfl 0 (ci := 10) rfl rfl rfl gv_L_102 rfl rfl (by decide +kernel) ⟨Nat.le_of_ble_eq_true rfl, Nat.le_of_ble_eq_true rfl⟩ rfl hl.1 (Nat.le_of_ble_eq_true rfl) ⟨Nat.le_of_ble_eq_true rfl, Nat.le_of_ble_eq_true rfl⟩ rfl dL_law_869 (fun H locs hP hS => ?_)
  refine lv_aload_n hx hb dL_law_872 rfl (lv_at hl 1 rfl) ?_
  refine lv_aload_n hx hb dL_law_873 rfl (lv_at hl 3 rfl) ?_
  refine lv_iload_n hx hb dL_law_874 rfl (lv_at hl 0 rfl) ?_
  refine lv_iconst (v := 1) hx hb dL_law_875 (by decide) ?_
  refine lv_iadd hx hb dL_law_876 ?_
  refine lv_topi (fun r6 er6 => ?_)
  have er6 : r6 = 1 := er6.trans (by decide)
  subst er6
  refine va_sld hx hb hX hbl hbA hS (by unfold vp_in; decide) dL_law_877 ?_
  refine lv_aload_n hx hb dL_law_878 rfl (lv_at hl 3 rfl) ?_
  refine lv_iload_n hx hb dL_law_879 rfl (lv_at hl 0 rfl) ?_
  refine lv_iconst (v := 2) hx hb dL_law_880 (by decide) ?_
  refine lv_iadd hx hb dL_law_881 ?_
  refine lv_topi (fun r7 er7 => ?_)
  have er7 : r7 = 2 := er7.trans (by decide)
  subst er7
  refine va_sld hx hb hX hbl hbA hS (by unfold vp_in; decide) dL_law_882 ?_
  refine lv_aload_n hx hb dL_law_883 rfl (lv_at hl 3 rfl) ?_
  refine lv_iload_n hx hb dL_law_884 rfl (lv_at hl 0 rfl) ?_
  refine lv_iconst (v := 3) hx hb dL_law_885 (by decide) ?_
  refine lv_iadd hx hb dL_law_886 ?_
  refine lv_topi (fun r8 er8 => ?_)
  have er8 : r8 = 3 := er8.trans (by decide)
  subst er8
  refine va_sld hx hb hX hbl hbA hS (by unfold vp_in; decide) dL_law_887 ?_
  refine lv_aload_n hx hb dL_law_888 rfl (lv_at hl 3 rfl) ?_
  refine lv_iload_n hx hb dL_law_889 rfl (lv_at hl 0 rfl) ?_
  refine lv_iconst (v := 4) hx hb dL_law_890 (by decide) ?_
  refine lv_iadd hx hb dL_law_891 ?_
  refine lv_topi (fun r9 er9 => ?_)
  have er9 : r9 = 4 := er9.trans (by decide)
  subst er9
  refine va_sld hx hb hX hbl hbA hS (by unfold vp_in; decide) dL_law_892 ?_
  refine lv_aload_n hx hb dL_law_893 rfl (lv_at hl 3 rfl) ?_
  refine lv_iload_n hx hb dL_law_894 rfl (lv_at hl 0 rfl) ?_
  refine lv_iconst (v := 5) hx hb dL_law_895 (by decide) ?_
  refine lv_iadd hx hb dL_law_896 ?_
  refine lv_topi (fun r10 er10 => ?_)
  have er10 : r10 = 5 := er10.trans (by decide)
  subst er10
  refine va_sld hx hb hX hbl hbA hS (by unfold vp_in; decide) dL_law_897 ?_
  refine ro_callV (n := 5) (As := [.int (xs (1 : Int32).toNatClampNeg), .int (xs (2 : Int32).toNatClampNeg), .int (xs (3 : Int32).toNatClampNeg), .int (xs (4 : Int32).toNatClampNeg), .int (xs (5 : Int32).toNatClampNeg)]) (rest := [.int (-2)]) hx hb hml hown ht hK hP (hD.weaken (fun _ _ _ _ => trivial)) hS hA hE (ct_X11_event l dC dI m0 fm hfm_29 _ (xs (1 : Int32).toNatClampNeg) (xs (2 : Int32).toNatClampNeg) (xs (3 : Int32).toNatClampNeg) (xs (4 : Int32).toNatClampNeg) (xs (5 : Int32).toNatClampNeg)) [2] [] rfl (by decide) rfl 2 (ci := 11) rfl rfl rfl gv_L_106 rfl rfl (by decide +kernel) ⟨Nat.le_of_ble_eq_true rfl, Nat.le_of_ble_eq_true rfl⟩ rfl hl.1 (Nat.le_of_ble_eq_true rfl) ⟨Nat.le_of_ble_eq_true rfl, Nat.le_of_ble_eq_true rfl⟩ rfl dL_law_898 (fun H locs hP hS => ?_)
  refine lv_icmp_eq (tgt := 1627) hx hb dL_law_901 (by decide) (fun c11 => ?_) (fun c11 => ?_)
  rotate_left
  · exact absurd (by decide) c11
  exact lw_fin hL9 C0 (Nat.le_of_ble_eq_true rfl) (Nat.le_of_ble_eq_true rfl) hS hl
theorem kw_1109 : Cond.methodLink RL 107 yX10_review ∈ lw_g := lw_at 1109 (by decide +kernel) rfl
theorem kw_1110 : Cond.instanceMethod yX10_review ∈ lw_g := lw_at 1110 (by decide +kernel) rfl
theorem kw_1111 : Cond.selects RX10 yX10_review yX10_review ∈ lw_g := lw_at 1111 (by decide +kernel) rfl
theorem kw_1112 : Cond.code yX10_review cX10_review 8 (some .int) ∈ lw_g := lw_at 1112 (by decide +kernel) rfl
theorem gv_L_107 : GoodIn lw_g (wsV RL 107 RX10 yX10_review (.code yX10_review cX10_review 8 (some .int) :: lw_g)) := gi_V kw_1109 kw_1110 kw_1111 kw_1 kw_1112
theorem kw_2054 : Cond.methodLink RL 111 yX11_review ∈ lw_g := lw_at 2054 (by decide +kernel) rfl
theorem kw_2055 : Cond.instanceMethod yX11_review ∈ lw_g := lw_at 2055 (by decide +kernel) rfl
theorem kw_2056 : Cond.selects RX11 yX11_review yX11_review ∈ lw_g := lw_at 2056 (by decide +kernel) rfl
theorem kw_2057 : Cond.code yX11_review cX11_review 9 (some .int) ∈ lw_g := lw_at 2057 (by decide +kernel) rfl
theorem gv_L_111 : GoodIn lw_g (wsV RL 111 RX11 yX11_review (.code yX11_review cX11_review 9 (some .int) :: lw_g)) := gi_V kw_2054 kw_2055 kw_2056 kw_10 kw_2057
set_option maxHeartbeats 4000000 in
set_option maxRecDepth 100000 in
theorem lc_22 {p : Program} {l : Launch} {e : Env} {s : State} {m : MethodId} {below : List Frame} {meth : Method} {c : Code} {b L : Nat} {xs : Nat → Int32} (C0 : lw_At p s m meth c b L xs) (hL : L = 7) (hE : ex_E s) (hEa : ea_E (fun q => s.heap.size ≤ q) s) (dC : Nat → ClassId) (dI : Nat → Nat → Nat) (x0 : Nat) (se : Nat) (fx : List Value) (fse : List Value) (hfx_2 : fx[2]? = some (Value.ref se)) (hfse_4 : fse[4]? = some (Value.int 0)) (m0 : Nat) (fm : List Value) (hfm_29 : fm[29]? = some (Value.int 0)) {ls : Array Slot} {H : Heap} {locs : List Loc} (hK : va_K (dC, dI) vwCl [] s) (hP : va_P (dC, dI) vwCl [(x0, .inr (10, fx)), (se, .inr (6, fse)), (m0, .inr (11, fm))] H) (hD : va_D (fun q => s.heap.size ≤ q) [(x0, .inr (10, fx)), (se, .inr (6, fse)), (m0, .inr (11, fm))]) (hS : va_S (fun q => s.heap.size ≤ q) s.heap H locs) (hl : lv_has ls 4 [(3, .int 0), (2, .ref m0), (1, .ref x0), (0, .ref b)]) : W p l e room_1 s m #[Value.ref b] below meth c H locs 137 78294 (lw_Z below #[Value.ref b] s) (F0 m 906 ls []) := by
  subst hL
  have hL9 : 7 ≤ 7 := Nat.le_refl 7
  obtain ⟨hx, hb, hr, hml, hown, hts, hX, hbl, hlocks, hgv⟩ := id C0
  have hb : c.code = cL_law := hb
  have hown : s.vm.findClass RL = some m.cls := hown
  have ht : ∀ w ∈ lw_g, w.before #[Value.ref b] s = true := fun w h => hts w (List.mem_filter.mp h).1
  have hA : ∀ q : Nat, s.heap.size ≤ q → (fun q => s.heap.size ≤ q) q := fun _ h => h
  have hbA : ¬ (fun q => s.heap.size ≤ q) b := Nat.not_le.mpr hbl
  refine lv_aload_n hx hb dL_law_906 rfl (lv_at hl 2 rfl) ?_
  refine lv_aload_n hx hb dL_law_907 rfl (lv_at hl 3 rfl) ?_
  refine lv_iload_n hx hb dL_law_908 rfl (lv_at hl 0 rfl) ?_
  refine lv_iconst (v := 1) hx hb dL_law_909 (by decide) ?_
  refine lv_iadd hx hb dL_law_910 ?_
  refine lv_topi (fun r1 er1 => ?_)
  have er1 : r1 = 1 := er1.trans (by decide)
  subst er1
  refine va_sld hx hb hX hbl hbA hS (by unfold vp_in; decide) dL_law_911 ?_
  refine lv_aload_n hx hb dL_law_912 rfl (lv_at hl 3 rfl) ?_
  refine lv_iload_n hx hb dL_law_913 rfl (lv_at hl 0 rfl) ?_
  refine lv_iconst (v := 2) hx hb dL_law_914 (by decide) ?_
  refine lv_iadd hx hb dL_law_915 ?_
  refine lv_topi (fun r2 er2 => ?_)
  have er2 : r2 = 2 := er2.trans (by decide)
  subst er2
  refine va_sld hx hb hX hbl hbA hS (by unfold vp_in; decide) dL_law_916 ?_
  refine lv_aload_n hx hb dL_law_917 rfl (lv_at hl 3 rfl) ?_
  refine lv_iload_n hx hb dL_law_918 rfl (lv_at hl 0 rfl) ?_
  refine lv_iconst (v := 3) hx hb dL_law_919 (by decide) ?_
  refine lv_iadd hx hb dL_law_920 ?_
  refine lv_topi (fun r3 er3 => ?_)
  have er3 : r3 = 3 := er3.trans (by decide)
  subst er3
  refine va_sld hx hb hX hbl hbA hS (by unfold vp_in; decide) dL_law_921 ?_
  refine lv_aload_n hx hb dL_law_922 rfl (lv_at hl 3 rfl) ?_
  refine lv_iload_n hx hb dL_law_923 rfl (lv_at hl 0 rfl) ?_
  refine lv_iconst (v := 4) hx hb dL_law_924 (by decide) ?_
  refine lv_iadd hx hb dL_law_925 ?_
  refine lv_topi (fun r4 er4 => ?_)
  have er4 : r4 = 4 := er4.trans (by decide)
  subst er4
  refine va_sld hx hb hX hbl hbA hS (by unfold vp_in; decide) dL_law_926 ?_
  refine lv_aload_n hx hb dL_law_927 rfl (lv_at hl 3 rfl) ?_
  refine lv_iload_n hx hb dL_law_928 rfl (lv_at hl 0 rfl) ?_
  refine lv_iconst (v := 5) hx hb dL_law_929 (by decide) ?_
  refine lv_iadd hx hb dL_law_930 ?_
  refine lv_topi (fun r5 er5 => ?_)
  have er5 : r5 = 5 := er5.trans (by decide)
  subst er5
  refine va_sld hx hb hX hbl hbA hS (by unfold vp_in; decide) dL_law_931 ?_
  refine lv_aload_n hx hb dL_law_932 rfl (lv_at hl 3 rfl) ?_
  refine lv_iload_n hx hb dL_law_933 rfl (lv_at hl 0 rfl) ?_
  refine lv_bipush (v := 6) hx hb dL_law_934 (by decide) ?_
  refine lv_iadd hx hb dL_law_936 ?_
  refine lv_topi (fun r6 er6 => ?_)
  have er6 : r6 = 6 := er6.trans (by decide)
  subst er6
  refine va_sld hx hb hX hbl hbA hS (by unfold vp_in; decide) dL_law_937 ?_
  refine ro_callV (n := 6) (As := [.int (xs (1 : Int32).toNatClampNeg), .int (xs (2 : Int32).toNatClampNeg), .int (xs (3 : Int32).toNatClampNeg), .int (xs (4 : Int32).toNatClampNeg), .int (xs (5 : Int32).toNatClampNeg), .int (xs (6 : Int32).toNatClampNeg)]) (rest := []) hx hb hml hown ht hK hP (hD.weaken (fun _ _ _ _ => trivial)) hS hA hE (ct_X10_review l dC dI x0 se fx fse hfx_2 hfse_4 _ (xs (1 : Int32).toNatClampNeg) (xs (2 : Int32).toNatClampNeg) (xs (3 : Int32).toNatClampNeg) (xs (4 : Int32).toNatClampNeg) (xs (5 : Int32).toNatClampNeg) (xs (6 : Int32).toNatClampNeg)) [0, 1] [] rfl (by decide) rfl 0 (ci := 10) rfl rfl rfl gv_L_107 rfl rfl (by decide +kernel) ⟨Nat.le_of_ble_eq_true rfl, Nat.le_of_ble_eq_true rfl⟩ rfl hl.1 (Nat.le_of_ble_eq_true rfl) ⟨Nat.le_of_ble_eq_true rfl, Nat.le_of_ble_eq_true rfl⟩ rfl dL_law_938 (fun H locs hP hS => ?_)
  refine lv_aload_n hx hb dL_law_941 rfl (lv_at hl 1 rfl) ?_
  refine lv_aload_n hx hb dL_law_942 rfl (lv_at hl 3 rfl) ?_
  refine lv_iload_n hx hb dL_law_943 rfl (lv_at hl 0 rfl) ?_
  refine lv_iconst (v := 1) hx hb dL_law_944 (by decide) ?_
  refine lv_iadd hx hb dL_law_945 ?_
  refine lv_topi (fun r7 er7 => ?_)
  have er7 : r7 = 1 := er7.trans (by decide)
  subst er7
  refine va_sld hx hb hX hbl hbA hS (by unfold vp_in; decide) dL_law_946 ?_
  refine lv_aload_n hx hb dL_law_947 rfl (lv_at hl 3 rfl) ?_
  refine lv_iload_n hx hb dL_law_948 rfl (lv_at hl 0 rfl) ?_
  refine lv_iconst (v := 2) hx hb dL_law_949 (by decide) ?_
  refine lv_iadd hx hb dL_law_950 ?_
  refine lv_topi (fun r8 er8 => ?_)
  have er8 : r8 = 2 := er8.trans (by decide)
  subst er8
  refine va_sld hx hb hX hbl hbA hS (by unfold vp_in; decide) dL_law_951 ?_
  refine lv_aload_n hx hb dL_law_952 rfl (lv_at hl 3 rfl) ?_
  refine lv_iload_n hx hb dL_law_953 rfl (lv_at hl 0 rfl) ?_
  refine lv_iconst (v := 3) hx hb dL_law_954 (by decide) ?_
  refine lv_iadd hx hb dL_law_955 ?_
  refine lv_topi (fun r9 er9 => ?_)
  have er9 : r9 = 3 := er9.trans (by decide)
  subst er9
  refine va_sld hx hb hX hbl hbA hS (by unfold vp_in; decide) dL_law_956 ?_
  refine lv_aload_n hx hb dL_law_957 rfl (lv_at hl 3 rfl) ?_
  refine lv_iload_n hx hb dL_law_958 rfl (lv_at hl 0 rfl) ?_
  refine lv_iconst (v := 4) hx hb dL_law_959 (by decide) ?_
  refine lv_iadd hx hb dL_law_960 ?_
  refine lv_topi (fun r10 er10 => ?_)
  have er10 : r10 = 4 := er10.trans (by decide)
  subst er10
  refine va_sld hx hb hX hbl hbA hS (by unfold vp_in; decide) dL_law_961 ?_
  refine lv_aload_n hx hb dL_law_962 rfl (lv_at hl 3 rfl) ?_
  refine lv_iload_n hx hb dL_law_963 rfl (lv_at hl 0 rfl) ?_
  refine lv_iconst (v := 5) hx hb dL_law_964 (by decide) ?_
  refine lv_iadd hx hb dL_law_965 ?_
  refine lv_topi (fun r11 er11 => ?_)
  have er11 : r11 = 5 := er11.trans (by decide)
  subst er11
  refine va_sld hx hb hX hbl hbA hS (by unfold vp_in; decide) dL_law_966 ?_
  refine lv_aload_n hx hb dL_law_967 rfl (lv_at hl 3 rfl) ?_
  refine lv_iload_n hx hb dL_law_968 rfl (lv_at hl 0 rfl) ?_
  refine lv_bipush (v := 6) hx hb dL_law_969 (by decide) ?_
  refine lv_iadd hx hb dL_law_971 ?_
  refine lv_topi (fun r12 er12 => ?_)
  have er12 : r12 = 6 := er12.trans (by decide)
  subst er12
  refine va_sld hx hb hX hbl hbA hS (by unfold vp_in; decide) dL_law_972 ?_
  refine ro_callV (n := 6) (As := [.int (xs (1 : Int32).toNatClampNeg), .int (xs (2 : Int32).toNatClampNeg), .int (xs (3 : Int32).toNatClampNeg), .int (xs (4 : Int32).toNatClampNeg), .int (xs (5 : Int32).toNatClampNeg), .int (xs (6 : Int32).toNatClampNeg)]) (rest := [.int (-2)]) hx hb hml hown ht hK hP (hD.weaken (fun _ _ _ _ => trivial)) hS hA hE (ct_X11_review l dC dI m0 fm hfm_29 _ (xs (1 : Int32).toNatClampNeg) (xs (2 : Int32).toNatClampNeg) (xs (3 : Int32).toNatClampNeg) (xs (4 : Int32).toNatClampNeg) (xs (5 : Int32).toNatClampNeg) (xs (6 : Int32).toNatClampNeg)) [2] [] rfl (by decide) rfl 2 (ci := 11) rfl rfl rfl gv_L_111 rfl rfl (by decide +kernel) ⟨Nat.le_of_ble_eq_true rfl, Nat.le_of_ble_eq_true rfl⟩ rfl hl.1 (Nat.le_of_ble_eq_true rfl) ⟨Nat.le_of_ble_eq_true rfl, Nat.le_of_ble_eq_true rfl⟩ rfl dL_law_973 (fun H locs hP hS => ?_)
  refine lv_icmp_eq (tgt := 1627) hx hb dL_law_976 (by decide) (fun c13 => ?_) (fun c13 => ?_)
  rotate_left
  · exact absurd (by decide) c13
  exact lw_fin hL9 C0 (Nat.le_of_ble_eq_true rfl) (Nat.le_of_ble_eq_true rfl) hS hl
theorem kw_1139 : Cond.methodLink RL 112 yX10_rows ∈ lw_g := lw_at 1139 (by decide +kernel) rfl
theorem kw_1140 : Cond.instanceMethod yX10_rows ∈ lw_g := lw_at 1140 (by decide +kernel) rfl
theorem kw_1141 : Cond.selects RX10 yX10_rows yX10_rows ∈ lw_g := lw_at 1141 (by decide +kernel) rfl
theorem kw_1142 : Cond.code yX10_rows cX10_rows 4 (some .int) ∈ lw_g := lw_at 1142 (by decide +kernel) rfl
theorem gv_L_112 : GoodIn lw_g (wsV RL 112 RX10 yX10_rows (.code yX10_rows cX10_rows 4 (some .int) :: lw_g)) := gi_V kw_1139 kw_1140 kw_1141 kw_1 kw_1142
theorem kw_2062 : Cond.methodLink RL 115 yX11_rows ∈ lw_g := lw_at 2062 (by decide +kernel) rfl
theorem kw_2063 : Cond.instanceMethod yX11_rows ∈ lw_g := lw_at 2063 (by decide +kernel) rfl
theorem kw_2064 : Cond.selects RX11 yX11_rows yX11_rows ∈ lw_g := lw_at 2064 (by decide +kernel) rfl
theorem kw_2065 : Cond.code yX11_rows cX11_rows 3 (some .int) ∈ lw_g := lw_at 2065 (by decide +kernel) rfl
theorem gv_L_115 : GoodIn lw_g (wsV RL 115 RX11 yX11_rows (.code yX11_rows cX11_rows 3 (some .int) :: lw_g)) := gi_V kw_2062 kw_2063 kw_2064 kw_10 kw_2065
set_option maxHeartbeats 4000000 in
set_option maxRecDepth 100000 in
theorem lc_23 {p : Program} {l : Launch} {e : Env} {s : State} {m : MethodId} {below : List Frame} {meth : Method} {c : Code} {b L : Nat} {xs : Nat → Int32} (C0 : lw_At p s m meth c b L xs) (hL : L = 7) (hE : ex_E s) (hEa : ea_E (fun q => s.heap.size ≤ q) s) (dC : Nat → ClassId) (dI : Nat → Nat → Nat) (x0 : Nat) (se : Nat) (fx : List Value) (fse : List Value) (hfx_2 : fx[2]? = some (Value.ref se)) (hfse_4 : fse[4]? = some (Value.int 0)) (m0 : Nat) (fm : List Value) (hfm_29 : fm[29]? = some (Value.int 0)) {ls : Array Slot} {H : Heap} {locs : List Loc} (hK : va_K (dC, dI) vwCl [] s) (hP : va_P (dC, dI) vwCl [(x0, .inr (10, fx)), (se, .inr (6, fse)), (m0, .inr (11, fm))] H) (hD : va_D (fun q => s.heap.size ≤ q) [(x0, .inr (10, fx)), (se, .inr (6, fse)), (m0, .inr (11, fm))]) (hS : va_S (fun q => s.heap.size ≤ q) s.heap H locs) (hl : lv_has ls 4 [(3, .int 0), (2, .ref m0), (1, .ref x0), (0, .ref b)]) : W p l e room_1 s m #[Value.ref b] below meth c H locs 137 78294 (lw_Z below #[Value.ref b] s) (F0 m 981 ls []) := by
  subst hL
  have hL9 : 7 ≤ 7 := Nat.le_refl 7
  obtain ⟨hx, hb, hr, hml, hown, hts, hX, hbl, hlocks, hgv⟩ := id C0
  have hb : c.code = cL_law := hb
  have hown : s.vm.findClass RL = some m.cls := hown
  have ht : ∀ w ∈ lw_g, w.before #[Value.ref b] s = true := fun w h => hts w (List.mem_filter.mp h).1
  have hA : ∀ q : Nat, s.heap.size ≤ q → (fun q => s.heap.size ≤ q) q := fun _ h => h
  have hbA : ¬ (fun q => s.heap.size ≤ q) b := Nat.not_le.mpr hbl
  refine lv_aload_n hx hb dL_law_981 rfl (lv_at hl 2 rfl) ?_
  refine lv_aload_n hx hb dL_law_982 rfl (lv_at hl 3 rfl) ?_
  refine lv_iload_n hx hb dL_law_983 rfl (lv_at hl 0 rfl) ?_
  refine lv_iconst (v := 1) hx hb dL_law_984 (by decide) ?_
  refine lv_iadd hx hb dL_law_985 ?_
  refine lv_topi (fun r1 er1 => ?_)
  have er1 : r1 = 1 := er1.trans (by decide)
  subst er1
  refine va_sld hx hb hX hbl hbA hS (by unfold vp_in; decide) dL_law_986 ?_
  refine lv_aload_n hx hb dL_law_987 rfl (lv_at hl 3 rfl) ?_
  refine lv_iload_n hx hb dL_law_988 rfl (lv_at hl 0 rfl) ?_
  refine lv_iconst (v := 2) hx hb dL_law_989 (by decide) ?_
  refine lv_iadd hx hb dL_law_990 ?_
  refine lv_topi (fun r2 er2 => ?_)
  have er2 : r2 = 2 := er2.trans (by decide)
  subst er2
  refine va_sld hx hb hX hbl hbA hS (by unfold vp_in; decide) dL_law_991 ?_
  refine ro_callV (n := 2) (As := [.int (xs (1 : Int32).toNatClampNeg), .int (xs (2 : Int32).toNatClampNeg)]) (rest := []) hx hb hml hown ht hK hP (hD.weaken (fun _ _ _ _ => trivial)) hS hA hE (ct_X10_rows l dC dI x0 se fx fse hfx_2 hfse_4 _ (xs (1 : Int32).toNatClampNeg) (xs (2 : Int32).toNatClampNeg)) [0, 1] [] rfl (by decide) rfl 0 (ci := 10) rfl rfl rfl gv_L_112 rfl rfl (by decide +kernel) ⟨Nat.le_of_ble_eq_true rfl, Nat.le_of_ble_eq_true rfl⟩ rfl hl.1 (Nat.le_of_ble_eq_true rfl) ⟨Nat.le_of_ble_eq_true rfl, Nat.le_of_ble_eq_true rfl⟩ rfl dL_law_992 (fun H locs hP hS => ?_)
  refine lv_aload_n hx hb dL_law_995 rfl (lv_at hl 1 rfl) ?_
  refine lv_aload_n hx hb dL_law_996 rfl (lv_at hl 3 rfl) ?_
  refine lv_iload_n hx hb dL_law_997 rfl (lv_at hl 0 rfl) ?_
  refine lv_iconst (v := 1) hx hb dL_law_998 (by decide) ?_
  refine lv_iadd hx hb dL_law_999 ?_
  refine lv_topi (fun r3 er3 => ?_)
  have er3 : r3 = 1 := er3.trans (by decide)
  subst er3
  refine va_sld hx hb hX hbl hbA hS (by unfold vp_in; decide) dL_law_1000 ?_
  refine lv_aload_n hx hb dL_law_1001 rfl (lv_at hl 3 rfl) ?_
  refine lv_iload_n hx hb dL_law_1002 rfl (lv_at hl 0 rfl) ?_
  refine lv_iconst (v := 2) hx hb dL_law_1003 (by decide) ?_
  refine lv_iadd hx hb dL_law_1004 ?_
  refine lv_topi (fun r4 er4 => ?_)
  have er4 : r4 = 2 := er4.trans (by decide)
  subst er4
  refine va_sld hx hb hX hbl hbA hS (by unfold vp_in; decide) dL_law_1005 ?_
  refine ro_callV (n := 2) (As := [.int (xs (1 : Int32).toNatClampNeg), .int (xs (2 : Int32).toNatClampNeg)]) (rest := [.int (-2)]) hx hb hml hown ht hK hP (hD.weaken (fun _ _ _ _ => trivial)) hS hA hE (ct_X11_rows l dC dI m0 fm hfm_29 _ (xs (1 : Int32).toNatClampNeg) (xs (2 : Int32).toNatClampNeg)) [2] [] rfl (by decide) rfl 2 (ci := 11) rfl rfl rfl gv_L_115 rfl rfl (by decide +kernel) ⟨Nat.le_of_ble_eq_true rfl, Nat.le_of_ble_eq_true rfl⟩ rfl hl.1 (Nat.le_of_ble_eq_true rfl) ⟨Nat.le_of_ble_eq_true rfl, Nat.le_of_ble_eq_true rfl⟩ rfl dL_law_1006 (fun H locs hP hS => ?_)
  refine lv_icmp_eq (tgt := 1627) hx hb dL_law_1009 (by decide) (fun c5 => ?_) (fun c5 => ?_)
  rotate_left
  · exact absurd (by decide) c5
  exact lw_fin hL9 C0 (Nat.le_of_ble_eq_true rfl) (Nat.le_of_ble_eq_true rfl) hS hl
theorem kw_1143 : Cond.methodLink RL 116 yX10_row ∈ lw_g := lw_at 1143 (by decide +kernel) rfl
theorem kw_1144 : Cond.instanceMethod yX10_row ∈ lw_g := lw_at 1144 (by decide +kernel) rfl
theorem kw_1145 : Cond.selects RX10 yX10_row yX10_row ∈ lw_g := lw_at 1145 (by decide +kernel) rfl
theorem kw_1146 : Cond.code yX10_row cX10_row 7 (some .int) ∈ lw_g := lw_at 1146 (by decide +kernel) rfl
theorem gv_L_116 : GoodIn lw_g (wsV RL 116 RX10 yX10_row (.code yX10_row cX10_row 7 (some .int) :: lw_g)) := gi_V kw_1143 kw_1144 kw_1145 kw_1 kw_1146
theorem kw_2066 : Cond.methodLink RL 119 yX11_row ∈ lw_g := lw_at 2066 (by decide +kernel) rfl
theorem kw_2067 : Cond.instanceMethod yX11_row ∈ lw_g := lw_at 2067 (by decide +kernel) rfl
theorem kw_2068 : Cond.selects RX11 yX11_row yX11_row ∈ lw_g := lw_at 2068 (by decide +kernel) rfl
theorem kw_2069 : Cond.code yX11_row cX11_row 5 (some .int) ∈ lw_g := lw_at 2069 (by decide +kernel) rfl
theorem gv_L_119 : GoodIn lw_g (wsV RL 119 RX11 yX11_row (.code yX11_row cX11_row 5 (some .int) :: lw_g)) := gi_V kw_2066 kw_2067 kw_2068 kw_10 kw_2069
set_option maxHeartbeats 4000000 in
set_option maxRecDepth 100000 in
theorem lc_24 {p : Program} {l : Launch} {e : Env} {s : State} {m : MethodId} {below : List Frame} {meth : Method} {c : Code} {b L : Nat} {xs : Nat → Int32} (C0 : lw_At p s m meth c b L xs) (hL : L = 7) (hE : ex_E s) (hEa : ea_E (fun q => s.heap.size ≤ q) s) (dC : Nat → ClassId) (dI : Nat → Nat → Nat) (x0 : Nat) (se : Nat) (fx : List Value) (fse : List Value) (hfx_2 : fx[2]? = some (Value.ref se)) (hfse_4 : fse[4]? = some (Value.int 0)) (m0 : Nat) (fm : List Value) (hfm_29 : fm[29]? = some (Value.int 0)) {ls : Array Slot} {H : Heap} {locs : List Loc} (hK : va_K (dC, dI) vwCl [] s) (hP : va_P (dC, dI) vwCl [(x0, .inr (10, fx)), (se, .inr (6, fse)), (m0, .inr (11, fm))] H) (hD : va_D (fun q => s.heap.size ≤ q) [(x0, .inr (10, fx)), (se, .inr (6, fse)), (m0, .inr (11, fm))]) (hS : va_S (fun q => s.heap.size ≤ q) s.heap H locs) (hl : lv_has ls 4 [(3, .int 0), (2, .ref m0), (1, .ref x0), (0, .ref b)]) : W p l e room_1 s m #[Value.ref b] below meth c H locs 137 78294 (lw_Z below #[Value.ref b] s) (F0 m 1014 ls []) := by
  subst hL
  have hL9 : 7 ≤ 7 := Nat.le_refl 7
  obtain ⟨hx, hb, hr, hml, hown, hts, hX, hbl, hlocks, hgv⟩ := id C0
  have hb : c.code = cL_law := hb
  have hown : s.vm.findClass RL = some m.cls := hown
  have ht : ∀ w ∈ lw_g, w.before #[Value.ref b] s = true := fun w h => hts w (List.mem_filter.mp h).1
  have hA : ∀ q : Nat, s.heap.size ≤ q → (fun q => s.heap.size ≤ q) q := fun _ h => h
  have hbA : ¬ (fun q => s.heap.size ≤ q) b := Nat.not_le.mpr hbl
  refine lv_aload_n hx hb dL_law_1014 rfl (lv_at hl 2 rfl) ?_
  refine lv_aload_n hx hb dL_law_1015 rfl (lv_at hl 3 rfl) ?_
  refine lv_iload_n hx hb dL_law_1016 rfl (lv_at hl 0 rfl) ?_
  refine lv_iconst (v := 1) hx hb dL_law_1017 (by decide) ?_
  refine lv_iadd hx hb dL_law_1018 ?_
  refine lv_topi (fun r1 er1 => ?_)
  have er1 : r1 = 1 := er1.trans (by decide)
  subst er1
  refine va_sld hx hb hX hbl hbA hS (by unfold vp_in; decide) dL_law_1019 ?_
  refine lv_aload_n hx hb dL_law_1020 rfl (lv_at hl 3 rfl) ?_
  refine lv_iload_n hx hb dL_law_1021 rfl (lv_at hl 0 rfl) ?_
  refine lv_iconst (v := 2) hx hb dL_law_1022 (by decide) ?_
  refine lv_iadd hx hb dL_law_1023 ?_
  refine lv_topi (fun r2 er2 => ?_)
  have er2 : r2 = 2 := er2.trans (by decide)
  subst er2
  refine va_sld hx hb hX hbl hbA hS (by unfold vp_in; decide) dL_law_1024 ?_
  refine lv_aload_n hx hb dL_law_1025 rfl (lv_at hl 3 rfl) ?_
  refine lv_iload_n hx hb dL_law_1026 rfl (lv_at hl 0 rfl) ?_
  refine lv_iconst (v := 3) hx hb dL_law_1027 (by decide) ?_
  refine lv_iadd hx hb dL_law_1028 ?_
  refine lv_topi (fun r3 er3 => ?_)
  have er3 : r3 = 3 := er3.trans (by decide)
  subst er3
  refine va_sld hx hb hX hbl hbA hS (by unfold vp_in; decide) dL_law_1029 ?_
  refine ro_callV (n := 3) (As := [.int (xs (1 : Int32).toNatClampNeg), .int (xs (2 : Int32).toNatClampNeg), .int (xs (3 : Int32).toNatClampNeg)]) (rest := []) hx hb hml hown ht hK hP (hD.weaken (fun _ _ _ _ => trivial)) hS hA hE (ct_X10_row l dC dI x0 se fx fse hfx_2 hfse_4 _ (xs (1 : Int32).toNatClampNeg) (xs (2 : Int32).toNatClampNeg) (xs (3 : Int32).toNatClampNeg)) [0, 1] [] rfl (by decide) rfl 0 (ci := 10) rfl rfl rfl gv_L_116 rfl rfl (by decide +kernel) ⟨Nat.le_of_ble_eq_true rfl, Nat.le_of_ble_eq_true rfl⟩ rfl hl.1 (Nat.le_of_ble_eq_true rfl) ⟨Nat.le_of_ble_eq_true rfl, Nat.le_of_ble_eq_true rfl⟩ rfl dL_law_1030 (fun H locs hP hS => ?_)
  refine lv_aload_n hx hb dL_law_1033 rfl (lv_at hl 1 rfl) ?_
  refine lv_aload_n hx hb dL_law_1034 rfl (lv_at hl 3 rfl) ?_
  refine lv_iload_n hx hb dL_law_1035 rfl (lv_at hl 0 rfl) ?_
  refine lv_iconst (v := 1) hx hb dL_law_1036 (by decide) ?_
  refine lv_iadd hx hb dL_law_1037 ?_
  refine lv_topi (fun r4 er4 => ?_)
  have er4 : r4 = 1 := er4.trans (by decide)
  subst er4
  refine va_sld hx hb hX hbl hbA hS (by unfold vp_in; decide) dL_law_1038 ?_
  refine lv_aload_n hx hb dL_law_1039 rfl (lv_at hl 3 rfl) ?_
  refine lv_iload_n hx hb dL_law_1040 rfl (lv_at hl 0 rfl) ?_
  refine lv_iconst (v := 2) hx hb dL_law_1041 (by decide) ?_
  refine lv_iadd hx hb dL_law_1042 ?_
  refine lv_topi (fun r5 er5 => ?_)
  have er5 : r5 = 2 := er5.trans (by decide)
  subst er5
  refine va_sld hx hb hX hbl hbA hS (by unfold vp_in; decide) dL_law_1043 ?_
  refine lv_aload_n hx hb dL_law_1044 rfl (lv_at hl 3 rfl) ?_
  refine lv_iload_n hx hb dL_law_1045 rfl (lv_at hl 0 rfl) ?_
  refine lv_iconst (v := 3) hx hb dL_law_1046 (by decide) ?_
  refine lv_iadd hx hb dL_law_1047 ?_
  refine lv_topi (fun r6 er6 => ?_)
  have er6 : r6 = 3 := er6.trans (by decide)
  subst er6
  refine va_sld hx hb hX hbl hbA hS (by unfold vp_in; decide) dL_law_1048 ?_
  refine ro_callV (n := 3) (As := [.int (xs (1 : Int32).toNatClampNeg), .int (xs (2 : Int32).toNatClampNeg), .int (xs (3 : Int32).toNatClampNeg)]) (rest := [.int (-2)]) hx hb hml hown ht hK hP (hD.weaken (fun _ _ _ _ => trivial)) hS hA hE (ct_X11_row l dC dI m0 fm hfm_29 _ (xs (1 : Int32).toNatClampNeg) (xs (2 : Int32).toNatClampNeg) (xs (3 : Int32).toNatClampNeg)) [2] [] rfl (by decide) rfl 2 (ci := 11) rfl rfl rfl gv_L_119 rfl rfl (by decide +kernel) ⟨Nat.le_of_ble_eq_true rfl, Nat.le_of_ble_eq_true rfl⟩ rfl hl.1 (Nat.le_of_ble_eq_true rfl) ⟨Nat.le_of_ble_eq_true rfl, Nat.le_of_ble_eq_true rfl⟩ rfl dL_law_1049 (fun H locs hP hS => ?_)
  refine lv_icmp_eq (tgt := 1627) hx hb dL_law_1052 (by decide) (fun c7 => ?_) (fun c7 => ?_)
  rotate_left
  · exact absurd (by decide) c7
  exact lw_fin hL9 C0 (Nat.le_of_ble_eq_true rfl) (Nat.le_of_ble_eq_true rfl) hS hl
theorem kw_1147 : Cond.methodLink RL 120 yX10_state ∈ lw_g := lw_at 1147 (by decide +kernel) rfl
theorem kw_1148 : Cond.instanceMethod yX10_state ∈ lw_g := lw_at 1148 (by decide +kernel) rfl
theorem kw_1149 : Cond.selects RX10 yX10_state yX10_state ∈ lw_g := lw_at 1149 (by decide +kernel) rfl
theorem kw_1150 : Cond.code yX10_state cX10_state 4 (some .int) ∈ lw_g := lw_at 1150 (by decide +kernel) rfl
theorem gv_L_120 : GoodIn lw_g (wsV RL 120 RX10 yX10_state (.code yX10_state cX10_state 4 (some .int) :: lw_g)) := gi_V kw_1147 kw_1148 kw_1149 kw_1 kw_1150
theorem kw_2070 : Cond.methodLink RL 123 yX11_state ∈ lw_g := lw_at 2070 (by decide +kernel) rfl
theorem kw_2071 : Cond.instanceMethod yX11_state ∈ lw_g := lw_at 2071 (by decide +kernel) rfl
theorem kw_2072 : Cond.selects RX11 yX11_state yX11_state ∈ lw_g := lw_at 2072 (by decide +kernel) rfl
theorem kw_2073 : Cond.code yX11_state cX11_state 3 (some .int) ∈ lw_g := lw_at 2073 (by decide +kernel) rfl
theorem gv_L_123 : GoodIn lw_g (wsV RL 123 RX11 yX11_state (.code yX11_state cX11_state 3 (some .int) :: lw_g)) := gi_V kw_2070 kw_2071 kw_2072 kw_10 kw_2073
set_option maxHeartbeats 4000000 in
set_option maxRecDepth 100000 in
theorem lc_25 {p : Program} {l : Launch} {e : Env} {s : State} {m : MethodId} {below : List Frame} {meth : Method} {c : Code} {b L : Nat} {xs : Nat → Int32} (C0 : lw_At p s m meth c b L xs) (hL : L = 7) (hE : ex_E s) (hEa : ea_E (fun q => s.heap.size ≤ q) s) (dC : Nat → ClassId) (dI : Nat → Nat → Nat) (x0 : Nat) (se : Nat) (fx : List Value) (fse : List Value) (hfx_2 : fx[2]? = some (Value.ref se)) (hfse_4 : fse[4]? = some (Value.int 0)) (m0 : Nat) (fm : List Value) (hfm_29 : fm[29]? = some (Value.int 0)) {ls : Array Slot} {H : Heap} {locs : List Loc} (hK : va_K (dC, dI) vwCl [] s) (hP : va_P (dC, dI) vwCl [(x0, .inr (10, fx)), (se, .inr (6, fse)), (m0, .inr (11, fm))] H) (hD : va_D (fun q => s.heap.size ≤ q) [(x0, .inr (10, fx)), (se, .inr (6, fse)), (m0, .inr (11, fm))]) (hS : va_S (fun q => s.heap.size ≤ q) s.heap H locs) (hl : lv_has ls 4 [(3, .int 0), (2, .ref m0), (1, .ref x0), (0, .ref b)]) : W p l e room_1 s m #[Value.ref b] below meth c H locs 137 78294 (lw_Z below #[Value.ref b] s) (F0 m 1057 ls []) := by
  subst hL
  have hL9 : 7 ≤ 7 := Nat.le_refl 7
  obtain ⟨hx, hb, hr, hml, hown, hts, hX, hbl, hlocks, hgv⟩ := id C0
  have hb : c.code = cL_law := hb
  have hown : s.vm.findClass RL = some m.cls := hown
  have ht : ∀ w ∈ lw_g, w.before #[Value.ref b] s = true := fun w h => hts w (List.mem_filter.mp h).1
  have hA : ∀ q : Nat, s.heap.size ≤ q → (fun q => s.heap.size ≤ q) q := fun _ h => h
  have hbA : ¬ (fun q => s.heap.size ≤ q) b := Nat.not_le.mpr hbl
  refine lv_aload_n hx hb dL_law_1057 rfl (lv_at hl 2 rfl) ?_
  refine lv_aload_n hx hb dL_law_1058 rfl (lv_at hl 3 rfl) ?_
  refine lv_iload_n hx hb dL_law_1059 rfl (lv_at hl 0 rfl) ?_
  refine lv_iconst (v := 1) hx hb dL_law_1060 (by decide) ?_
  refine lv_iadd hx hb dL_law_1061 ?_
  refine lv_topi (fun r1 er1 => ?_)
  have er1 : r1 = 1 := er1.trans (by decide)
  subst er1
  refine va_sld hx hb hX hbl hbA hS (by unfold vp_in; decide) dL_law_1062 ?_
  refine lv_aload_n hx hb dL_law_1063 rfl (lv_at hl 3 rfl) ?_
  refine lv_iload_n hx hb dL_law_1064 rfl (lv_at hl 0 rfl) ?_
  refine lv_iconst (v := 2) hx hb dL_law_1065 (by decide) ?_
  refine lv_iadd hx hb dL_law_1066 ?_
  refine lv_topi (fun r2 er2 => ?_)
  have er2 : r2 = 2 := er2.trans (by decide)
  subst er2
  refine va_sld hx hb hX hbl hbA hS (by unfold vp_in; decide) dL_law_1067 ?_
  refine ro_callV (n := 2) (As := [.int (xs (1 : Int32).toNatClampNeg), .int (xs (2 : Int32).toNatClampNeg)]) (rest := []) hx hb hml hown ht hK hP (hD.weaken (fun _ _ _ _ => trivial)) hS hA hE (ct_X10_state l dC dI x0 se fx fse hfx_2 hfse_4 _ (xs (1 : Int32).toNatClampNeg) (xs (2 : Int32).toNatClampNeg)) [0, 1] [] rfl (by decide) rfl 0 (ci := 10) rfl rfl rfl gv_L_120 rfl rfl (by decide +kernel) ⟨Nat.le_of_ble_eq_true rfl, Nat.le_of_ble_eq_true rfl⟩ rfl hl.1 (Nat.le_of_ble_eq_true rfl) ⟨Nat.le_of_ble_eq_true rfl, Nat.le_of_ble_eq_true rfl⟩ rfl dL_law_1068 (fun H locs hP hS => ?_)
  refine lv_aload_n hx hb dL_law_1071 rfl (lv_at hl 1 rfl) ?_
  refine lv_aload_n hx hb dL_law_1072 rfl (lv_at hl 3 rfl) ?_
  refine lv_iload_n hx hb dL_law_1073 rfl (lv_at hl 0 rfl) ?_
  refine lv_iconst (v := 1) hx hb dL_law_1074 (by decide) ?_
  refine lv_iadd hx hb dL_law_1075 ?_
  refine lv_topi (fun r3 er3 => ?_)
  have er3 : r3 = 1 := er3.trans (by decide)
  subst er3
  refine va_sld hx hb hX hbl hbA hS (by unfold vp_in; decide) dL_law_1076 ?_
  refine lv_aload_n hx hb dL_law_1077 rfl (lv_at hl 3 rfl) ?_
  refine lv_iload_n hx hb dL_law_1078 rfl (lv_at hl 0 rfl) ?_
  refine lv_iconst (v := 2) hx hb dL_law_1079 (by decide) ?_
  refine lv_iadd hx hb dL_law_1080 ?_
  refine lv_topi (fun r4 er4 => ?_)
  have er4 : r4 = 2 := er4.trans (by decide)
  subst er4
  refine va_sld hx hb hX hbl hbA hS (by unfold vp_in; decide) dL_law_1081 ?_
  refine ro_callV (n := 2) (As := [.int (xs (1 : Int32).toNatClampNeg), .int (xs (2 : Int32).toNatClampNeg)]) (rest := [.int (-2)]) hx hb hml hown ht hK hP (hD.weaken (fun _ _ _ _ => trivial)) hS hA hE (ct_X11_state l dC dI m0 fm hfm_29 _ (xs (1 : Int32).toNatClampNeg) (xs (2 : Int32).toNatClampNeg)) [2] [] rfl (by decide) rfl 2 (ci := 11) rfl rfl rfl gv_L_123 rfl rfl (by decide +kernel) ⟨Nat.le_of_ble_eq_true rfl, Nat.le_of_ble_eq_true rfl⟩ rfl hl.1 (Nat.le_of_ble_eq_true rfl) ⟨Nat.le_of_ble_eq_true rfl, Nat.le_of_ble_eq_true rfl⟩ rfl dL_law_1082 (fun H locs hP hS => ?_)
  refine lv_icmp_eq (tgt := 1627) hx hb dL_law_1085 (by decide) (fun c5 => ?_) (fun c5 => ?_)
  rotate_left
  · exact absurd (by decide) c5
  exact lw_fin hL9 C0 (Nat.le_of_ble_eq_true rfl) (Nat.le_of_ble_eq_true rfl) hS hl
theorem kw_1151 : Cond.methodLink RL 124 yX10_onField ∈ lw_g := lw_at 1151 (by decide +kernel) rfl
theorem kw_1152 : Cond.instanceMethod yX10_onField ∈ lw_g := lw_at 1152 (by decide +kernel) rfl
theorem kw_1153 : Cond.selects RX10 yX10_onField yX10_onField ∈ lw_g := lw_at 1153 (by decide +kernel) rfl
theorem kw_1154 : Cond.code yX10_onField cX10_onField 5 (some .int) ∈ lw_g := lw_at 1154 (by decide +kernel) rfl
theorem gv_L_124 : GoodIn lw_g (wsV RL 124 RX10 yX10_onField (.code yX10_onField cX10_onField 5 (some .int) :: lw_g)) := gi_V kw_1151 kw_1152 kw_1153 kw_1 kw_1154
theorem kw_2074 : Cond.methodLink RL 127 yX11_onField ∈ lw_g := lw_at 2074 (by decide +kernel) rfl
theorem kw_2075 : Cond.instanceMethod yX11_onField ∈ lw_g := lw_at 2075 (by decide +kernel) rfl
theorem kw_2076 : Cond.selects RX11 yX11_onField yX11_onField ∈ lw_g := lw_at 2076 (by decide +kernel) rfl
theorem kw_2077 : Cond.code yX11_onField cX11_onField 5 (some .int) ∈ lw_g := lw_at 2077 (by decide +kernel) rfl
theorem gv_L_127 : GoodIn lw_g (wsV RL 127 RX11 yX11_onField (.code yX11_onField cX11_onField 5 (some .int) :: lw_g)) := gi_V kw_2074 kw_2075 kw_2076 kw_10 kw_2077
set_option maxHeartbeats 4000000 in
set_option maxRecDepth 100000 in
theorem lc_26 {p : Program} {l : Launch} {e : Env} {s : State} {m : MethodId} {below : List Frame} {meth : Method} {c : Code} {b L : Nat} {xs : Nat → Int32} (C0 : lw_At p s m meth c b L xs) (hL : L = 7) (hE : ex_E s) (hEa : ea_E (fun q => s.heap.size ≤ q) s) (dC : Nat → ClassId) (dI : Nat → Nat → Nat) (x0 : Nat) (se : Nat) (fx : List Value) (fse : List Value) (hfx_2 : fx[2]? = some (Value.ref se)) (hfse_4 : fse[4]? = some (Value.int 0)) (m0 : Nat) (fm : List Value) (hfm_29 : fm[29]? = some (Value.int 0)) {ls : Array Slot} {H : Heap} {locs : List Loc} (hK : va_K (dC, dI) vwCl [] s) (hP : va_P (dC, dI) vwCl [(x0, .inr (10, fx)), (se, .inr (6, fse)), (m0, .inr (11, fm))] H) (hD : va_D (fun q => s.heap.size ≤ q) [(x0, .inr (10, fx)), (se, .inr (6, fse)), (m0, .inr (11, fm))]) (hS : va_S (fun q => s.heap.size ≤ q) s.heap H locs) (hl : lv_has ls 4 [(3, .int 0), (2, .ref m0), (1, .ref x0), (0, .ref b)]) : W p l e room_1 s m #[Value.ref b] below meth c H locs 137 78294 (lw_Z below #[Value.ref b] s) (F0 m 1090 ls []) := by
  subst hL
  have hL9 : 7 ≤ 7 := Nat.le_refl 7
  obtain ⟨hx, hb, hr, hml, hown, hts, hX, hbl, hlocks, hgv⟩ := id C0
  have hb : c.code = cL_law := hb
  have hown : s.vm.findClass RL = some m.cls := hown
  have ht : ∀ w ∈ lw_g, w.before #[Value.ref b] s = true := fun w h => hts w (List.mem_filter.mp h).1
  have hA : ∀ q : Nat, s.heap.size ≤ q → (fun q => s.heap.size ≤ q) q := fun _ h => h
  have hbA : ¬ (fun q => s.heap.size ≤ q) b := Nat.not_le.mpr hbl
  refine lv_aload_n hx hb dL_law_1090 rfl (lv_at hl 2 rfl) ?_
  refine lv_aload_n hx hb dL_law_1091 rfl (lv_at hl 3 rfl) ?_
  refine lv_iload_n hx hb dL_law_1092 rfl (lv_at hl 0 rfl) ?_
  refine lv_iconst (v := 1) hx hb dL_law_1093 (by decide) ?_
  refine lv_iadd hx hb dL_law_1094 ?_
  refine lv_topi (fun r1 er1 => ?_)
  have er1 : r1 = 1 := er1.trans (by decide)
  subst er1
  refine va_sld hx hb hX hbl hbA hS (by unfold vp_in; decide) dL_law_1095 ?_
  refine lv_aload_n hx hb dL_law_1096 rfl (lv_at hl 3 rfl) ?_
  refine lv_iload_n hx hb dL_law_1097 rfl (lv_at hl 0 rfl) ?_
  refine lv_iconst (v := 2) hx hb dL_law_1098 (by decide) ?_
  refine lv_iadd hx hb dL_law_1099 ?_
  refine lv_topi (fun r2 er2 => ?_)
  have er2 : r2 = 2 := er2.trans (by decide)
  subst er2
  refine va_sld hx hb hX hbl hbA hS (by unfold vp_in; decide) dL_law_1100 ?_
  refine lv_aload_n hx hb dL_law_1101 rfl (lv_at hl 3 rfl) ?_
  refine lv_iload_n hx hb dL_law_1102 rfl (lv_at hl 0 rfl) ?_
  refine lv_iconst (v := 3) hx hb dL_law_1103 (by decide) ?_
  refine lv_iadd hx hb dL_law_1104 ?_
  refine lv_topi (fun r3 er3 => ?_)
  have er3 : r3 = 3 := er3.trans (by decide)
  subst er3
  refine va_sld hx hb hX hbl hbA hS (by unfold vp_in; decide) dL_law_1105 ?_
  refine ro_callV (n := 3) (As := [.int (xs (1 : Int32).toNatClampNeg), .int (xs (2 : Int32).toNatClampNeg), .int (xs (3 : Int32).toNatClampNeg)]) (rest := []) hx hb hml hown ht hK hP (hD.weaken (fun _ _ _ _ => trivial)) hS hA hE (ct_X10_onField l dC dI x0 se fx fse hfx_2 hfse_4 _ (xs (1 : Int32).toNatClampNeg) (xs (2 : Int32).toNatClampNeg) (xs (3 : Int32).toNatClampNeg)) [0, 1] [] rfl (by decide) rfl 0 (ci := 10) rfl rfl rfl gv_L_124 rfl rfl (by decide +kernel) ⟨Nat.le_of_ble_eq_true rfl, Nat.le_of_ble_eq_true rfl⟩ rfl hl.1 (Nat.le_of_ble_eq_true rfl) ⟨Nat.le_of_ble_eq_true rfl, Nat.le_of_ble_eq_true rfl⟩ rfl dL_law_1106 (fun H locs hP hS => ?_)
  refine lv_aload_n hx hb dL_law_1109 rfl (lv_at hl 1 rfl) ?_
  refine lv_aload_n hx hb dL_law_1110 rfl (lv_at hl 3 rfl) ?_
  refine lv_iload_n hx hb dL_law_1111 rfl (lv_at hl 0 rfl) ?_
  refine lv_iconst (v := 1) hx hb dL_law_1112 (by decide) ?_
  refine lv_iadd hx hb dL_law_1113 ?_
  refine lv_topi (fun r4 er4 => ?_)
  have er4 : r4 = 1 := er4.trans (by decide)
  subst er4
  refine va_sld hx hb hX hbl hbA hS (by unfold vp_in; decide) dL_law_1114 ?_
  refine lv_aload_n hx hb dL_law_1115 rfl (lv_at hl 3 rfl) ?_
  refine lv_iload_n hx hb dL_law_1116 rfl (lv_at hl 0 rfl) ?_
  refine lv_iconst (v := 2) hx hb dL_law_1117 (by decide) ?_
  refine lv_iadd hx hb dL_law_1118 ?_
  refine lv_topi (fun r5 er5 => ?_)
  have er5 : r5 = 2 := er5.trans (by decide)
  subst er5
  refine va_sld hx hb hX hbl hbA hS (by unfold vp_in; decide) dL_law_1119 ?_
  refine lv_aload_n hx hb dL_law_1120 rfl (lv_at hl 3 rfl) ?_
  refine lv_iload_n hx hb dL_law_1121 rfl (lv_at hl 0 rfl) ?_
  refine lv_iconst (v := 3) hx hb dL_law_1122 (by decide) ?_
  refine lv_iadd hx hb dL_law_1123 ?_
  refine lv_topi (fun r6 er6 => ?_)
  have er6 : r6 = 3 := er6.trans (by decide)
  subst er6
  refine va_sld hx hb hX hbl hbA hS (by unfold vp_in; decide) dL_law_1124 ?_
  refine ro_callV (n := 3) (As := [.int (xs (1 : Int32).toNatClampNeg), .int (xs (2 : Int32).toNatClampNeg), .int (xs (3 : Int32).toNatClampNeg)]) (rest := [.int (-2)]) hx hb hml hown ht hK hP (hD.weaken (fun _ _ _ _ => trivial)) hS hA hE (ct_X11_onField l dC dI m0 fm hfm_29 _ (xs (1 : Int32).toNatClampNeg) (xs (2 : Int32).toNatClampNeg) (xs (3 : Int32).toNatClampNeg)) [2] [] rfl (by decide) rfl 2 (ci := 11) rfl rfl rfl gv_L_127 rfl rfl (by decide +kernel) ⟨Nat.le_of_ble_eq_true rfl, Nat.le_of_ble_eq_true rfl⟩ rfl hl.1 (Nat.le_of_ble_eq_true rfl) ⟨Nat.le_of_ble_eq_true rfl, Nat.le_of_ble_eq_true rfl⟩ rfl dL_law_1125 (fun H locs hP hS => ?_)
  refine lv_icmp_eq (tgt := 1627) hx hb dL_law_1128 (by decide) (fun c7 => ?_) (fun c7 => ?_)
  rotate_left
  · exact absurd (by decide) c7
  exact lw_fin hL9 C0 (Nat.le_of_ble_eq_true rfl) (Nat.le_of_ble_eq_true rfl) hS hl
theorem kw_1156 : Cond.methodLink RL 128 yX10_table ∈ lw_g := lw_at 1156 (by decide +kernel) rfl
theorem kw_1157 : Cond.instanceMethod yX10_table ∈ lw_g := lw_at 1157 (by decide +kernel) rfl
theorem kw_1158 : Cond.selects RX10 yX10_table yX10_table ∈ lw_g := lw_at 1158 (by decide +kernel) rfl
theorem kw_1159 : Cond.code yX10_table cX10_table 7 (some .int) ∈ lw_g := lw_at 1159 (by decide +kernel) rfl
theorem gv_L_128 : GoodIn lw_g (wsV RL 128 RX10 yX10_table (.code yX10_table cX10_table 7 (some .int) :: lw_g)) := gi_V kw_1156 kw_1157 kw_1158 kw_1 kw_1159
theorem kw_2078 : Cond.methodLink RL 131 yX11_table ∈ lw_g := lw_at 2078 (by decide +kernel) rfl
theorem kw_2079 : Cond.instanceMethod yX11_table ∈ lw_g := lw_at 2079 (by decide +kernel) rfl
theorem kw_2080 : Cond.selects RX11 yX11_table yX11_table ∈ lw_g := lw_at 2080 (by decide +kernel) rfl
theorem kw_2081 : Cond.code yX11_table cX11_table 5 (some .int) ∈ lw_g := lw_at 2081 (by decide +kernel) rfl
theorem gv_L_131 : GoodIn lw_g (wsV RL 131 RX11 yX11_table (.code yX11_table cX11_table 5 (some .int) :: lw_g)) := gi_V kw_2078 kw_2079 kw_2080 kw_10 kw_2081
set_option maxHeartbeats 4000000 in
set_option maxRecDepth 100000 in
theorem lc_27 {p : Program} {l : Launch} {e : Env} {s : State} {m : MethodId} {below : List Frame} {meth : Method} {c : Code} {b L : Nat} {xs : Nat → Int32} (C0 : lw_At p s m meth c b L xs) (hL : L = 7) (hE : ex_E s) (hEa : ea_E (fun q => s.heap.size ≤ q) s) (dC : Nat → ClassId) (dI : Nat → Nat → Nat) (x0 : Nat) (se : Nat) (fx : List Value) (fse : List Value) (hfx_2 : fx[2]? = some (Value.ref se)) (hfse_2 : fse[2]? = some (Value.int 0)) (m0 : Nat) (fm : List Value) (hfm_6 : fm[6]? = some (Value.int 0)) {ls : Array Slot} {H : Heap} {locs : List Loc} (hK : va_K (dC, dI) vwCl [] s) (hP : va_P (dC, dI) vwCl [(x0, .inr (10, fx)), (se, .inr (6, fse)), (m0, .inr (11, fm))] H) (hD : va_D (fun q => s.heap.size ≤ q) [(x0, .inr (10, fx)), (se, .inr (6, fse)), (m0, .inr (11, fm))]) (hS : va_S (fun q => s.heap.size ≤ q) s.heap H locs) (hl : lv_has ls 4 [(3, .int 0), (2, .ref m0), (1, .ref x0), (0, .ref b)]) : W p l e room_1 s m #[Value.ref b] below meth c H locs 137 78294 (lw_Z below #[Value.ref b] s) (F0 m 1133 ls []) := by
  subst hL
  have hL9 : 7 ≤ 7 := Nat.le_refl 7
  obtain ⟨hx, hb, hr, hml, hown, hts, hX, hbl, hlocks, hgv⟩ := id C0
  have hb : c.code = cL_law := hb
  have hown : s.vm.findClass RL = some m.cls := hown
  have ht : ∀ w ∈ lw_g, w.before #[Value.ref b] s = true := fun w h => hts w (List.mem_filter.mp h).1
  have hA : ∀ q : Nat, s.heap.size ≤ q → (fun q => s.heap.size ≤ q) q := fun _ h => h
  have hbA : ¬ (fun q => s.heap.size ≤ q) b := Nat.not_le.mpr hbl
  refine lv_aload_n hx hb dL_law_1133 rfl (lv_at hl 2 rfl) ?_
  refine lv_aload_n hx hb dL_law_1134 rfl (lv_at hl 3 rfl) ?_
  refine lv_iload_n hx hb dL_law_1135 rfl (lv_at hl 0 rfl) ?_
  refine lv_iconst (v := 1) hx hb dL_law_1136 (by decide) ?_
  refine lv_iadd hx hb dL_law_1137 ?_
  refine lv_topi (fun r1 er1 => ?_)
  have er1 : r1 = 1 := er1.trans (by decide)
  subst er1
  refine va_sld hx hb hX hbl hbA hS (by unfold vp_in; decide) dL_law_1138 ?_
  refine lv_aload_n hx hb dL_law_1139 rfl (lv_at hl 3 rfl) ?_
  refine lv_iload_n hx hb dL_law_1140 rfl (lv_at hl 0 rfl) ?_
  refine lv_iconst (v := 2) hx hb dL_law_1141 (by decide) ?_
  refine lv_iadd hx hb dL_law_1142 ?_
  refine lv_topi (fun r2 er2 => ?_)
  have er2 : r2 = 2 := er2.trans (by decide)
  subst er2
  refine va_sld hx hb hX hbl hbA hS (by unfold vp_in; decide) dL_law_1143 ?_
  refine lv_aload_n hx hb dL_law_1144 rfl (lv_at hl 3 rfl) ?_
  refine lv_iload_n hx hb dL_law_1145 rfl (lv_at hl 0 rfl) ?_
  refine lv_iconst (v := 3) hx hb dL_law_1146 (by decide) ?_
  refine lv_iadd hx hb dL_law_1147 ?_
  refine lv_topi (fun r3 er3 => ?_)
  have er3 : r3 = 3 := er3.trans (by decide)
  subst er3
  refine va_sld hx hb hX hbl hbA hS (by unfold vp_in; decide) dL_law_1148 ?_
  refine lv_aload_n hx hb dL_law_1149 rfl (lv_at hl 3 rfl) ?_
  refine lv_iload_n hx hb dL_law_1150 rfl (lv_at hl 0 rfl) ?_
  refine lv_iconst (v := 4) hx hb dL_law_1151 (by decide) ?_
  refine lv_iadd hx hb dL_law_1152 ?_
  refine lv_topi (fun r4 er4 => ?_)
  have er4 : r4 = 4 := er4.trans (by decide)
  subst er4
  refine va_sld hx hb hX hbl hbA hS (by unfold vp_in; decide) dL_law_1153 ?_
  refine ro_callV (n := 4) (As := [.int (xs (1 : Int32).toNatClampNeg), .int (xs (2 : Int32).toNatClampNeg), .int (xs (3 : Int32).toNatClampNeg), .int (xs (4 : Int32).toNatClampNeg)]) (rest := []) hx hb hml hown ht hK hP (hD.weaken (fun _ _ _ _ => trivial)) hS hA hE (ct_X10_table l dC dI x0 se fx fse hfx_2 hfse_2 _ (xs (1 : Int32).toNatClampNeg) (xs (2 : Int32).toNatClampNeg) (xs (3 : Int32).toNatClampNeg) (xs (4 : Int32).toNatClampNeg)) [0, 1] [] rfl (by decide) rfl 0 (ci := 10) rfl rfl rfl gv_L_128 rfl rfl (by decide +kernel) ⟨Nat.le_of_ble_eq_true rfl, Nat.le_of_ble_eq_true rfl⟩ rfl hl.1 (Nat.le_of_ble_eq_true rfl) ⟨Nat.le_of_ble_eq_true rfl, Nat.le_of_ble_eq_true rfl⟩ rfl dL_law_1154 (fun H locs hP hS => ?_)
  refine lv_aload_n hx hb dL_law_1157 rfl (lv_at hl 1 rfl) ?_
  refine lv_aload_n hx hb dL_law_1158 rfl (lv_at hl 3 rfl) ?_
  refine lv_iload_n hx hb dL_law_1159 rfl (lv_at hl 0 rfl) ?_
  refine lv_iconst (v := 1) hx hb dL_law_1160 (by decide) ?_
  refine lv_iadd hx hb dL_law_1161 ?_
  refine lv_topi (fun r5 er5 => ?_)
  have er5 : r5 = 1 := er5.trans (by decide)
  subst er5
  refine va_sld hx hb hX hbl hbA hS (by unfold vp_in; decide) dL_law_1162 ?_
  refine lv_aload_n hx hb dL_law_1163 rfl (lv_at hl 3 rfl) ?_
  refine lv_iload_n hx hb dL_law_1164 rfl (lv_at hl 0 rfl) ?_
  refine lv_iconst (v := 2) hx hb dL_law_1165 (by decide) ?_
  refine lv_iadd hx hb dL_law_1166 ?_
  refine lv_topi (fun r6 er6 => ?_)
  have er6 : r6 = 2 := er6.trans (by decide)
  subst er6
  refine va_sld hx hb hX hbl hbA hS (by unfold vp_in; decide) dL_law_1167 ?_
  refine lv_aload_n hx hb dL_law_1168 rfl (lv_at hl 3 rfl) ?_
  refine lv_iload_n hx hb dL_law_1169 rfl (lv_at hl 0 rfl) ?_
  refine lv_iconst (v := 3) hx hb dL_law_1170 (by decide) ?_
  refine lv_iadd hx hb dL_law_1171 ?_
  refine lv_topi (fun r7 er7 => ?_)
  have er7 : r7 = 3 := er7.trans (by decide)
  subst er7
  refine va_sld hx hb hX hbl hbA hS (by unfold vp_in; decide) dL_law_1172 ?_
  refine lv_aload_n hx hb dL_law_1173 rfl (lv_at hl 3 rfl) ?_
  refine lv_iload_n hx hb dL_law_1174 rfl (lv_at hl 0 rfl) ?_
  refine lv_iconst (v := 4) hx hb dL_law_1175 (by decide) ?_
  refine lv_iadd hx hb dL_law_1176 ?_
  refine lv_topi (fun r8 er8 => ?_)
  have er8 : r8 = 4 := er8.trans (by decide)
  subst er8
  refine va_sld hx hb hX hbl hbA hS (by unfold vp_in; decide) dL_law_1177 ?_
  refine ro_callV (n := 4) (As := [.int (xs (1 : Int32).toNatClampNeg), .int (xs (2 : Int32).toNatClampNeg), .int (xs (3 : Int32).toNatClampNeg), .int (xs (4 : Int32).toNatClampNeg)]) (rest := [.int (-2)]) hx hb hml hown ht hK hP (hD.weaken (fun _ _ _ _ => trivial)) hS hA hE (ct_X11_table l dC dI m0 fm hfm_6 _ (xs (1 : Int32).toNatClampNeg) (xs (2 : Int32).toNatClampNeg) (xs (3 : Int32).toNatClampNeg) (xs (4 : Int32).toNatClampNeg)) [2] [] rfl (by decide) rfl 2 (ci := 11) rfl rfl rfl gv_L_131 rfl rfl (by decide +kernel) ⟨Nat.le_of_ble_eq_true rfl, Nat.le_of_ble_eq_true rfl⟩ rfl hl.1 (Nat.le_of_ble_eq_true rfl) ⟨Nat.le_of_ble_eq_true rfl, Nat.le_of_ble_eq_true rfl⟩ rfl dL_law_1178 (fun H locs hP hS => ?_)
  refine lv_icmp_eq (tgt := 1627) hx hb dL_law_1181 (by decide) (fun c9 => ?_) (fun c9 => ?_)
  rotate_left
  · exact absurd (by decide) c9
  exact lw_fin hL9 C0 (Nat.le_of_ble_eq_true rfl) (Nat.le_of_ble_eq_true rfl) hS hl
theorem kw_1220 : Cond.methodLink RL 132 yX10_standing ∈ lw_g := lw_at 1220 (by decide +kernel) rfl
theorem kw_1221 : Cond.instanceMethod yX10_standing ∈ lw_g := lw_at 1221 (by decide +kernel) rfl
theorem kw_1222 : Cond.selects RX10 yX10_standing yX10_standing ∈ lw_g := lw_at 1222 (by decide +kernel) rfl
theorem kw_1223 : Cond.code yX10_standing cX10_standing 5 (some .int) ∈ lw_g := lw_at 1223 (by decide +kernel) rfl
theorem gv_L_132 : GoodIn lw_g (wsV RL 132 RX10 yX10_standing (.code yX10_standing cX10_standing 5 (some .int) :: lw_g)) := gi_V kw_1220 kw_1221 kw_1222 kw_1 kw_1223
theorem kw_2136 : Cond.methodLink RL 135 yX11_standing ∈ lw_g := lw_at 2136 (by decide +kernel) rfl
theorem kw_2137 : Cond.instanceMethod yX11_standing ∈ lw_g := lw_at 2137 (by decide +kernel) rfl
theorem kw_2138 : Cond.selects RX11 yX11_standing yX11_standing ∈ lw_g := lw_at 2138 (by decide +kernel) rfl
theorem kw_2139 : Cond.code yX11_standing cX11_standing 4 (some .int) ∈ lw_g := lw_at 2139 (by decide +kernel) rfl
theorem gv_L_135 : GoodIn lw_g (wsV RL 135 RX11 yX11_standing (.code yX11_standing cX11_standing 4 (some .int) :: lw_g)) := gi_V kw_2136 kw_2137 kw_2138 kw_10 kw_2139
set_option maxHeartbeats 4000000 in
set_option maxRecDepth 100000 in
theorem lc_28 {p : Program} {l : Launch} {e : Env} {s : State} {m : MethodId} {below : List Frame} {meth : Method} {c : Code} {b L : Nat} {xs : Nat → Int32} (C0 : lw_At p s m meth c b L xs) (hL : L = 7) (hE : ex_E s) (hEa : ea_E (fun q => s.heap.size ≤ q) s) (dC : Nat → ClassId) (dI : Nat → Nat → Nat) (x0 : Nat) (se : Nat) (fx : List Value) (fse : List Value) (hfx_2 : fx[2]? = some (Value.ref se)) (hfse_2 : fse[2]? = some (Value.int 0)) (m0 : Nat) (fm : List Value) (hfm_6 : fm[6]? = some (Value.int 0)) {ls : Array Slot} {H : Heap} {locs : List Loc} (hK : va_K (dC, dI) vwCl [] s) (hP : va_P (dC, dI) vwCl [(x0, .inr (10, fx)), (se, .inr (6, fse)), (m0, .inr (11, fm))] H) (hD : va_D (fun q => s.heap.size ≤ q) [(x0, .inr (10, fx)), (se, .inr (6, fse)), (m0, .inr (11, fm))]) (hS : va_S (fun q => s.heap.size ≤ q) s.heap H locs) (hl : lv_has ls 4 [(3, .int 0), (2, .ref m0), (1, .ref x0), (0, .ref b)]) : W p l e room_1 s m #[Value.ref b] below meth c H locs 137 78294 (lw_Z below #[Value.ref b] s) (F0 m 1186 ls []) := by
  subst hL
  have hL9 : 7 ≤ 7 := Nat.le_refl 7
  obtain ⟨hx, hb, hr, hml, hown, hts, hX, hbl, hlocks, hgv⟩ := id C0
  have hb : c.code = cL_law := hb
  have hown : s.vm.findClass RL = some m.cls := hown
  have ht : ∀ w ∈ lw_g, w.before #[Value.ref b] s = true := fun w h => hts w (List.mem_filter.mp h).1
  have hA : ∀ q : Nat, s.heap.size ≤ q → (fun q => s.heap.size ≤ q) q := fun _ h => h
  have hbA : ¬ (fun q => s.heap.size ≤ q) b := Nat.not_le.mpr hbl
  refine lv_aload_n hx hb dL_law_1186 rfl (lv_at hl 2 rfl) ?_
  refine lv_aload_n hx hb dL_law_1187 rfl (lv_at hl 3 rfl) ?_
  refine lv_iload_n hx hb dL_law_1188 rfl (lv_at hl 0 rfl) ?_
  refine lv_iconst (v := 1) hx hb dL_law_1189 (by decide) ?_
  refine lv_iadd hx hb dL_law_1190 ?_
  refine lv_topi (fun r1 er1 => ?_)
  have er1 : r1 = 1 := er1.trans (by decide)
  subst er1
  refine va_sld hx hb hX hbl hbA hS (by unfold vp_in; decide) dL_law_1191 ?_
  refine lv_aload_n hx hb dL_law_1192 rfl (lv_at hl 3 rfl) ?_
  refine lv_iload_n hx hb dL_law_1193 rfl (lv_at hl 0 rfl) ?_
  refine lv_iconst (v := 2) hx hb dL_law_1194 (by decide) ?_
  refine lv_iadd hx hb dL_law_1195 ?_
  refine lv_topi (fun r2 er2 => ?_)
  have er2 : r2 = 2 := er2.trans (by decide)
  subst er2
  refine va_sld hx hb hX hbl hbA hS (by unfold vp_in; decide) dL_law_1196 ?_
  refine lv_aload_n hx hb dL_law_1197 rfl (lv_at hl 3 rfl) ?_
  refine lv_iload_n hx hb dL_law_1198 rfl (lv_at hl 0 rfl) ?_
  refine lv_iconst (v := 3) hx hb dL_law_1199 (by decide) ?_
  refine lv_iadd hx hb dL_law_1200 ?_
  refine lv_topi (fun r3 er3 => ?_)
  have er3 : r3 = 3 := er3.trans (by decide)
  subst er3
  refine va_sld hx hb hX hbl hbA hS (by unfold vp_in; decide) dL_law_1201 ?_
  refine ro_callV (n := 3) (As := [.int (xs (1 : Int32).toNatClampNeg), .int (xs (2 : Int32).toNatClampNeg), .int (xs (3 : Int32).toNatClampNeg)]) (rest := []) hx hb hml hown ht hK hP (hD.weaken (fun _ _ _ _ => trivial)) hS hA hE (ct_X10_standing l dC dI x0 se fx fse hfx_2 hfse_2 _ (xs (1 : Int32).toNatClampNeg) (xs (2 : Int32).toNatClampNeg) (xs (3 : Int32).toNatClampNeg)) [0, 1] [] rfl (by decide) rfl 0 (ci := 10) rfl rfl rfl gv_L_132 rfl rfl (by decide +kernel) ⟨Nat.le_of_ble_eq_true rfl, Nat.le_of_ble_eq_true rfl⟩ rfl hl.1 (Nat.le_of_ble_eq_true rfl) ⟨Nat.le_of_ble_eq_true rfl, Nat.le_of_ble_eq_true rfl⟩ rfl dL_law_1202 (fun H locs hP hS => ?_)
  refine lv_aload_n hx hb dL_law_1205 rfl (lv_at hl 1 rfl) ?_
  refine lv_aload_n hx hb dL_law_1206 rfl (lv_at hl 3 rfl) ?_
  refine lv_iload_n hx hb dL_law_1207 rfl (lv_at hl 0 rfl) ?_
  refine lv_iconst (v := 1) hx hb dL_law_1208 (by decide) ?_
  refine lv_iadd hx hb dL_law_1209 ?_
  refine lv_topi (fun r4 er4 => ?_)
  have er4 : r4 = 1 := er4.trans (by decide)
  subst er4
  refine va_sld hx hb hX hbl hbA hS (by unfold vp_in; decide) dL_law_1210 ?_
  refine lv_aload_n hx hb dL_law_1211 rfl (lv_at hl 3 rfl) ?_
  refine lv_iload_n hx hb dL_law_1212 rfl (lv_at hl 0 rfl) ?_
  refine lv_iconst (v := 2) hx hb dL_law_1213 (by decide) ?_
  refine lv_iadd hx hb dL_law_1214 ?_
  refine lv_topi (fun r5 er5 => ?_)
  have er5 : r5 = 2 := er5.trans (by decide)
  subst er5
  refine va_sld hx hb hX hbl hbA hS (by unfold vp_in; decide) dL_law_1215 ?_
  refine lv_aload_n hx hb dL_law_1216 rfl (lv_at hl 3 rfl) ?_
  refine lv_iload_n hx hb dL_law_1217 rfl (lv_at hl 0 rfl) ?_
  refine lv_iconst (v := 3) hx hb dL_law_1218 (by decide) ?_
  refine lv_iadd hx hb dL_law_1219 ?_
  refine lv_topi (fun r6 er6 => ?_)
  have er6 : r6 = 3 := er6.trans (by decide)
  subst er6
  refine va_sld hx hb hX hbl hbA hS (by unfold vp_in; decide) dL_law_1220 ?_
  refine ro_callV (n := 3) (As := [.int (xs (1 : Int32).toNatClampNeg), .int (xs (2 : Int32).toNatClampNeg), .int (xs (3 : Int32).toNatClampNeg)]) (rest := [.int (-2)]) hx hb hml hown ht hK hP (hD.weaken (fun _ _ _ _ => trivial)) hS hA hE (ct_X11_standing l dC dI m0 fm hfm_6 _ (xs (1 : Int32).toNatClampNeg) (xs (2 : Int32).toNatClampNeg) (xs (3 : Int32).toNatClampNeg)) [2] [] rfl (by decide) rfl 2 (ci := 11) rfl rfl rfl gv_L_135 rfl rfl (by decide +kernel) ⟨Nat.le_of_ble_eq_true rfl, Nat.le_of_ble_eq_true rfl⟩ rfl hl.1 (Nat.le_of_ble_eq_true rfl) ⟨Nat.le_of_ble_eq_true rfl, Nat.le_of_ble_eq_true rfl⟩ rfl dL_law_1221 (fun H locs hP hS => ?_)
  refine lv_icmp_eq (tgt := 1627) hx hb dL_law_1224 (by decide) (fun c7 => ?_) (fun c7 => ?_)
  rotate_left
  · exact absurd (by decide) c7
  exact lw_fin hL9 C0 (Nat.le_of_ble_eq_true rfl) (Nat.le_of_ble_eq_true rfl) hS hl
theorem kw_1224 : Cond.methodLink RL 136 yX10_parted ∈ lw_g := lw_at 1224 (by decide +kernel) rfl
theorem kw_1225 : Cond.instanceMethod yX10_parted ∈ lw_g := lw_at 1225 (by decide +kernel) rfl
theorem kw_1226 : Cond.selects RX10 yX10_parted yX10_parted ∈ lw_g := lw_at 1226 (by decide +kernel) rfl
theorem kw_1227 : Cond.code yX10_parted cX10_parted 5 (some .int) ∈ lw_g := lw_at 1227 (by decide +kernel) rfl
theorem gv_L_136 : GoodIn lw_g (wsV RL 136 RX10 yX10_parted (.code yX10_parted cX10_parted 5 (some .int) :: lw_g)) := gi_V kw_1224 kw_1225 kw_1226 kw_1 kw_1227
theorem kw_2140 : Cond.methodLink RL 139 yX11_parted ∈ lw_g := lw_at 2140 (by decide +kernel) rfl
theorem kw_2141 : Cond.instanceMethod yX11_parted ∈ lw_g := lw_at 2141 (by decide +kernel) rfl
theorem kw_2142 : Cond.selects RX11 yX11_parted yX11_parted ∈ lw_g := lw_at 2142 (by decide +kernel) rfl
theorem kw_2143 : Cond.code yX11_parted cX11_parted 4 (some .int) ∈ lw_g := lw_at 2143 (by decide +kernel) rfl
theorem gv_L_139 : GoodIn lw_g (wsV RL 139 RX11 yX11_parted (.code yX11_parted cX11_parted 4 (some .int) :: lw_g)) := gi_V kw_2140 kw_2141 kw_2142 kw_10 kw_2143
set_option maxHeartbeats 4000000 in
set_option maxRecDepth 100000 in
theorem lc_29 {p : Program} {l : Launch} {e : Env} {s : State} {m : MethodId} {below : List Frame} {meth : Method} {c : Code} {b L : Nat} {xs : Nat → Int32} (C0 : lw_At p s m meth c b L xs) (hL : L = 7) (hE : ex_E s) (hEa : ea_E (fun q => s.heap.size ≤ q) s) (dC : Nat → ClassId) (dI : Nat → Nat → Nat) (x0 : Nat) (se : Nat) (fx : List Value) (fse : List Value) (hfx_2 : fx[2]? = some (Value.ref se)) (hfse_2 : fse[2]? = some (Value.int 0)) (m0 : Nat) (fm : List Value) (hfm_6 : fm[6]? = some (Value.int 0)) {ls : Array Slot} {H : Heap} {locs : List Loc} (hK : va_K (dC, dI) vwCl [] s) (hP : va_P (dC, dI) vwCl [(x0, .inr (10, fx)), (se, .inr (6, fse)), (m0, .inr (11, fm))] H) (hD : va_D (fun q => s.heap.size ≤ q) [(x0, .inr (10, fx)), (se, .inr (6, fse)), (m0, .inr (11, fm))]) (hS : va_S (fun q => s.heap.size ≤ q) s.heap H locs) (hl : lv_has ls 4 [(3, .int 0), (2, .ref m0), (1, .ref x0), (0, .ref b)]) : W p l e room_1 s m #[Value.ref b] below meth c H locs 137 78294 (lw_Z below #[Value.ref b] s) (F0 m 1229 ls []) := by
  subst hL
  have hL9 : 7 ≤ 7 := Nat.le_refl 7
  obtain ⟨hx, hb, hr, hml, hown, hts, hX, hbl, hlocks, hgv⟩ := id C0
  have hb : c.code = cL_law := hb
  have hown : s.vm.findClass RL = some m.cls := hown
  have ht : ∀ w ∈ lw_g, w.before #[Value.ref b] s = true := fun w h => hts w (List.mem_filter.mp h).1
  have hA : ∀ q : Nat, s.heap.size ≤ q → (fun q => s.heap.size ≤ q) q := fun _ h => h
  have hbA : ¬ (fun q => s.heap.size ≤ q) b := Nat.not_le.mpr hbl
  refine lv_aload_n hx hb dL_law_1229 rfl (lv_at hl 2 rfl) ?_
  refine lv_aload_n hx hb dL_law_1230 rfl (lv_at hl 3 rfl) ?_
  refine lv_iload_n hx hb dL_law_1231 rfl (lv_at hl 0 rfl) ?_
  refine lv_iconst (v := 1) hx hb dL_law_1232 (by decide) ?_
  refine lv_iadd hx hb dL_law_1233 ?_
  refine lv_topi (fun r1 er1 => ?_)
  have er1 : r1 = 1 := er1.trans (by decide)
  subst er1
  refine va_sld hx hb hX hbl hbA hS (by unfold vp_in; decide) dL_law_1234 ?_
  refine lv_aload_n hx hb dL_law_1235 rfl (lv_at hl 3 rfl) ?_
  refine lv_iload_n hx hb dL_law_1236 rfl (lv_at hl 0 rfl) ?_
  refine lv_iconst (v := 2) hx hb dL_law_1237 (by decide) ?_
  refine lv_iadd hx hb dL_law_1238 ?_
  refine lv_topi (fun r2 er2 => ?_)
  have er2 : r2 = 2 := er2.trans (by decide)
  subst er2
  refine va_sld hx hb hX hbl hbA hS (by unfold vp_in; decide) dL_law_1239 ?_
  refine lv_aload_n hx hb dL_law_1240 rfl (lv_at hl 3 rfl) ?_
  refine lv_iload_n hx hb dL_law_1241 rfl (lv_at hl 0 rfl) ?_
  refine lv_iconst (v := 3) hx hb dL_law_1242 (by decide) ?_
  refine lv_iadd hx hb dL_law_1243 ?_
  refine lv_topi (fun r3 er3 => ?_)
  have er3 : r3 = 3 := er3.trans (by decide)
  subst er3
  refine va_sld hx hb hX hbl hbA hS (by unfold vp_in; decide) dL_law_1244 ?_
  refine ro_callV (n := 3) (As := [.int (xs (1 : Int32).toNatClampNeg), .int (xs (2 : Int32).toNatClampNeg), .int (xs (3 : Int32).toNatClampNeg)]) (rest := []) hx hb hml hown ht hK hP (hD.weaken (fun _ _ _ _ => trivial)) hS hA hE (ct_X10_parted l dC dI x0 se fx fse hfx_2 hfse_2 _ (xs (1 : Int32).toNatClampNeg) (xs (2 : Int32).toNatClampNeg) (xs (3 : Int32).toNatClampNeg)) [0, 1] [] rfl (by decide) rfl 0 (ci := 10) rfl rfl rfl gv_L_136 rfl rfl (by decide +kernel) ⟨Nat.le_of_ble_eq_true rfl, Nat.le_of_ble_eq_true rfl⟩ rfl hl.1 (Nat.le_of_ble_eq_true rfl) ⟨Nat.le_of_ble_eq_true rfl, Nat.le_of_ble_eq_true rfl⟩ rfl dL_law_1245 (fun H locs hP hS => ?_)
  refine lv_aload_n hx hb dL_law_1248 rfl (lv_at hl 1 rfl) ?_
  refine lv_aload_n hx hb dL_law_1249 rfl (lv_at hl 3 rfl) ?_
  refine lv_iload_n hx hb dL_law_1250 rfl (lv_at hl 0 rfl) ?_
  refine lv_iconst (v := 1) hx hb dL_law_1251 (by decide) ?_
  refine lv_iadd hx hb dL_law_1252 ?_
  refine lv_topi (fun r4 er4 => ?_)
  have er4 : r4 = 1 := er4.trans (by decide)
  subst er4
  refine va_sld hx hb hX hbl hbA hS (by unfold vp_in; decide) dL_law_1253 ?_
  refine lv_aload_n hx hb dL_law_1254 rfl (lv_at hl 3 rfl) ?_
  refine lv_iload_n hx hb dL_law_1255 rfl (lv_at hl 0 rfl) ?_
  refine lv_iconst (v := 2) hx hb dL_law_1256 (by decide) ?_
  refine lv_iadd hx hb dL_law_1257 ?_
  refine lv_topi (fun r5 er5 => ?_)
  have er5 : r5 = 2 := er5.trans (by decide)
  subst er5
  refine va_sld hx hb hX hbl hbA hS (by unfold vp_in; decide) dL_law_1258 ?_
  refine lv_aload_n hx hb dL_law_1259 rfl (lv_at hl 3 rfl) ?_
  refine lv_iload_n hx hb dL_law_1260 rfl (lv_at hl 0 rfl) ?_
  refine lv_iconst (v := 3) hx hb dL_law_1261 (by decide) ?_
  refine lv_iadd hx hb dL_law_1262 ?_
  refine lv_topi (fun r6 er6 => ?_)
  have er6 : r6 = 3 := er6.trans (by decide)
  subst er6
  refine va_sld hx hb hX hbl hbA hS (by unfold vp_in; decide) dL_law_1263 ?_
  refine ro_callV (n := 3) (As := [.int (xs (1 : Int32).toNatClampNeg), .int (xs (2 : Int32).toNatClampNeg), .int (xs (3 : Int32).toNatClampNeg)]) (rest := [.int (-2)]) hx hb hml hown ht hK hP (hD.weaken (fun _ _ _ _ => trivial)) hS hA hE (ct_X11_parted l dC dI m0 fm hfm_6 _ (xs (1 : Int32).toNatClampNeg) (xs (2 : Int32).toNatClampNeg) (xs (3 : Int32).toNatClampNeg)) [2] [] rfl (by decide) rfl 2 (ci := 11) rfl rfl rfl gv_L_139 rfl rfl (by decide +kernel) ⟨Nat.le_of_ble_eq_true rfl, Nat.le_of_ble_eq_true rfl⟩ rfl hl.1 (Nat.le_of_ble_eq_true rfl) ⟨Nat.le_of_ble_eq_true rfl, Nat.le_of_ble_eq_true rfl⟩ rfl dL_law_1264 (fun H locs hP hS => ?_)
  refine lv_icmp_eq (tgt := 1627) hx hb dL_law_1267 (by decide) (fun c7 => ?_) (fun c7 => ?_)
  rotate_left
  · exact absurd (by decide) c7
  exact lw_fin hL9 C0 (Nat.le_of_ble_eq_true rfl) (Nat.le_of_ble_eq_true rfl) hS hl
theorem kw_1228 : Cond.methodLink RL 140 yX10_can ∈ lw_g := lw_at 1228 (by decide +kernel) rfl
theorem kw_1229 : Cond.instanceMethod yX10_can ∈ lw_g := lw_at 1229 (by decide +kernel) rfl
theorem kw_1230 : Cond.selects RX10 yX10_can yX10_can ∈ lw_g := lw_at 1230 (by decide +kernel) rfl
theorem kw_1231 : Cond.code yX10_can cX10_can 4 (some .int) ∈ lw_g := lw_at 1231 (by decide +kernel) rfl
theorem gv_L_140 : GoodIn lw_g (wsV RL 140 RX10 yX10_can (.code yX10_can cX10_can 4 (some .int) :: lw_g)) := gi_V kw_1228 kw_1229 kw_1230 kw_1 kw_1231
theorem kw_2144 : Cond.methodLink RL 143 yX11_can ∈ lw_g := lw_at 2144 (by decide +kernel) rfl
theorem kw_2145 : Cond.instanceMethod yX11_can ∈ lw_g := lw_at 2145 (by decide +kernel) rfl
theorem kw_2146 : Cond.selects RX11 yX11_can yX11_can ∈ lw_g := lw_at 2146 (by decide +kernel) rfl
theorem kw_2147 : Cond.code yX11_can cX11_can 5 (some .int) ∈ lw_g := lw_at 2147 (by decide +kernel) rfl
theorem gv_L_143 : GoodIn lw_g (wsV RL 143 RX11 yX11_can (.code yX11_can cX11_can 5 (some .int) :: lw_g)) := gi_V kw_2144 kw_2145 kw_2146 kw_10 kw_2147
set_option maxHeartbeats 4000000 in
set_option maxRecDepth 100000 in
theorem lc_30 {p : Program} {l : Launch} {e : Env} {s : State} {m : MethodId} {below : List Frame} {meth : Method} {c : Code} {b L : Nat} {xs : Nat → Int32} (C0 : lw_At p s m meth c b L xs) (hL : L = 7) (hE : ex_E s) (hEa : ea_E (fun q => s.heap.size ≤ q) s) (dC : Nat → ClassId) (dI : Nat → Nat → Nat) (x0 : Nat) (se : Nat) (fx : List Value) (fse : List Value) (hfx_2 : fx[2]? = some (Value.ref se)) (hfse_2 : fse[2]? = some (Value.int 0)) (m0 : Nat) (fm : List Value) (hfm_6 : fm[6]? = some (Value.int 0)) {ls : Array Slot} {H : Heap} {locs : List Loc} (hK : va_K (dC, dI) vwCl [] s) (hP : va_P (dC, dI) vwCl [(x0, .inr (10, fx)), (se, .inr (6, fse)), (m0, .inr (11, fm))] H) (hD : va_D (fun q => s.heap.size ≤ q) [(x0, .inr (10, fx)), (se, .inr (6, fse)), (m0, .inr (11, fm))]) (hS : va_S (fun q => s.heap.size ≤ q) s.heap H locs) (hl : lv_has ls 4 [(3, .int 0), (2, .ref m0), (1, .ref x0), (0, .ref b)]) : W p l e room_1 s m #[Value.ref b] below meth c H locs 137 78294 (lw_Z below #[Value.ref b] s) (F0 m 1272 ls []) := by
  subst hL
  have hL9 : 7 ≤ 7 := Nat.le_refl 7
  obtain ⟨hx, hb, hr, hml, hown, hts, hX, hbl, hlocks, hgv⟩ := id C0
  have hb : c.code = cL_law := hb
  have hown : s.vm.findClass RL = some m.cls := hown
  have ht : ∀ w ∈ lw_g, w.before #[Value.ref b] s = true := fun w h => hts w (List.mem_filter.mp h).1
  have hA : ∀ q : Nat, s.heap.size ≤ q → (fun q => s.heap.size ≤ q) q := fun _ h => h
  have hbA : ¬ (fun q => s.heap.size ≤ q) b := Nat.not_le.mpr hbl
  refine lv_aload_n hx hb dL_law_1272 rfl (lv_at hl 2 rfl) ?_
  refine lv_aload_n hx hb dL_law_1273 rfl (lv_at hl 3 rfl) ?_
  refine lv_iload_n hx hb dL_law_1274 rfl (lv_at hl 0 rfl) ?_
  refine lv_iconst (v := 1) hx hb dL_law_1275 (by decide) ?_
  refine lv_iadd hx hb dL_law_1276 ?_
  refine lv_topi (fun r1 er1 => ?_)
  have er1 : r1 = 1 := er1.trans (by decide)
  subst er1
  refine va_sld hx hb hX hbl hbA hS (by unfold vp_in; decide) dL_law_1277 ?_
  refine lv_aload_n hx hb dL_law_1278 rfl (lv_at hl 3 rfl) ?_
  refine lv_iload_n hx hb dL_law_1279 rfl (lv_at hl 0 rfl) ?_
  refine lv_iconst (v := 2) hx hb dL_law_1280 (by decide) ?_
  refine lv_iadd hx hb dL_law_1281 ?_
  refine lv_topi (fun r2 er2 => ?_)
  have er2 : r2 = 2 := er2.trans (by decide)
  subst er2
  refine va_sld hx hb hX hbl hbA hS (by unfold vp_in; decide) dL_law_1282 ?_
  refine ro_callV (n := 2) (As := [.int (xs (1 : Int32).toNatClampNeg), .int (xs (2 : Int32).toNatClampNeg)]) (rest := []) hx hb hml hown ht hK hP (hD.weaken (fun _ _ _ _ => trivial)) hS hA hE (ct_X10_can l dC dI x0 se fx fse hfx_2 hfse_2 _ (xs (1 : Int32).toNatClampNeg) (xs (2 : Int32).toNatClampNeg)) [0, 1] [] rfl (by decide) rfl 0 (ci := 10) rfl rfl rfl gv_L_140 rfl rfl (by decide +kernel) ⟨Nat.le_of_ble_eq_true rfl, Nat.le_of_ble_eq_true rfl⟩ rfl hl.1 (Nat.le_of_ble_eq_true rfl) ⟨Nat.le_of_ble_eq_true rfl, Nat.le_of_ble_eq_true rfl⟩ rfl dL_law_1283 (fun H locs hP hS => ?_)
  refine lv_aload_n hx hb dL_law_1286 rfl (lv_at hl 1 rfl) ?_
  refine lv_aload_n hx hb dL_law_1287 rfl (lv_at hl 3 rfl) ?_
  refine lv_iload_n hx hb dL_law_1288 rfl (lv_at hl 0 rfl) ?_
  refine lv_iconst (v := 1) hx hb dL_law_1289 (by decide) ?_
  refine lv_iadd hx hb dL_law_1290 ?_
  refine lv_topi (fun r3 er3 => ?_)
  have er3 : r3 = 1 := er3.trans (by decide)
  subst er3
  refine va_sld hx hb hX hbl hbA hS (by unfold vp_in; decide) dL_law_1291 ?_
  refine lv_aload_n hx hb dL_law_1292 rfl (lv_at hl 3 rfl) ?_
  refine lv_iload_n hx hb dL_law_1293 rfl (lv_at hl 0 rfl) ?_
  refine lv_iconst (v := 2) hx hb dL_law_1294 (by decide) ?_
  refine lv_iadd hx hb dL_law_1295 ?_
  refine lv_topi (fun r4 er4 => ?_)
  have er4 : r4 = 2 := er4.trans (by decide)
  subst er4
  refine va_sld hx hb hX hbl hbA hS (by unfold vp_in; decide) dL_law_1296 ?_
  refine ro_callV (n := 2) (As := [.int (xs (1 : Int32).toNatClampNeg), .int (xs (2 : Int32).toNatClampNeg)]) (rest := [.int (-2)]) hx hb hml hown ht hK hP (hD.weaken (fun _ _ _ _ => trivial)) hS hA hE (ct_X11_can l dC dI m0 fm hfm_6 _ (xs (1 : Int32).toNatClampNeg) (xs (2 : Int32).toNatClampNeg)) [2] [] rfl (by decide) rfl 2 (ci := 11) rfl rfl rfl gv_L_143 rfl rfl (by decide +kernel) ⟨Nat.le_of_ble_eq_true rfl, Nat.le_of_ble_eq_true rfl⟩ rfl hl.1 (Nat.le_of_ble_eq_true rfl) ⟨Nat.le_of_ble_eq_true rfl, Nat.le_of_ble_eq_true rfl⟩ rfl dL_law_1297 (fun H locs hP hS => ?_)
  refine lv_icmp_eq (tgt := 1627) hx hb dL_law_1300 (by decide) (fun c5 => ?_) (fun c5 => ?_)
  rotate_left
  · exact absurd (by decide) c5
  exact lw_fin hL9 C0 (Nat.le_of_ble_eq_true rfl) (Nat.le_of_ble_eq_true rfl) hS hl
theorem kw_1299 : Cond.methodLink RL 144 yX10_witness ∈ lw_g := lw_at 1299 (by decide +kernel) rfl
theorem kw_1300 : Cond.instanceMethod yX10_witness ∈ lw_g := lw_at 1300 (by decide +kernel) rfl
theorem kw_1301 : Cond.selects RX10 yX10_witness yX10_witness ∈ lw_g := lw_at 1301 (by decide +kernel) rfl
theorem kw_1302 : Cond.code yX10_witness cX10_witness 2 (some .int) ∈ lw_g := lw_at 1302 (by decide +kernel) rfl
theorem gv_L_144 : GoodIn lw_g (wsV RL 144 RX10 yX10_witness (.code yX10_witness cX10_witness 2 (some .int) :: lw_g)) := gi_V kw_1299 kw_1300 kw_1301 kw_1 kw_1302
theorem kw_2187 : Cond.methodLink RL 147 yX11_witness ∈ lw_g := lw_at 2187 (by decide +kernel) rfl
theorem kw_2188 : Cond.instanceMethod yX11_witness ∈ lw_g := lw_at 2188 (by decide +kernel) rfl
theorem kw_2189 : Cond.selects RX11 yX11_witness yX11_witness ∈ lw_g := lw_at 2189 (by decide +kernel) rfl
theorem kw_2190 : Cond.code yX11_witness cX11_witness 2 (some .int) ∈ lw_g := lw_at 2190 (by decide +kernel) rfl
theorem gv_L_147 : GoodIn lw_g (wsV RL 147 RX11 yX11_witness (.code yX11_witness cX11_witness 2 (some .int) :: lw_g)) := gi_V kw_2187 kw_2188 kw_2189 kw_10 kw_2190
set_option maxHeartbeats 4000000 in
set_option maxRecDepth 100000 in
theorem lc_31 {p : Program} {l : Launch} {e : Env} {s : State} {m : MethodId} {below : List Frame} {meth : Method} {c : Code} {b L : Nat} {xs : Nat → Int32} (C0 : lw_At p s m meth c b L xs) (hL : L = 7) (hE : ex_E s) (hEa : ea_E (fun q => s.heap.size ≤ q) s) (dC : Nat → ClassId) (dI : Nat → Nat → Nat) (x0 : Nat) (se : Nat) (fx : List Value) (fse : List Value) (hfx_2 : fx[2]? = some (Value.ref se)) (hfse_4 : fse[4]? = some (Value.int 0)) (m0 : Nat) (fm : List Value) (hfm_29 : fm[29]? = some (Value.int 0)) {ls : Array Slot} {H : Heap} {locs : List Loc} (hK : va_K (dC, dI) vwCl [] s) (hP : va_P (dC, dI) vwCl [(x0, .inr (10, fx)), (se, .inr (6, fse)), (m0, .inr (11, fm))] H) (hD : va_D (fun q => s.heap.size ≤ q) [(x0, .inr (10, fx)), (se, .inr (6, fse)), (m0, .inr (11, fm))]) (hS : va_S (fun q => s.heap.size ≤ q) s.heap H locs) (hl : lv_has ls 4 [(3, .int 0), (2, .ref m0), (1, .ref x0), (0, .ref b)]) : W p l e room_1 s m #[Value.ref b] below meth c H locs 137 78294 (lw_Z below #[Value.ref b] s) (F0 m 1305 ls []) := by
  subst hL
  have hL9 : 7 ≤ 7 := Nat.le_refl 7
  obtain ⟨hx, hb, hr, hml, hown, hts, hX, hbl, hlocks, hgv⟩ := id C0
  have hb : c.code = cL_law := hb
  have hown : s.vm.findClass RL = some m.cls := hown
  have ht : ∀ w ∈ lw_g, w.before #[Value.ref b] s = true := fun w h => hts w (List.mem_filter.mp h).1
  have hA : ∀ q : Nat, s.heap.size ≤ q → (fun q => s.heap.size ≤ q) q := fun _ h => h
  have hbA : ¬ (fun q => s.heap.size ≤ q) b := Nat.not_le.mpr hbl
  refine lv_aload_n hx hb dL_law_1305 rfl (lv_at hl 2 rfl) ?_
  refine lv_aload_n hx hb dL_law_1306 rfl (lv_at hl 3 rfl) ?_
  refine lv_iload_n hx hb dL_law_1307 rfl (lv_at hl 0 rfl) ?_
  refine lv_iconst (v := 1) hx hb dL_law_1308 (by decide) ?_
  refine lv_iadd hx hb dL_law_1309 ?_
  refine lv_topi (fun r1 er1 => ?_)
  have er1 : r1 = 1 := er1.trans (by decide)
  subst er1
  refine va_sld hx hb hX hbl hbA hS (by unfold vp_in; decide) dL_law_1310 ?_
  refine ro_callV (n := 1) (As := [.int (xs (1 : Int32).toNatClampNeg)]) (rest := []) hx hb hml hown ht hK hP (hD.weaken (fun _ _ _ _ => trivial)) hS hA hE (ct_X10_witness l dC dI x0 se fx fse hfx_2 hfse_4 _ (xs (1 : Int32).toNatClampNeg)) [0, 1] [] rfl (by decide) rfl 0 (ci := 10) rfl rfl rfl gv_L_144 rfl rfl (by decide +kernel) ⟨Nat.le_of_ble_eq_true rfl, Nat.le_of_ble_eq_true rfl⟩ rfl hl.1 (Nat.le_of_ble_eq_true rfl) ⟨Nat.le_of_ble_eq_true rfl, Nat.le_of_ble_eq_true rfl⟩ rfl dL_law_1311 (fun H locs hP hS => ?_)
  refine lv_aload_n hx hb dL_law_1314 rfl (lv_at hl 1 rfl) ?_
  refine lv_aload_n hx hb dL_law_1315 rfl (lv_at hl 3 rfl) ?_
  refine lv_iload_n hx hb dL_law_1316 rfl (lv_at hl 0 rfl) ?_
  refine lv_iconst (v := 1) hx hb dL_law_1317 (by decide) ?_
  refine lv_iadd hx hb dL_law_1318 ?_
  refine lv_topi (fun r2 er2 => ?_)
  have er2 : r2 = 1 := er2.trans (by decide)
  subst er2
  refine va_sld hx hb hX hbl hbA hS (by unfold vp_in; decide) dL_law_1319 ?_
  refine ro_callV (n := 1) (As := [.int (xs (1 : Int32).toNatClampNeg)]) (rest := [.int (-2)]) hx hb hml hown ht hK hP (hD.weaken (fun _ _ _ _ => trivial)) hS hA hE (ct_X11_witness l dC dI m0 fm hfm_29 _ (xs (1 : Int32).toNatClampNeg)) [2] [] rfl (by decide) rfl 2 (ci := 11) rfl rfl rfl gv_L_147 rfl rfl (by decide +kernel) ⟨Nat.le_of_ble_eq_true rfl, Nat.le_of_ble_eq_true rfl⟩ rfl hl.1 (Nat.le_of_ble_eq_true rfl) ⟨Nat.le_of_ble_eq_true rfl, Nat.le_of_ble_eq_true rfl⟩ rfl dL_law_1320 (fun H locs hP hS => ?_)
  refine lv_icmp_eq (tgt := 1627) hx hb dL_law_1323 (by decide) (fun c3 => ?_) (fun c3 => ?_)
  rotate_left
  · exact absurd (by decide) c3
  exact lw_fin hL9 C0 (Nat.le_of_ble_eq_true rfl) (Nat.le_of_ble_eq_true rfl) hS hl
theorem kw_1303 : Cond.methodLink RL 148 yX10_cut ∈ lw_g := lw_at 1303 (by decide +kernel) rfl
theorem kw_1304 : Cond.instanceMethod yX10_cut ∈ lw_g := lw_at 1304 (by decide +kernel) rfl
theorem kw_1305 : Cond.selects RX10 yX10_cut yX10_cut ∈ lw_g := lw_at 1305 (by decide +kernel) rfl
theorem kw_1306 : Cond.code yX10_cut cX10_cut 1 (some .int) ∈ lw_g := lw_at 1306 (by decide +kernel) rfl
theorem gv_L_148 : GoodIn lw_g (wsV RL 148 RX10 yX10_cut (.code yX10_cut cX10_cut 1 (some .int) :: lw_g)) := gi_V kw_1303 kw_1304 kw_1305 kw_1 kw_1306
theorem kw_2191 : Cond.methodLink RL 151 yX11_cut ∈ lw_g := lw_at 2191 (by decide +kernel) rfl
theorem kw_2192 : Cond.instanceMethod yX11_cut ∈ lw_g := lw_at 2192 (by decide +kernel) rfl
theorem kw_2193 : Cond.selects RX11 yX11_cut yX11_cut ∈ lw_g := lw_at 2193 (by decide +kernel) rfl
theorem kw_2194 : Cond.code yX11_cut cX11_cut 1 (some .int) ∈ lw_g := lw_at 2194 (by decide +kernel) rfl
theorem gv_L_151 : GoodIn lw_g (wsV RL 151 RX11 yX11_cut (.code yX11_cut cX11_cut 1 (some .int) :: lw_g)) := gi_V kw_2191 kw_2192 kw_2193 kw_10 kw_2194
set_option maxHeartbeats 4000000 in
set_option maxRecDepth 100000 in
theorem lc_32 {p : Program} {l : Launch} {e : Env} {s : State} {m : MethodId} {below : List Frame} {meth : Method} {c : Code} {b L : Nat} {xs : Nat → Int32} (C0 : lw_At p s m meth c b L xs) (hL : L = 7) (hE : ex_E s) (hEa : ea_E (fun q => s.heap.size ≤ q) s) (dC : Nat → ClassId) (dI : Nat → Nat → Nat) (x0 : Nat) (ti : Nat) (fx : List Value) (fti : List Value) (hfx_4 : fx[4]? = some (Value.ref ti)) (hfti_3 : fti[3]? = some (Value.int 0)) (m0 : Nat) (fm : List Value) (hfm_90 : fm[90]? = some (Value.int 0)) {ls : Array Slot} {H : Heap} {locs : List Loc} (hK : va_K (dC, dI) vwCl [] s) (hP : va_P (dC, dI) vwCl [(x0, .inr (10, fx)), (ti, .inr (9, fti)), (m0, .inr (11, fm))] H) (hD : va_D (fun q => s.heap.size ≤ q) [(x0, .inr (10, fx)), (ti, .inr (9, fti)), (m0, .inr (11, fm))]) (hS : va_S (fun q => s.heap.size ≤ q) s.heap H locs) (hl : lv_has ls 4 [(3, .int 0), (2, .ref m0), (1, .ref x0), (0, .ref b)]) : W p l e room_1 s m #[Value.ref b] below meth c H locs 137 78294 (lw_Z below #[Value.ref b] s) (F0 m 1328 ls []) := by
  subst hL
  have hL9 : 7 ≤ 7 := Nat.le_refl 7
  obtain ⟨hx, hb, hr, hml, hown, hts, hX, hbl, hlocks, hgv⟩ := id C0
  have hb : c.code = cL_law := hb
  have hown : s.vm.findClass RL = some m.cls := hown
  have ht : ∀ w ∈ lw_g, w.before #[Value.ref b] s = true := fun w h => hts w (List.mem_filter.mp h).1
  have hA : ∀ q : Nat, s.heap.size ≤ q → (fun q => s.heap.size ≤ q) q := fun _ h => h
  have hbA : ¬ (fun q => s.heap.size ≤ q) b := Nat.not_le.mpr hbl
  refine lv_aload_n hx hb dL_law_1328 rfl (lv_at hl 2 rfl) ?_
  refine ro_callV (n := 0) (As := []) (rest := []) hx hb hml hown ht hK hP (hD.weaken (fun _ _ _ _ => trivial)) hS hA hE (ct_X10_cut l dC dI x0 ti fx fti hfx_4 hfti_3 _ ) [0, 1] [] rfl (by decide) rfl 0 (ci := 10) rfl rfl rfl gv_L_148 rfl rfl (by decide +kernel) ⟨Nat.le_of_ble_eq_true rfl, Nat.le_of_ble_eq_true rfl⟩ rfl hl.1 (Nat.le_of_ble_eq_true rfl) ⟨Nat.le_of_ble_eq_true rfl, Nat.le_of_ble_eq_true rfl⟩ rfl dL_law_1329 (fun H locs hP hS => ?_)
  refine lv_aload_n hx hb dL_law_1332 rfl (lv_at hl 1 rfl) ?_
  refine ro_callV (n := 0) (As := []) (rest := [.int 0]) hx hb hml hown ht hK hP (hD.weaken (fun _ _ _ _ => trivial)) hS hA hE (ct_X11_cut l dC dI m0 fm hfm_90 _ ) [2] [] rfl (by decide) rfl 2 (ci := 11) rfl rfl rfl gv_L_151 rfl rfl (by decide +kernel) ⟨Nat.le_of_ble_eq_true rfl, Nat.le_of_ble_eq_true rfl⟩ rfl hl.1 (Nat.le_of_ble_eq_true rfl) ⟨Nat.le_of_ble_eq_true rfl, Nat.le_of_ble_eq_true rfl⟩ rfl dL_law_1333 (fun H locs hP hS => ?_)
  refine lv_icmp_eq (tgt := 1627) hx hb dL_law_1336 (by decide) (fun c1 => ?_) (fun c1 => ?_)
  rotate_left
  · exact absurd (by decide) c1
  exact lw_fin hL9 C0 (Nat.le_of_ble_eq_true rfl) (Nat.le_of_ble_eq_true rfl) hS hl
theorem kw_1307 : Cond.methodLink RL 152 yX10_firsts ∈ lw_g := lw_at 1307 (by decide +kernel) rfl
theorem kw_1308 : Cond.instanceMethod yX10_firsts ∈ lw_g := lw_at 1308 (by decide +kernel) rfl
theorem kw_1309 : Cond.selects RX10 yX10_firsts yX10_firsts ∈ lw_g := lw_at 1309 (by decide +kernel) rfl
theorem kw_1310 : Cond.code yX10_firsts cX10_firsts 4 (some .int) ∈ lw_g := lw_at 1310 (by decide +kernel) rfl
theorem gv_L_152 : GoodIn lw_g (wsV RL 152 RX10 yX10_firsts (.code yX10_firsts cX10_firsts 4 (some .int) :: lw_g)) := gi_V kw_1307 kw_1308 kw_1309 kw_1 kw_1310
theorem kw_2195 : Cond.methodLink RL 155 yX11_firsts ∈ lw_g := lw_at 2195 (by decide +kernel) rfl
theorem kw_2196 : Cond.instanceMethod yX11_firsts ∈ lw_g := lw_at 2196 (by decide +kernel) rfl
theorem kw_2197 : Cond.selects RX11 yX11_firsts yX11_firsts ∈ lw_g := lw_at 2197 (by decide +kernel) rfl
theorem kw_2198 : Cond.code yX11_firsts cX11_firsts 9 (some .int) ∈ lw_g := lw_at 2198 (by decide +kernel) rfl
theorem gv_L_155 : GoodIn lw_g (wsV RL 155 RX11 yX11_firsts (.code yX11_firsts cX11_firsts 9 (some .int) :: lw_g)) := gi_V kw_2195 kw_2196 kw_2197 kw_10 kw_2198
set_option maxHeartbeats 4000000 in
set_option maxRecDepth 100000 in
theorem lc_33 {p : Program} {l : Launch} {e : Env} {s : State} {m : MethodId} {below : List Frame} {meth : Method} {c : Code} {b L : Nat} {xs : Nat → Int32} (C0 : lw_At p s m meth c b L xs) (hL : L = 7) (hE : ex_E s) (hEa : ea_E (fun q => s.heap.size ≤ q) s) (dC : Nat → ClassId) (dI : Nat → Nat → Nat) (x0 : Nat) (se : Nat) (fx : List Value) (fse : List Value) (hfx_2 : fx[2]? = some (Value.ref se)) (hfse_2 : fse[2]? = some (Value.int 0)) (m0 : Nat) (fm : List Value) (hfm_6 : fm[6]? = some (Value.int 0)) {ls : Array Slot} {H : Heap} {locs : List Loc} (hK : va_K (dC, dI) vwCl [] s) (hP : va_P (dC, dI) vwCl [(x0, .inr (10, fx)), (se, .inr (6, fse)), (m0, .inr (11, fm))] H) (hD : va_D (fun q => s.heap.size ≤ q) [(x0, .inr (10, fx)), (se, .inr (6, fse)), (m0, .inr (11, fm))]) (hS : va_S (fun q => s.heap.size ≤ q) s.heap H locs) (hl : lv_has ls 4 [(3, .int 0), (2, .ref m0), (1, .ref x0), (0, .ref b)]) : W p l e room_1 s m #[Value.ref b] below meth c H locs 137 78294 (lw_Z below #[Value.ref b] s) (F0 m 1341 ls []) := by
  subst hL
  have hL9 : 7 ≤ 7 := Nat.le_refl 7
  obtain ⟨hx, hb, hr, hml, hown, hts, hX, hbl, hlocks, hgv⟩ := id C0
  have hb : c.code = cL_law := hb
  have hown : s.vm.findClass RL = some m.cls := hown
  have ht : ∀ w ∈ lw_g, w.before #[Value.ref b] s = true := fun w h => hts w (List.mem_filter.mp h).1
  have hA : ∀ q : Nat, s.heap.size ≤ q → (fun q => s.heap.size ≤ q) q := fun _ h => h
  have hbA : ¬ (fun q => s.heap.size ≤ q) b := Nat.not_le.mpr hbl
  refine lv_aload_n hx hb dL_law_1341 rfl (lv_at hl 2 rfl) ?_
  refine lv_aload_n hx hb dL_law_1342 rfl (lv_at hl 3 rfl) ?_
  refine lv_iload_n hx hb dL_law_1343 rfl (lv_at hl 0 rfl) ?_
  refine lv_iconst (v := 1) hx hb dL_law_1344 (by decide) ?_
  refine lv_iadd hx hb dL_law_1345 ?_
  refine lv_topi (fun r1 er1 => ?_)
  have er1 : r1 = 1 := er1.trans (by decide)
  subst er1
  refine va_sld hx hb hX hbl hbA hS (by unfold vp_in; decide) dL_law_1346 ?_
  refine lv_aload_n hx hb dL_law_1347 rfl (lv_at hl 3 rfl) ?_
  refine lv_iload_n hx hb dL_law_1348 rfl (lv_at hl 0 rfl) ?_
  refine lv_iconst (v := 2) hx hb dL_law_1349 (by decide) ?_
  refine lv_iadd hx hb dL_law_1350 ?_
  refine lv_topi (fun r2 er2 => ?_)
  have er2 : r2 = 2 := er2.trans (by decide)
  subst er2
  refine va_sld hx hb hX hbl hbA hS (by unfold vp_in; decide) dL_law_1351 ?_
  refine ro_callV (n := 2) (As := [.int (xs (1 : Int32).toNatClampNeg), .int (xs (2 : Int32).toNatClampNeg)]) (rest := []) hx hb hml hown ht hK hP (hD.weaken (fun _ _ _ _ => trivial)) hS hA hE (ct_X10_firsts l dC dI x0 se fx fse hfx_2 hfse_2 _ (xs (1 : Int32).toNatClampNeg) (xs (2 : Int32).toNatClampNeg)) [0, 1] [] rfl (by decide) rfl 0 (ci := 10) rfl rfl rfl gv_L_152 rfl rfl (by decide +kernel) ⟨Nat.le_of_ble_eq_true rfl, Nat.le_of_ble_eq_true rfl⟩ rfl hl.1 (Nat.le_of_ble_eq_true rfl) ⟨Nat.le_of_ble_eq_true rfl, Nat.le_of_ble_eq_true rfl⟩ rfl dL_law_1352 (fun H locs hP hS => ?_)
  refine lv_aload_n hx hb dL_law_1355 rfl (lv_at hl 1 rfl) ?_
  refine lv_aload_n hx hb dL_law_1356 rfl (lv_at hl 3 rfl) ?_
  refine lv_iload_n hx hb dL_law_1357 rfl (lv_at hl 0 rfl) ?_
  refine lv_iconst (v := 1) hx hb dL_law_1358 (by decide) ?_
  refine lv_iadd hx hb dL_law_1359 ?_
  refine lv_topi (fun r3 er3 => ?_)
  have er3 : r3 = 1 := er3.trans (by decide)
  subst er3
  refine va_sld hx hb hX hbl hbA hS (by unfold vp_in; decide) dL_law_1360 ?_
  refine lv_aload_n hx hb dL_law_1361 rfl (lv_at hl 3 rfl) ?_
  refine lv_iload_n hx hb dL_law_1362 rfl (lv_at hl 0 rfl) ?_
  refine lv_iconst (v := 2) hx hb dL_law_1363 (by decide) ?_
  refine lv_iadd hx hb dL_law_1364 ?_
  refine lv_topi (fun r4 er4 => ?_)
  have er4 : r4 = 2 := er4.trans (by decide)
  subst er4
  refine va_sld hx hb hX hbl hbA hS (by unfold vp_in; decide) dL_law_1365 ?_
  refine ro_callV (n := 2) (As := [.int (xs (1 : Int32).toNatClampNeg), .int (xs (2 : Int32).toNatClampNeg)]) (rest := [.int (-2)]) hx hb hml hown ht hK hP (hD.weaken (fun _ _ _ _ => trivial)) hS hA hE (ct_X11_firsts l dC dI m0 fm hfm_6 _ (xs (1 : Int32).toNatClampNeg) (xs (2 : Int32).toNatClampNeg)) [2] [] rfl (by decide) rfl 2 (ci := 11) rfl rfl rfl gv_L_155 rfl rfl (by decide +kernel) ⟨Nat.le_of_ble_eq_true rfl, Nat.le_of_ble_eq_true rfl⟩ rfl hl.1 (Nat.le_of_ble_eq_true rfl) ⟨Nat.le_of_ble_eq_true rfl, Nat.le_of_ble_eq_true rfl⟩ rfl dL_law_1366 (fun H locs hP hS => ?_)
  refine lv_icmp_eq (tgt := 1627) hx hb dL_law_1369 (by decide) (fun c5 => ?_) (fun c5 => ?_)
  rotate_left
  · exact absurd (by decide) c5
  exact lw_fin hL9 C0 (Nat.le_of_ble_eq_true rfl) (Nat.le_of_ble_eq_true rfl) hS hl
theorem kw_1321 : Cond.methodLink RL 156 yX10_drawing ∈ lw_g := lw_at 1321 (by decide +kernel) rfl
theorem kw_1322 : Cond.instanceMethod yX10_drawing ∈ lw_g := lw_at 1322 (by decide +kernel) rfl
theorem kw_1323 : Cond.selects RX10 yX10_drawing yX10_drawing ∈ lw_g := lw_at 1323 (by decide +kernel) rfl
theorem kw_1324 : Cond.code yX10_drawing cX10_drawing 3 (some .int) ∈ lw_g := lw_at 1324 (by decide +kernel) rfl
theorem gv_L_156 : GoodIn lw_g (wsV RL 156 RX10 yX10_drawing (.code yX10_drawing cX10_drawing 3 (some .int) :: lw_g)) := gi_V kw_1321 kw_1322 kw_1323 kw_1 kw_1324
theorem kw_2199 : Cond.methodLink RL 159 yX11_drawing ∈ lw_g := lw_at 2199 (by decide +kernel) rfl
theorem kw_2200 : Cond.instanceMethod yX11_drawing ∈ lw_g := lw_at 2200 (by decide +kernel) rfl
theorem kw_2201 : Cond.selects RX11 yX11_drawing yX11_drawing ∈ lw_g := lw_at 2201 (by decide +kernel) rfl
theorem kw_2202 : Cond.code yX11_drawing cX11_drawing 4 (some .int) ∈ lw_g := lw_at 2202 (by decide +kernel) rfl
theorem gv_L_159 : GoodIn lw_g (wsV RL 159 RX11 yX11_drawing (.code yX11_drawing cX11_drawing 4 (some .int) :: lw_g)) := gi_V kw_2199 kw_2200 kw_2201 kw_10 kw_2202
set_option maxHeartbeats 4000000 in
set_option maxRecDepth 100000 in
theorem lc_34 {p : Program} {l : Launch} {e : Env} {s : State} {m : MethodId} {below : List Frame} {meth : Method} {c : Code} {b L : Nat} {xs : Nat → Int32} (C0 : lw_At p s m meth c b L xs) (hL : L = 7) (hE : ex_E s) (hEa : ea_E (fun q => s.heap.size ≤ q) s) (dC : Nat → ClassId) (dI : Nat → Nat → Nat) (x0 : Nat) (lo : Nat) (ay : Nat) (au : Nat) (aw : Nat) (fx : List Value) (flo : List Value) (kay : ClassId) (gay : Nat → Int32) (kau : ClassId) (gau : Nat → Int32) (kaw : ClassId) (gaw : Nat → Int32) (hfx_5 : fx[5]? = some (Value.ref lo)) (hn_flo : flo.length = 16) (hflo_8 : flo[8]? = some (Value.ref ay)) (hflo_9 : flo[9]? = some (Value.ref au)) (hflo_10 : flo[10]? = some (Value.ref aw)) (m0 : Nat) (mi : Nat) (mj : Nat) (fm : List Value) (kmi : ClassId) (gmi : Nat → Int32) (kmj : ClassId) (gmj : Nat → Int32) (hn_fm : fm.length = 114) (hfm_101 : fm[101]? = some (Value.ref mi)) (hfm_102 : fm[102]? = some (Value.ref mj)) {ls : Array Slot} {H : Heap} {locs : List Loc} (hK : va_K (dC, dI) vwCl [(kay, .int), (kau, .int), (kaw, .int), (kmi, .int), (kmj, .int)] s) (hP : va_P (dC, dI) vwCl [(x0, .inr (10, fx)), (lo, .inr (1, flo)), (ay, .inl (kay, 12, .inl gay)), (au, .inl (kau, 12, .inl gau)), (aw, .inl (kaw, 3, .inl gaw)), (m0, .inr (11, fm)), (mi, .inl (kmi, 12, .inl gmi)), (mj, .inl (kmj, 12, .inl gmj))] H) (hD : va_D (fun q => s.heap.size ≤ q) [(x0, .inr (10, fx)), (lo, .inr (1, flo)), (ay, .inl (kay, 12, .inl gay)), (au, .inl (kau, 12, .inl gau)), (aw, .inl (kaw, 3, .inl gaw)), (m0, .inr (11, fm)), (mi, .inl (kmi, 12, .inl gmi)), (mj, .inl (kmj, 12, .inl gmj))]) (hS : va_S (fun q => s.heap.size ≤ q) s.heap H locs) (hl : lv_has ls 4 [(3, .int 0), (2, .ref m0), (1, .ref x0), (0, .ref b)]) : W p l e room_1 s m #[Value.ref b] below meth c H locs 137 78294 (lw_Z below #[Value.ref b] s) (F0 m 1374 ls []) := by
  subst hL
  have hL9 : 7 ≤ 7 := Nat.le_refl 7
  obtain ⟨hx, hb, hr, hml, hown, hts, hX, hbl, hlocks, hgv⟩ := id C0
  have hb : c.code = cL_law := hb
  have hown : s.vm.findClass RL = some m.cls := hown
  have ht : ∀ w ∈ lw_g, w.before #[Value.ref b] s = true := fun w h => hts w (List.mem_filter.mp h).1
  have hA : ∀ q : Nat, s.heap.size ≤ q → (fun q => s.heap.size ≤ q) q := fun _ h => h
  have hbA : ¬ (fun q => s.heap.size ≤ q) b := Nat.not_le.mpr hbl
  refine lv_aload_n hx hb dL_law_1374 rfl (lv_at hl 2 rfl) ?_
  refine lv_aload_n hx hb dL_law_1375 rfl (lv_at hl 3 rfl) ?_
  refine lv_iload_n hx hb dL_law_1376 rfl (lv_at hl 0 rfl) ?_
  refine lv_iconst (v := 1) hx hb dL_law_1377 (by decide) ?_
  refine lv_iadd hx hb dL_law_1378 ?_
  refine lv_topi (fun r1 er1 => ?_)
  have er1 : r1 = 1 := er1.trans (by decide)
  subst er1
  refine va_sld hx hb hX hbl hbA hS (by unfold vp_in; decide) dL_law_1379 ?_
  refine lv_aload_n hx hb dL_law_1380 rfl (lv_at hl 3 rfl) ?_
  refine lv_iload_n hx hb dL_law_1381 rfl (lv_at hl 0 rfl) ?_
  refine lv_iconst (v := 2) hx hb dL_law_1382 (by decide) ?_
  refine lv_iadd hx hb dL_law_1383 ?_
  refine lv_topi (fun r2 er2 => ?_)
  have er2 : r2 = 2 := er2.trans (by decide)
  subst er2
  refine va_sld hx hb hX hbl hbA hS (by unfold vp_in; decide) dL_law_1384 ?_
  have hPc := hP.sub (ws' := [(x0, .inr (10, fx)), (lo, .inr (1, flo)), (ay, .inl (kay, 12, .inl gay)), (au, .inl (kau, 12, .inl gau)), (aw, .inl (kaw, 3, .inl gaw))]) [0, 1, 2, 3, 4] rfl
  have hDc := hD.sub (ws' := [(x0, .inr (10, fx)), (lo, .inr (1, flo)), (ay, .inl (kay, 12, .inl gay)), (au, .inl (kau, 12, .inl gau)), (aw, .inl (kaw, 3, .inl gaw))]) [0, 1, 2, 3, 4] (by decide) rfl
  have hKc := hK.sub (tys' := [(kay, .int), (kau, .int), (kaw, .int)]) [0, 1, 2] rfl
  have hFc := va_free (wc := [(x0, .inr (10, fx)), (lo, .inr (1, flo)), (ay, .inl (kay, 12, .inl gay)), (au, .inl (kau, 12, .inl gau)), (aw, .inl (kaw, 3, .inl gaw))]) hD hS hA [0, 1, 2, 3, 4] rfl
  refine va_calli (va_runV (As := [.int (xs (1 : Int32).toNatClampNeg), .int (xs (2 : Int32).toNatClampNeg)]) (rest := []) ⟨hx, hb, hml, hown, ht⟩ (ct_X10_drawing l dC dI x0 lo ay au aw (fx) (flo) kay gay kau gau kaw gaw hfx_5 hn_flo hflo_8 hflo_9 hflo_10 _ (xs (1 : Int32).toNatClampNeg) (xs (2 : Int32).toNatClampNeg)) (cwV 2 ht gv_L_156 rfl rfl rfl (by decide +kernel) ⟨Nat.le_of_ble_eq_true rfl, Nat.le_of_ble_eq_true rfl⟩) ⟨ro_blind, va_recv hKc hPc (ci := 10) (q0 := 0) rfl rfl, fun U hU hW => ⟨rfl, by rw [hU], by rw [hU]; exact hPc, va_K.moved hW.alike hKc, hDc.weaken (fun _ _ _ _ => trivial), ex_warm hW hE⟩⟩ rfl rfl hl.1 rfl (lv_room (Nat.le_of_ble_eq_true rfl)) dL_law_1385 ⟨Nat.le_of_ble_eq_true rfl, Nat.le_of_ble_eq_true rfl⟩) hS (fun q _ h => hFc q h) hFc (fun rr u t H1 locs ht1 hvm hw hB hz1 hk1 hS => ?_)
  subst hw
  obtain ⟨hP, hD⟩ := va_join (wr := [(m0, .inr (11, fm)), (mi, .inl (kmi, 12, .inl gmi)), (mj, .inl (kmj, 12, .inl gmj))]) (w1 := []) hP hD [0, 1, 2, 3, 4] [5, 6, 7] rfl rfl (by decide) (by decide) hk1 hFc (fun k q h => by simp at h) ⟨fun i j p q h => by simp at h, fun k q h => by simp at h⟩
  generalize H1 = H at hP hS ⊢
  have hP : va_P (dC, dI) vwCl [(m0, .inr (11, fm)), (mi, .inl (kmi, 12, .inl gmi)), (mj, .inl (kmj, 12, .inl gmj))] H := hP
  have hD : va_D (fun q => s.heap.size ≤ q) [(m0, .inr (11, fm)), (mi, .inl (kmi, 12, .inl gmi)), (mj, .inl (kmj, 12, .inl gmj))] := hD
  refine lv_aload_n hx hb dL_law_1388 rfl (lv_at hl 1 rfl) ?_
  refine lv_aload_n hx hb dL_law_1389 rfl (lv_at hl 3 rfl) ?_
  refine lv_iload_n hx hb dL_law_1390 rfl (lv_at hl 0 rfl) ?_
  refine lv_iconst (v := 1) hx hb dL_law_1391 (by decide) ?_
  refine lv_iadd hx hb dL_law_1392 ?_
  refine lv_topi (fun r3 er3 => ?_)
  have er3 : r3 = 1 := er3.trans (by decide)
  subst er3
  refine va_sld hx hb hX hbl hbA hS (by unfold vp_in; decide) dL_law_1393 ?_
  refine lv_aload_n hx hb dL_law_1394 rfl (lv_at hl 3 rfl) ?_
  refine lv_iload_n hx hb dL_law_1395 rfl (lv_at hl 0 rfl) ?_
  refine lv_iconst (v := 2) hx hb dL_law_1396 (by decide) ?_
  refine lv_iadd hx hb dL_law_1397 ?_
  refine lv_topi (fun r4 er4 => ?_)
  have er4 : r4 = 2 := er4.trans (by decide)
  subst er4
  refine va_sld hx hb hX hbl hbA hS (by unfold vp_in; decide) dL_law_1398 ?_
  have hPc := hP.sub (ws' := [(m0, .inr (11, fm)), (mi, .inl (kmi, 12, .inl gmi)), (mj, .inl (kmj, 12, .inl gmj))]) [0, 1, 2] rfl
  have hDc := hD.sub (ws' := [(m0, .inr (11, fm)), (mi, .inl (kmi, 12, .inl gmi)), (mj, .inl (kmj, 12, .inl gmj))]) [0, 1, 2] (by decide) rfl
  have hKc := hK.sub (tys' := [(kmi, .int), (kmj, .int)]) [3, 4] rfl
  have hFc := va_free (wc := [(m0, .inr (11, fm)), (mi, .inl (kmi, 12, .inl gmi)), (mj, .inl (kmj, 12, .inl gmj))]) hD hS hA [0, 1, 2] rfl
  refine va_calli (va_runV (As := [.int (xs (1 : Int32).toNatClampNeg), .int (xs (2 : Int32).toNatClampNeg)]) (rest := [.int (sp_X10_drawing (xs (1 : Int32).toNatClampNeg) (xs (2 : Int32).toNatClampNeg))]) ⟨hx, hb, hml, hown, ht⟩ (ct_X11_drawing l dC dI m0 mi mj (fm) kmi gmi kmj gmj hn_fm hfm_101 hfm_102 _ (xs (1 : Int32).toNatClampNeg) (xs (2 : Int32).toNatClampNeg)) (cwV 2 ht gv_L_159 rfl rfl rfl (by decide +kernel) ⟨Nat.le_of_ble_eq_true rfl, Nat.le_of_ble_eq_true rfl⟩) ⟨ro_blind, va_recv hKc hPc (ci := 11) (q0 := 0) rfl rfl, fun U hU hW => ⟨rfl, by rw [hU], by rw [hU]; exact hPc, va_K.moved hW.alike hKc, hDc.weaken (fun _ _ _ _ => trivial), ex_warm hW hE⟩⟩ rfl rfl hl.1 rfl (lv_room (Nat.le_of_ble_eq_true rfl)) dL_law_1399 ⟨Nat.le_of_ble_eq_true rfl, Nat.le_of_ble_eq_true rfl⟩) hS (fun q _ h => hFc q h) hFc (fun rr u t H1 locs ht1 hvm hw hB hz1 hk1 hS => ?_)
  subst hw
  obtain ⟨hP, hD⟩ := va_join (wr := []) (w1 := []) hP hD [0, 1, 2] [] rfl rfl (by decide) (by decide) hk1 hFc (fun k q h => by simp at h) ⟨fun i j p q h => by simp at h, fun k q h => by simp at h⟩
  generalize H1 = H at hP hS ⊢
  have hP : va_P (dC, dI) vwCl [] H := hP
  have hD : va_D (fun q => s.heap.size ≤ q) [] := hD
  refine lv_icmp_eq (tgt := 1627) hx hb dL_law_1402 (by decide) (fun c9 => ?_) (fun c9 => absurd (sq_drawing _ _) c9)
  exact lw_fin hL9 C0 (Nat.le_of_ble_eq_true rfl) (Nat.le_of_ble_eq_true rfl) hS hl
theorem kw_1330 : Cond.methodLink RL 160 yX10_pot ∈ lw_g := lw_at 1330 (by decide +kernel) rfl
theorem kw_1331 : Cond.instanceMethod yX10_pot ∈ lw_g := lw_at 1331 (by decide +kernel) rfl
theorem kw_1332 : Cond.selects RX10 yX10_pot yX10_pot ∈ lw_g := lw_at 1332 (by decide +kernel) rfl
theorem kw_1333 : Cond.code yX10_pot cX10_pot 3 (some .int) ∈ lw_g := lw_at 1333 (by decide +kernel) rfl
theorem gv_L_160 : GoodIn lw_g (wsV RL 160 RX10 yX10_pot (.code yX10_pot cX10_pot 3 (some .int) :: lw_g)) := gi_V kw_1330 kw_1331 kw_1332 kw_1 kw_1333
theorem kw_2203 : Cond.methodLink RL 163 yX11_pot ∈ lw_g := lw_at 2203 (by decide +kernel) rfl
theorem kw_2204 : Cond.instanceMethod yX11_pot ∈ lw_g := lw_at 2204 (by decide +kernel) rfl
theorem kw_2205 : Cond.selects RX11 yX11_pot yX11_pot ∈ lw_g := lw_at 2205 (by decide +kernel) rfl
theorem kw_2206 : Cond.code yX11_pot cX11_pot 6 (some .int) ∈ lw_g := lw_at 2206 (by decide +kernel) rfl
theorem gv_L_163 : GoodIn lw_g (wsV RL 163 RX11 yX11_pot (.code yX11_pot cX11_pot 6 (some .int) :: lw_g)) := gi_V kw_2203 kw_2204 kw_2205 kw_10 kw_2206
set_option maxHeartbeats 4000000 in
set_option maxRecDepth 100000 in
theorem lc_35 {p : Program} {l : Launch} {e : Env} {s : State} {m : MethodId} {below : List Frame} {meth : Method} {c : Code} {b L : Nat} {xs : Nat → Int32} (C0 : lw_At p s m meth c b L xs) (hL : L = 7) (hE : ex_E s) (hEa : ea_E (fun q => s.heap.size ≤ q) s) (dC : Nat → ClassId) (dI : Nat → Nat → Nat) (x0 : Nat) (th : Nat) (fx : List Value) (fth : List Value) (hfx_1 : fx[1]? = some (Value.ref th)) (hfth_2 : fth[2]? = some (Value.int 0)) (m0 : Nat) (fm : List Value) (hfm_12 : fm[12]? = some (Value.int 0)) {ls : Array Slot} {H : Heap} {locs : List Loc} (hK : va_K (dC, dI) vwCl [] s) (hP : va_P (dC, dI) vwCl [(x0, .inr (10, fx)), (th, .inr (8, fth)), (m0, .inr (11, fm))] H) (hD : va_D (fun q => s.heap.size ≤ q) [(x0, .inr (10, fx)), (th, .inr (8, fth)), (m0, .inr (11, fm))]) (hS : va_S (fun q => s.heap.size ≤ q) s.heap H locs) (hl : lv_has ls 4 [(3, .int 0), (2, .ref m0), (1, .ref x0), (0, .ref b)]) : W p l e room_1 s m #[Value.ref b] below meth c H locs 137 78294 (lw_Z below #[Value.ref b] s) (F0 m 1407 ls []) := by
  subst hL
  have hL9 : 7 ≤ 7 := Nat.le_refl 7
  obtain ⟨hx, hb, hr, hml, hown, hts, hX, hbl, hlocks, hgv⟩ := id C0
  have hb : c.code = cL_law := hb
  have hown : s.vm.findClass RL = some m.cls := hown
  have ht : ∀ w ∈ lw_g, w.before #[Value.ref b] s = true := fun w h => hts w (List.mem_filter.mp h).1
  have hA : ∀ q : Nat, s.heap.size ≤ q → (fun q => s.heap.size ≤ q) q := fun _ h => h
  have hbA : ¬ (fun q => s.heap.size ≤ q) b := Nat.not_le.mpr hbl
  refine lv_aload_n hx hb dL_law_1407 rfl (lv_at hl 2 rfl) ?_
  refine lv_aload_n hx hb dL_law_1408 rfl (lv_at hl 3 rfl) ?_
  refine lv_iload_n hx hb dL_law_1409 rfl (lv_at hl 0 rfl) ?_
  refine lv_iconst (v := 1) hx hb dL_law_1410 (by decide) ?_
  refine lv_iadd hx hb dL_law_1411 ?_
  refine lv_topi (fun r1 er1 => ?_)
  have er1 : r1 = 1 := er1.trans (by decide)
  subst er1
  refine va_sld hx hb hX hbl hbA hS (by unfold vp_in; decide) dL_law_1412 ?_
  refine lv_aload_n hx hb dL_law_1413 rfl (lv_at hl 3 rfl) ?_
  refine lv_iload_n hx hb dL_law_1414 rfl (lv_at hl 0 rfl) ?_
  refine lv_iconst (v := 2) hx hb dL_law_1415 (by decide) ?_
  refine lv_iadd hx hb dL_law_1416 ?_
  refine lv_topi (fun r2 er2 => ?_)
  have er2 : r2 = 2 := er2.trans (by decide)
  subst er2
  refine va_sld hx hb hX hbl hbA hS (by unfold vp_in; decide) dL_law_1417 ?_
  refine ro_callV (n := 2) (As := [.int (xs (1 : Int32).toNatClampNeg), .int (xs (2 : Int32).toNatClampNeg)]) (rest := []) hx hb hml hown ht hK hP (hD.weaken (fun _ _ _ _ => trivial)) hS hA hE (ct_X10_pot l dC dI x0 th fx fth hfx_1 hfth_2 _ (xs (1 : Int32).toNatClampNeg) (xs (2 : Int32).toNatClampNeg)) [0, 1] [] rfl (by decide) rfl 0 (ci := 10) rfl rfl rfl gv_L_160 rfl rfl (by decide +kernel) ⟨Nat.le_of_ble_eq_true rfl, Nat.le_of_ble_eq_true rfl⟩ rfl hl.1 (Nat.le_of_ble_eq_true rfl) ⟨Nat.le_of_ble_eq_true rfl, Nat.le_of_ble_eq_true rfl⟩ rfl dL_law_1418 (fun H locs hP hS => ?_)
  refine lv_aload_n hx hb dL_law_1421 rfl (lv_at hl 1 rfl) ?_
  refine lv_aload_n hx hb dL_law_1422 rfl (lv_at hl 3 rfl) ?_
  refine lv_iload_n hx hb dL_law_1423 rfl (lv_at hl 0 rfl) ?_
  refine lv_iconst (v := 1) hx hb dL_law_1424 (by decide) ?_
  refine lv_iadd hx hb dL_law_1425 ?_
  refine lv_topi (fun r3 er3 => ?_)
  have er3 : r3 = 1 := er3.trans (by decide)
  subst er3
  refine va_sld hx hb hX hbl hbA hS (by unfold vp_in; decide) dL_law_1426 ?_
  refine lv_aload_n hx hb dL_law_1427 rfl (lv_at hl 3 rfl) ?_
  refine lv_iload_n hx hb dL_law_1428 rfl (lv_at hl 0 rfl) ?_
  refine lv_iconst (v := 2) hx hb dL_law_1429 (by decide) ?_
  refine lv_iadd hx hb dL_law_1430 ?_
  refine lv_topi (fun r4 er4 => ?_)
  have er4 : r4 = 2 := er4.trans (by decide)
  subst er4
  refine va_sld hx hb hX hbl hbA hS (by unfold vp_in; decide) dL_law_1431 ?_
  refine ro_callV (n := 2) (As := [.int (xs (1 : Int32).toNatClampNeg), .int (xs (2 : Int32).toNatClampNeg)]) (rest := [.int (-2)]) hx hb hml hown ht hK hP (hD.weaken (fun _ _ _ _ => trivial)) hS hA hE (ct_X11_pot l dC dI m0 fm hfm_12 _ (xs (1 : Int32).toNatClampNeg) (xs (2 : Int32).toNatClampNeg)) [2] [] rfl (by decide) rfl 2 (ci := 11) rfl rfl rfl gv_L_163 rfl rfl (by decide +kernel) ⟨Nat.le_of_ble_eq_true rfl, Nat.le_of_ble_eq_true rfl⟩ rfl hl.1 (Nat.le_of_ble_eq_true rfl) ⟨Nat.le_of_ble_eq_true rfl, Nat.le_of_ble_eq_true rfl⟩ rfl dL_law_1432 (fun H locs hP hS => ?_)
  refine lv_icmp_eq (tgt := 1627) hx hb dL_law_1435 (by decide) (fun c5 => ?_) (fun c5 => ?_)
  rotate_left
  · exact absurd (by decide) c5
  exact lw_fin hL9 C0 (Nat.le_of_ble_eq_true rfl) (Nat.le_of_ble_eq_true rfl) hS hl
theorem kw_1338 : Cond.methodLink RL 164 yX10_ways ∈ lw_g := lw_at 1338 (by decide +kernel) rfl
theorem kw_1339 : Cond.instanceMethod yX10_ways ∈ lw_g := lw_at 1339 (by decide +kernel) rfl
theorem kw_1340 : Cond.selects RX10 yX10_ways yX10_ways ∈ lw_g := lw_at 1340 (by decide +kernel) rfl
theorem kw_1341 : Cond.code yX10_ways cX10_ways 1 (some .int) ∈ lw_g := lw_at 1341 (by decide +kernel) rfl
theorem gv_L_164 : GoodIn lw_g (wsV RL 164 RX10 yX10_ways (.code yX10_ways cX10_ways 1 (some .int) :: lw_g)) := gi_V kw_1338 kw_1339 kw_1340 kw_1 kw_1341
theorem kw_2211 : Cond.methodLink RL 167 yX11_ways ∈ lw_g := lw_at 2211 (by decide +kernel) rfl
theorem kw_2212 : Cond.instanceMethod yX11_ways ∈ lw_g := lw_at 2212 (by decide +kernel) rfl
theorem kw_2213 : Cond.selects RX11 yX11_ways yX11_ways ∈ lw_g := lw_at 2213 (by decide +kernel) rfl
theorem kw_2214 : Cond.code yX11_ways cX11_ways 1 (some .int) ∈ lw_g := lw_at 2214 (by decide +kernel) rfl
theorem gv_L_167 : GoodIn lw_g (wsV RL 167 RX11 yX11_ways (.code yX11_ways cX11_ways 1 (some .int) :: lw_g)) := gi_V kw_2211 kw_2212 kw_2213 kw_10 kw_2214
set_option maxHeartbeats 4000000 in
set_option maxRecDepth 100000 in
theorem lc_36 {p : Program} {l : Launch} {e : Env} {s : State} {m : MethodId} {below : List Frame} {meth : Method} {c : Code} {b L : Nat} {xs : Nat → Int32} (C0 : lw_At p s m meth c b L xs) (hL : L = 7) (hE : ex_E s) (hEa : ea_E (fun q => s.heap.size ≤ q) s) (dC : Nat → ClassId) (dI : Nat → Nat → Nat) (x0 : Nat) (lo : Nat) (fx : List Value) (flo : List Value) (hfx_5 : fx[5]? = some (Value.ref lo)) (hflo_1 : flo[1]? = some (Value.int 0)) (m0 : Nat) (fm : List Value) (hfm_98 : fm[98]? = some (Value.int 0)) {ls : Array Slot} {H : Heap} {locs : List Loc} (hK : va_K (dC, dI) vwCl [] s) (hP : va_P (dC, dI) vwCl [(x0, .inr (10, fx)), (lo, .inr (1, flo)), (m0, .inr (11, fm))] H) (hD : va_D (fun q => s.heap.size ≤ q) [(x0, .inr (10, fx)), (lo, .inr (1, flo)), (m0, .inr (11, fm))]) (hS : va_S (fun q => s.heap.size ≤ q) s.heap H locs) (hl : lv_has ls 4 [(3, .int 0), (2, .ref m0), (1, .ref x0), (0, .ref b)]) : W p l e room_1 s m #[Value.ref b] below meth c H locs 137 78294 (lw_Z below #[Value.ref b] s) (F0 m 1440 ls []) := by
  subst hL
  have hL9 : 7 ≤ 7 := Nat.le_refl 7
  obtain ⟨hx, hb, hr, hml, hown, hts, hX, hbl, hlocks, hgv⟩ := id C0
  have hb : c.code = cL_law := hb
  have hown : s.vm.findClass RL = some m.cls := hown
  have ht : ∀ w ∈ lw_g, w.before #[Value.ref b] s = true := fun w h => hts w (List.mem_filter.mp h).1
  have hA : ∀ q : Nat, s.heap.size ≤ q → (fun q => s.heap.size ≤ q) q := fun _ h => h
  have hbA : ¬ (fun q => s.heap.size ≤ q) b := Nat.not_le.mpr hbl
  refine lv_aload_n hx hb dL_law_1440 rfl (lv_at hl 2 rfl) ?_
  refine ro_callV (n := 0) (As := []) (rest := []) hx hb hml hown ht hK hP (hD.weaken (fun _ _ _ _ => trivial)) hS hA hE (ct_X10_ways l dC dI x0 lo fx flo hfx_5 hflo_1 _ ) [0, 1] [] rfl (by decide) rfl 0 (ci := 10) rfl rfl rfl gv_L_164 rfl rfl (by decide +kernel) ⟨Nat.le_of_ble_eq_true rfl, Nat.le_of_ble_eq_true rfl⟩ rfl hl.1 (Nat.le_of_ble_eq_true rfl) ⟨Nat.le_of_ble_eq_true rfl, Nat.le_of_ble_eq_true rfl⟩ rfl dL_law_1441 (fun H locs hP hS => ?_)
  refine lv_aload_n hx hb dL_law_1444 rfl (lv_at hl 1 rfl) ?_
  refine ro_callV (n := 0) (As := []) (rest := [.int (-4)]) hx hb hml hown ht hK hP (hD.weaken (fun _ _ _ _ => trivial)) hS hA hE (ct_X11_ways l dC dI m0 fm hfm_98 _ ) [2] [] rfl (by decide) rfl 2 (ci := 11) rfl rfl rfl gv_L_167 rfl rfl (by decide +kernel) ⟨Nat.le_of_ble_eq_true rfl, Nat.le_of_ble_eq_true rfl⟩ rfl hl.1 (Nat.le_of_ble_eq_true rfl) ⟨Nat.le_of_ble_eq_true rfl, Nat.le_of_ble_eq_true rfl⟩ rfl dL_law_1445 (fun H locs hP hS => ?_)
  refine lv_icmp_eq (tgt := 1627) hx hb dL_law_1448 (by decide) (fun c1 => ?_) (fun c1 => ?_)
  rotate_left
  · exact absurd (by decide) c1
  exact lw_fin hL9 C0 (Nat.le_of_ble_eq_true rfl) (Nat.le_of_ble_eq_true rfl) hS hl
theorem kw_1350 : Cond.methodLink RL 168 yX10_chance ∈ lw_g := lw_at 1350 (by decide +kernel) rfl
theorem kw_1351 : Cond.instanceMethod yX10_chance ∈ lw_g := lw_at 1351 (by decide +kernel) rfl
theorem kw_1352 : Cond.selects RX10 yX10_chance yX10_chance ∈ lw_g := lw_at 1352 (by decide +kernel) rfl
theorem kw_1353 : Cond.code yX10_chance cX10_chance 3 (some .int) ∈ lw_g := lw_at 1353 (by decide +kernel) rfl
theorem gv_L_168 : GoodIn lw_g (wsV RL 168 RX10 yX10_chance (.code yX10_chance cX10_chance 3 (some .int) :: lw_g)) := gi_V kw_1350 kw_1351 kw_1352 kw_1 kw_1353
theorem kw_2223 : Cond.methodLink RL 171 yX11_chance ∈ lw_g := lw_at 2223 (by decide +kernel) rfl
theorem kw_2224 : Cond.instanceMethod yX11_chance ∈ lw_g := lw_at 2224 (by decide +kernel) rfl
theorem kw_2225 : Cond.selects RX11 yX11_chance yX11_chance ∈ lw_g := lw_at 2225 (by decide +kernel) rfl
theorem kw_2226 : Cond.code yX11_chance cX11_chance 3 (some .int) ∈ lw_g := lw_at 2226 (by decide +kernel) rfl
theorem gv_L_171 : GoodIn lw_g (wsV RL 171 RX11 yX11_chance (.code yX11_chance cX11_chance 3 (some .int) :: lw_g)) := gi_V kw_2223 kw_2224 kw_2225 kw_10 kw_2226
set_option maxHeartbeats 4000000 in
set_option maxRecDepth 100000 in
theorem lc_37 {p : Program} {l : Launch} {e : Env} {s : State} {m : MethodId} {below : List Frame} {meth : Method} {c : Code} {b L : Nat} {xs : Nat → Int32} (C0 : lw_At p s m meth c b L xs) (hL : L = 7) (hE : ex_E s) (hEa : ea_E (fun q => s.heap.size ≤ q) s) (dC : Nat → ClassId) (dI : Nat → Nat → Nat) (x0 : Nat) (th : Nat) (fx : List Value) (fth : List Value) (hfx_1 : fx[1]? = some (Value.ref th)) (hfth_2 : fth[2]? = some (Value.int 0)) (m0 : Nat) (fm : List Value) (hfm_12 : fm[12]? = some (Value.int 0)) {ls : Array Slot} {H : Heap} {locs : List Loc} (hK : va_K (dC, dI) vwCl [] s) (hP : va_P (dC, dI) vwCl [(x0, .inr (10, fx)), (th, .inr (8, fth)), (m0, .inr (11, fm))] H) (hD : va_D (fun q => s.heap.size ≤ q) [(x0, .inr (10, fx)), (th, .inr (8, fth)), (m0, .inr (11, fm))]) (hS : va_S (fun q => s.heap.size ≤ q) s.heap H locs) (hl : lv_has ls 4 [(3, .int 0), (2, .ref m0), (1, .ref x0), (0, .ref b)]) : W p l e room_1 s m #[Value.ref b] below meth c H locs 137 78294 (lw_Z below #[Value.ref b] s) (F0 m 1453 ls []) := by
  subst hL
  have hL9 : 7 ≤ 7 := Nat.le_refl 7
  obtain ⟨hx, hb, hr, hml, hown, hts, hX, hbl, hlocks, hgv⟩ := id C0
  have hb : c.code = cL_law := hb
  have hown : s.vm.findClass RL = some m.cls := hown
  have ht : ∀ w ∈ lw_g, w.before #[Value.ref b] s = true := fun w h => hts w (List.mem_filter.mp h).1
  have hA : ∀ q : Nat, s.heap.size ≤ q → (fun q => s.heap.size ≤ q) q := fun _ h => h
  have hbA : ¬ (fun q => s.heap.size ≤ q) b := Nat.not_le.mpr hbl
  refine lv_aload_n hx hb dL_law_1453 rfl (lv_at hl 2 rfl) ?_
  refine lv_aload_n hx hb dL_law_1454 rfl (lv_at hl 3 rfl) ?_
  refine lv_iload_n hx hb dL_law_1455 rfl (lv_at hl 0 rfl) ?_
  refine lv_iconst (v := 1) hx hb dL_law_1456 (by decide) ?_
  refine lv_iadd hx hb dL_law_1457 ?_
  refine lv_topi (fun r1 er1 => ?_)
  have er1 : r1 = 1 := er1.trans (by decide)
  subst er1
  refine va_sld hx hb hX hbl hbA hS (by unfold vp_in; decide) dL_law_1458 ?_
  refine lv_aload_n hx hb dL_law_1459 rfl (lv_at hl 3 rfl) ?_
  refine lv_iload_n hx hb dL_law_1460 rfl (lv_at hl 0 rfl) ?_
  refine lv_iconst (v := 2) hx hb dL_law_1461 (by decide) ?_
  refine lv_iadd hx hb dL_law_1462 ?_
  refine lv_topi (fun r2 er2 => ?_)
  have er2 : r2 = 2 := er2.trans (by decide)
  subst er2
  refine va_sld hx hb hX hbl hbA hS (by unfold vp_in; decide) dL_law_1463 ?_
  refine ro_callV (n := 2) (As := [.int (xs (1 : Int32).toNatClampNeg), .int (xs (2 : Int32).toNatClampNeg)]) (rest := []) hx hb hml hown ht hK hP (hD.weaken (fun _ _ _ _ => trivial)) hS hA hE (ct_X10_chance l dC dI x0 th fx fth hfx_1 hfth_2 _ (xs (1 : Int32).toNatClampNeg) (xs (2 : Int32).toNatClampNeg)) [0, 1] [] rfl (by decide) rfl 0 (ci := 10) rfl rfl rfl gv_L_168 rfl rfl (by decide +kernel) ⟨Nat.le_of_ble_eq_true rfl, Nat.le_of_ble_eq_true rfl⟩ rfl hl.1 (Nat.le_of_ble_eq_true rfl) ⟨Nat.le_of_ble_eq_true rfl, Nat.le_of_ble_eq_true rfl⟩ rfl dL_law_1464 (fun H locs hP hS => ?_)
  refine lv_aload_n hx hb dL_law_1467 rfl (lv_at hl 1 rfl) ?_
  refine lv_aload_n hx hb dL_law_1468 rfl (lv_at hl 3 rfl) ?_
  refine lv_iload_n hx hb dL_law_1469 rfl (lv_at hl 0 rfl) ?_
  refine lv_iconst (v := 1) hx hb dL_law_1470 (by decide) ?_
  refine lv_iadd hx hb dL_law_1471 ?_
  refine lv_topi (fun r3 er3 => ?_)
  have er3 : r3 = 1 := er3.trans (by decide)
  subst er3
  refine va_sld hx hb hX hbl hbA hS (by unfold vp_in; decide) dL_law_1472 ?_
  refine lv_aload_n hx hb dL_law_1473 rfl (lv_at hl 3 rfl) ?_
  refine lv_iload_n hx hb dL_law_1474 rfl (lv_at hl 0 rfl) ?_
  refine lv_iconst (v := 2) hx hb dL_law_1475 (by decide) ?_
  refine lv_iadd hx hb dL_law_1476 ?_
  refine lv_topi (fun r4 er4 => ?_)
  have er4 : r4 = 2 := er4.trans (by decide)
  subst er4
  refine va_sld hx hb hX hbl hbA hS (by unfold vp_in; decide) dL_law_1477 ?_
  refine ro_callV (n := 2) (As := [.int (xs (1 : Int32).toNatClampNeg), .int (xs (2 : Int32).toNatClampNeg)]) (rest := [.int (-2)]) hx hb hml hown ht hK hP (hD.weaken (fun _ _ _ _ => trivial)) hS hA hE (ct_X11_chance l dC dI m0 fm hfm_12 _ (xs (1 : Int32).toNatClampNeg) (xs (2 : Int32).toNatClampNeg)) [2] [] rfl (by decide) rfl 2 (ci := 11) rfl rfl rfl gv_L_171 rfl rfl (by decide +kernel) ⟨Nat.le_of_ble_eq_true rfl, Nat.le_of_ble_eq_true rfl⟩ rfl hl.1 (Nat.le_of_ble_eq_true rfl) ⟨Nat.le_of_ble_eq_true rfl, Nat.le_of_ble_eq_true rfl⟩ rfl dL_law_1478 (fun H locs hP hS => ?_)
  refine lv_icmp_eq (tgt := 1627) hx hb dL_law_1481 (by decide) (fun c5 => ?_) (fun c5 => ?_)
  rotate_left
  · exact absurd (by decide) c5
  exact lw_fin hL9 C0 (Nat.le_of_ble_eq_true rfl) (Nat.le_of_ble_eq_true rfl) hS hl
theorem kw_1358 : Cond.methodLink RL 172 yX10_ball ∈ lw_g := lw_at 1358 (by decide +kernel) rfl
theorem kw_1359 : Cond.instanceMethod yX10_ball ∈ lw_g := lw_at 1359 (by decide +kernel) rfl
theorem kw_1360 : Cond.selects RX10 yX10_ball yX10_ball ∈ lw_g := lw_at 1360 (by decide +kernel) rfl
theorem kw_1361 : Cond.code yX10_ball cX10_ball 4 (some .int) ∈ lw_g := lw_at 1361 (by decide +kernel) rfl
theorem gv_L_172 : GoodIn lw_g (wsV RL 172 RX10 yX10_ball (.code yX10_ball cX10_ball 4 (some .int) :: lw_g)) := gi_V kw_1358 kw_1359 kw_1360 kw_1 kw_1361
theorem kw_2231 : Cond.methodLink RL 176 yX11_ball ∈ lw_g := lw_at 2231 (by decide +kernel) rfl
theorem kw_2232 : Cond.instanceMethod yX11_ball ∈ lw_g := lw_at 2232 (by decide +kernel) rfl
theorem kw_2233 : Cond.selects RX11 yX11_ball yX11_ball ∈ lw_g := lw_at 2233 (by decide +kernel) rfl
theorem kw_2234 : Cond.code yX11_ball cX11_ball 12 (some .int) ∈ lw_g := lw_at 2234 (by decide +kernel) rfl
theorem gv_L_176 : GoodIn lw_g (wsV RL 176 RX11 yX11_ball (.code yX11_ball cX11_ball 12 (some .int) :: lw_g)) := gi_V kw_2231 kw_2232 kw_2233 kw_10 kw_2234
set_option maxHeartbeats 4000000 in
set_option maxRecDepth 100000 in
theorem lc_38 {p : Program} {l : Launch} {e : Env} {s : State} {m : MethodId} {below : List Frame} {meth : Method} {c : Code} {b L : Nat} {xs : Nat → Int32} (C0 : lw_At p s m meth c b L xs) (hL : L = 7) (hE : ex_E s) (hEa : ea_E (fun q => s.heap.size ≤ q) s) (dC : Nat → ClassId) (dI : Nat → Nat → Nat) (x0 : Nat) (lo : Nat) (fx : List Value) (flo : List Value) (hfx_5 : fx[5]? = some (Value.ref lo)) (hflo_1 : flo[1]? = some (Value.int 0)) (m0 : Nat) (fm : List Value) (hfm_12 : fm[12]? = some (Value.int 0)) (hfm_98 : fm[98]? = some (Value.int 0)) {ls : Array Slot} {H : Heap} {locs : List Loc} (hK : va_K (dC, dI) vwCl [] s) (hP : va_P (dC, dI) vwCl [(x0, .inr (10, fx)), (lo, .inr (1, flo)), (m0, .inr (11, fm))] H) (hD : va_D (fun q => s.heap.size ≤ q) [(x0, .inr (10, fx)), (lo, .inr (1, flo)), (m0, .inr (11, fm))]) (hS : va_S (fun q => s.heap.size ≤ q) s.heap H locs) (hl : lv_has ls 4 [(3, .int 0), (2, .ref m0), (1, .ref x0), (0, .ref b)]) : W p l e room_1 s m #[Value.ref b] below meth c H locs 137 78294 (lw_Z below #[Value.ref b] s) (F0 m 1486 ls []) := by
  subst hL
  have hL9 : 7 ≤ 7 := Nat.le_refl 7
  obtain ⟨hx, hb, hr, hml, hown, hts, hX, hbl, hlocks, hgv⟩ := id C0
  have hb : c.code = cL_law := hb
  have hown : s.vm.findClass RL = some m.cls := hown
  have ht : ∀ w ∈ lw_g, w.before #[Value.ref b] s = true := fun w h => hts w (List.mem_filter.mp h).1
  have hA : ∀ q : Nat, s.heap.size ≤ q → (fun q => s.heap.size ≤ q) q := fun _ h => h
  have hbA : ¬ (fun q => s.heap.size ≤ q) b := Nat.not_le.mpr hbl
  refine lv_aload_n hx hb dL_law_1486 rfl (lv_at hl 2 rfl) ?_
  refine lv_aload_n hx hb dL_law_1487 rfl (lv_at hl 3 rfl) ?_
  refine lv_iload_n hx hb dL_law_1488 rfl (lv_at hl 0 rfl) ?_
  refine lv_iconst (v := 1) hx hb dL_law_1489 (by decide) ?_
  refine lv_iadd hx hb dL_law_1490 ?_
  refine lv_topi (fun r1 er1 => ?_)
  have er1 : r1 = 1 := er1.trans (by decide)
  subst er1
  refine va_sld hx hb hX hbl hbA hS (by unfold vp_in; decide) dL_law_1491 ?_
  refine lv_aload_n hx hb dL_law_1492 rfl (lv_at hl 3 rfl) ?_
  refine lv_iload_n hx hb dL_law_1493 rfl (lv_at hl 0 rfl) ?_
  refine lv_iconst (v := 2) hx hb dL_law_1494 (by decide) ?_
  refine lv_iadd hx hb dL_law_1495 ?_
  refine lv_topi (fun r2 er2 => ?_)
  have er2 : r2 = 2 := er2.trans (by decide)
  subst er2
  refine va_sld hx hb hX hbl hbA hS (by unfold vp_in; decide) dL_law_1496 ?_
  refine lv_if_eq (tgt := 1504) hx hb dL_law_1497 (by decide) (fun c3 => ?_) (fun c3 => ?_)
  · refine lv_iconst (v := 0) hx hb dL_law_1504 (by decide) ?_
    refine ro_callV (n := 2) (As := [.int (xs (1 : Int32).toNatClampNeg), .int 0]) (rest := []) hx hb hml hown ht hK hP (hD.weaken (fun _ _ _ _ => trivial)) hS hA hE (ct_X10_ball l dC dI x0 lo fx flo hfx_5 hflo_1 _ (xs (1 : Int32).toNatClampNeg) 0) [0, 1] [] rfl (by decide) rfl 0 (ci := 10) rfl rfl rfl gv_L_172 rfl rfl (by decide +kernel) ⟨Nat.le_of_ble_eq_true rfl, Nat.le_of_ble_eq_true rfl⟩ rfl hl.1 (Nat.le_of_ble_eq_true rfl) ⟨Nat.le_of_ble_eq_true rfl, Nat.le_of_ble_eq_true rfl⟩ rfl dL_law_1505 (fun H locs hP hS => ?_)
    refine lv_aload_n hx hb dL_law_1508 rfl (lv_at hl 1 rfl) ?_
    refine lv_aload_n hx hb dL_law_1509 rfl (lv_at hl 3 rfl) ?_
    refine lv_iload_n hx hb dL_law_1510 rfl (lv_at hl 0 rfl) ?_
    refine lv_iconst (v := 1) hx hb dL_law_1511 (by decide) ?_
    refine lv_iadd hx hb dL_law_1512 ?_
    refine lv_topi (fun r4 er4 => ?_)
    have er4 : r4 = 1 := er4.trans (by decide)
    subst er4
    refine va_sld hx hb hX hbl hbA hS (by unfold vp_in; decide) dL_law_1513 ?_
    refine lv_aload_n hx hb dL_law_1514 rfl (lv_at hl 3 rfl) ?_
    refine lv_iload_n hx hb dL_law_1515 rfl (lv_at hl 0 rfl) ?_
    refine lv_iconst (v := 2) hx hb dL_law_1516 (by decide) ?_
    refine lv_iadd hx hb dL_law_1517 ?_
    refine lv_topi (fun r5 er5 => ?_)
    have er5 : r5 = 2 := er5.trans (by decide)
    subst er5
    refine va_sld hx hb hX hbl hbA hS (by unfold vp_in; decide) dL_law_1518 ?_
    refine lv_if_eq (tgt := 1526) hx hb dL_law_1519 (by decide) (fun c6 => ?_) (fun c6 => ?_)
    · refine lv_iconst (v := 0) hx hb dL_law_1526 (by decide) ?_
      refine ro_callV (n := 2) (As := [.int (xs (1 : Int32).toNatClampNeg), .int 0]) (rest := [.int (-4)]) hx hb hml hown ht hK hP (hD.weaken (fun _ _ _ _ => trivial)) hS hA hE (ct_X11_ball l dC dI m0 fm hfm_12 hfm_98 _ (xs (1 : Int32).toNatClampNeg) 0) [2] [] rfl (by decide) rfl 2 (ci := 11) rfl rfl rfl gv_L_176 rfl rfl (by decide +kernel) ⟨Nat.le_of_ble_eq_true rfl, Nat.le_of_ble_eq_true rfl⟩ rfl hl.1 (Nat.le_of_ble_eq_true rfl) ⟨Nat.le_of_ble_eq_true rfl, Nat.le_of_ble_eq_true rfl⟩ rfl dL_law_1527 (fun H locs hP hS => ?_)
      refine lv_icmp_eq (tgt := 1627) hx hb dL_law_1530 (by decide) (fun c7 => ?_) (fun c7 => ?_)
      rotate_left
      · exact absurd (by decide) c7
      exact lw_fin hL9 C0 (Nat.le_of_ble_eq_true rfl) (Nat.le_of_ble_eq_true rfl) hS hl
    · refine lv_iconst (v := 1) hx hb dL_law_1522 (by decide) ?_
      refine lv_goto (tgt := 1527) hx hb dL_law_1523 (by decide) ?_
      refine ro_callV (n := 2) (As := [.int (xs (1 : Int32).toNatClampNeg), .int 1]) (rest := [.int (-4)]) hx hb hml hown ht hK hP (hD.weaken (fun _ _ _ _ => trivial)) hS hA hE (ct_X11_ball l dC dI m0 fm hfm_12 hfm_98 _ (xs (1 : Int32).toNatClampNeg) 1) [2] [] rfl (by decide) rfl 2 (ci := 11) rfl rfl rfl gv_L_176 rfl rfl (by decide +kernel) ⟨Nat.le_of_ble_eq_true rfl, Nat.le_of_ble_eq_true rfl⟩ rfl hl.1 (Nat.le_of_ble_eq_true rfl) ⟨Nat.le_of_ble_eq_true rfl, Nat.le_of_ble_eq_true rfl⟩ rfl dL_law_1527 (fun H locs hP hS => ?_)
      refine lv_icmp_eq (tgt := 1627) hx hb dL_law_1530 (by decide) (fun c8 => ?_) (fun c8 => ?_)
      rotate_left
      · exact absurd (by decide) c8
      exact lw_fin hL9 C0 (Nat.le_of_ble_eq_true rfl) (Nat.le_of_ble_eq_true rfl) hS hl
  · refine lv_iconst (v := 1) hx hb dL_law_1500 (by decide) ?_
    refine lv_goto (tgt := 1505) hx hb dL_law_1501 (by decide) ?_
    refine ro_callV (n := 2) (As := [.int (xs (1 : Int32).toNatClampNeg), .int 1]) (rest := []) hx hb hml hown ht hK hP (hD.weaken (fun _ _ _ _ => trivial)) hS hA hE (ct_X10_ball l dC dI x0 lo fx flo hfx_5 hflo_1 _ (xs (1 : Int32).toNatClampNeg) 1) [0, 1] [] rfl (by decide) rfl 0 (ci := 10) rfl rfl rfl gv_L_172 rfl rfl (by decide +kernel) ⟨Nat.le_of_ble_eq_true rfl, Nat.le_of_ble_eq_true rfl⟩ rfl hl.1 (Nat.le_of_ble_eq_true rfl) ⟨Nat.le_of_ble_eq_true rfl, Nat.le_of_ble_eq_true rfl⟩ rfl dL_law_1505 (fun H locs hP hS => ?_)
    refine lv_aload_n hx hb dL_law_1508 rfl (lv_at hl 1 rfl) ?_
    refine lv_aload_n hx hb dL_law_1509 rfl (lv_at hl 3 rfl) ?_
    refine lv_iload_n hx hb dL_law_1510 rfl (lv_at hl 0 rfl) ?_
    refine lv_iconst (v := 1) hx hb dL_law_1511 (by decide) ?_
    refine lv_iadd hx hb dL_law_1512 ?_
    refine lv_topi (fun r9 er9 => ?_)
    have er9 : r9 = 1 := er9.trans (by decide)
    subst er9
    refine va_sld hx hb hX hbl hbA hS (by unfold vp_in; decide) dL_law_1513 ?_
    refine lv_aload_n hx hb dL_law_1514 rfl (lv_at hl 3 rfl) ?_
    refine lv_iload_n hx hb dL_law_1515 rfl (lv_at hl 0 rfl) ?_
    refine lv_iconst (v := 2) hx hb dL_law_1516 (by decide) ?_
    refine lv_iadd hx hb dL_law_1517 ?_
    refine lv_topi (fun r10 er10 => ?_)
    have er10 : r10 = 2 := er10.trans (by decide)
    subst er10
    refine va_sld hx hb hX hbl hbA hS (by unfold vp_in; decide) dL_law_1518 ?_
    refine lv_if_eq (tgt := 1526) hx hb dL_law_1519 (by decide) (fun c11 => ?_) (fun c11 => ?_)
    · refine lv_iconst (v := 0) hx hb dL_law_1526 (by decide) ?_
      refine ro_callV (n := 2) (As := [.int (xs (1 : Int32).toNatClampNeg), .int 0]) (rest := [.int (-4)]) hx hb hml hown ht hK hP (hD.weaken (fun _ _ _ _ => trivial)) hS hA hE (ct_X11_ball l dC dI m0 fm hfm_12 hfm_98 _ (xs (1 : Int32).toNatClampNeg) 0) [2] [] rfl (by decide) rfl 2 (ci := 11) rfl rfl rfl gv_L_176 rfl rfl (by decide +kernel) ⟨Nat.le_of_ble_eq_true rfl, Nat.le_of_ble_eq_true rfl⟩ rfl hl.1 (Nat.le_of_ble_eq_true rfl) ⟨Nat.le_of_ble_eq_true rfl, Nat.le_of_ble_eq_true rfl⟩ rfl dL_law_1527 (fun H locs hP hS => ?_)
      refine lv_icmp_eq (tgt := 1627) hx hb dL_law_1530 (by decide) (fun c12 => ?_) (fun c12 => ?_)
      rotate_left
      · exact absurd (by decide) c12
      exact lw_fin hL9 C0 (Nat.le_of_ble_eq_true rfl) (Nat.le_of_ble_eq_true rfl) hS hl
    · refine lv_iconst (v := 1) hx hb dL_law_1522 (by decide) ?_
      refine lv_goto (tgt := 1527) hx hb dL_law_1523 (by decide) ?_
      refine ro_callV (n := 2) (As := [.int (xs (1 : Int32).toNatClampNeg), .int 1]) (rest := [.int (-4)]) hx hb hml hown ht hK hP (hD.weaken (fun _ _ _ _ => trivial)) hS hA hE (ct_X11_ball l dC dI m0 fm hfm_12 hfm_98 _ (xs (1 : Int32).toNatClampNeg) 1) [2] [] rfl (by decide) rfl 2 (ci := 11) rfl rfl rfl gv_L_176 rfl rfl (by decide +kernel) ⟨Nat.le_of_ble_eq_true rfl, Nat.le_of_ble_eq_true rfl⟩ rfl hl.1 (Nat.le_of_ble_eq_true rfl) ⟨Nat.le_of_ble_eq_true rfl, Nat.le_of_ble_eq_true rfl⟩ rfl dL_law_1527 (fun H locs hP hS => ?_)
      refine lv_icmp_eq (tgt := 1627) hx hb dL_law_1530 (by decide) (fun c13 => ?_) (fun c13 => ?_)
      rotate_left
      · exact absurd (by decide) c13
      exact lw_fin hL9 C0 (Nat.le_of_ble_eq_true rfl) (Nat.le_of_ble_eq_true rfl) hS hl
theorem kw_1378 : Cond.methodLink RL 177 yX10_drawn ∈ lw_g := lw_at 1378 (by decide +kernel) rfl
theorem kw_1379 : Cond.instanceMethod yX10_drawn ∈ lw_g := lw_at 1379 (by decide +kernel) rfl
theorem kw_1380 : Cond.selects RX10 yX10_drawn yX10_drawn ∈ lw_g := lw_at 1380 (by decide +kernel) rfl
theorem kw_1381 : Cond.code yX10_drawn cX10_drawn 2 (some .int) ∈ lw_g := lw_at 1381 (by decide +kernel) rfl
theorem gv_L_177 : GoodIn lw_g (wsV RL 177 RX10 yX10_drawn (.code yX10_drawn cX10_drawn 2 (some .int) :: lw_g)) := gi_V kw_1378 kw_1379 kw_1380 kw_1 kw_1381
theorem kw_2242 : Cond.methodLink RL 180 yX11_drawn ∈ lw_g := lw_at 2242 (by decide +kernel) rfl
theorem kw_2243 : Cond.instanceMethod yX11_drawn ∈ lw_g := lw_at 2243 (by decide +kernel) rfl
theorem kw_2244 : Cond.selects RX11 yX11_drawn yX11_drawn ∈ lw_g := lw_at 2244 (by decide +kernel) rfl
theorem kw_2245 : Cond.code yX11_drawn cX11_drawn 2 (some .int) ∈ lw_g := lw_at 2245 (by decide +kernel) rfl
theorem gv_L_180 : GoodIn lw_g (wsV RL 180 RX11 yX11_drawn (.code yX11_drawn cX11_drawn 2 (some .int) :: lw_g)) := gi_V kw_2242 kw_2243 kw_2244 kw_10 kw_2245
set_option maxHeartbeats 4000000 in
set_option maxRecDepth 100000 in
theorem lc_39 {p : Program} {l : Launch} {e : Env} {s : State} {m : MethodId} {below : List Frame} {meth : Method} {c : Code} {b L : Nat} {xs : Nat → Int32} (C0 : lw_At p s m meth c b L xs) (hL : L = 7) (hE : ex_E s) (hEa : ea_E (fun q => s.heap.size ≤ q) s) (dC : Nat → ClassId) (dI : Nat → Nat → Nat) (x0 : Nat) (th : Nat) (fx : List Value) (fth : List Value) (hfx_1 : fx[1]? = some (Value.ref th)) (hfth_2 : fth[2]? = some (Value.int 0)) (m0 : Nat) (fm : List Value) (hfm_12 : fm[12]? = some (Value.int 0)) {ls : Array Slot} {H : Heap} {locs : List Loc} (hK : va_K (dC, dI) vwCl [] s) (hP : va_P (dC, dI) vwCl [(x0, .inr (10, fx)), (th, .inr (8, fth)), (m0, .inr (11, fm))] H) (hD : va_D (fun q => s.heap.size ≤ q) [(x0, .inr (10, fx)), (th, .inr (8, fth)), (m0, .inr (11, fm))]) (hS : va_S (fun q => s.heap.size ≤ q) s.heap H locs) (hl : lv_has ls 4 [(3, .int 0), (2, .ref m0), (1, .ref x0), (0, .ref b)]) : W p l e room_1 s m #[Value.ref b] below meth c H locs 137 78294 (lw_Z below #[Value.ref b] s) (F0 m 1535 ls []) := by
  subst hL
  have hL9 : 7 ≤ 7 := Nat.le_refl 7
  obtain ⟨hx, hb, hr, hml, hown, hts, hX, hbl, hlocks, hgv⟩ := id C0
  have hb : c.code = cL_law := hb
  have hown : s.vm.findClass RL = some m.cls := hown
  have ht : ∀ w ∈ lw_g, w.before #[Value.ref b] s = true := fun w h => hts w (List.mem_filter.mp h).1
  have hA : ∀ q : Nat, s.heap.size ≤ q → (fun q => s.heap.size ≤ q) q := fun _ h => h
  have hbA : ¬ (fun q => s.heap.size ≤ q) b := Nat.not_le.mpr hbl
  refine lv_aload_n hx hb dL_law_1535 rfl (lv_at hl 2 rfl) ?_
  refine lv_aload_n hx hb dL_law_1536 rfl (lv_at hl 3 rfl) ?_
  refine lv_iload_n hx hb dL_law_1537 rfl (lv_at hl 0 rfl) ?_
  refine lv_iconst (v := 1) hx hb dL_law_1538 (by decide) ?_
  refine lv_iadd hx hb dL_law_1539 ?_
  refine lv_topi (fun r1 er1 => ?_)
  have er1 : r1 = 1 := er1.trans (by decide)
  subst er1
  refine va_sld hx hb hX hbl hbA hS (by unfold vp_in; decide) dL_law_1540 ?_
  refine ro_callV (n := 1) (As := [.int (xs (1 : Int32).toNatClampNeg)]) (rest := []) hx hb hml hown ht hK hP (hD.weaken (fun _ _ _ _ => trivial)) hS hA hE (ct_X10_drawn l dC dI x0 th fx fth hfx_1 hfth_2 _ (xs (1 : Int32).toNatClampNeg)) [0, 1] [] rfl (by decide) rfl 0 (ci := 10) rfl rfl rfl gv_L_177 rfl rfl (by decide +kernel) ⟨Nat.le_of_ble_eq_true rfl, Nat.le_of_ble_eq_true rfl⟩ rfl hl.1 (Nat.le_of_ble_eq_true rfl) ⟨Nat.le_of_ble_eq_true rfl, Nat.le_of_ble_eq_true rfl⟩ rfl dL_law_1541 (fun H locs hP hS => ?_)
  refine lv_aload_n hx hb dL_law_1544 rfl (lv_at hl 1 rfl) ?_
  refine lv_aload_n hx hb dL_law_1545 rfl (lv_at hl 3 rfl) ?_
  refine lv_iload_n hx hb dL_law_1546 rfl (lv_at hl 0 rfl) ?_
  refine lv_iconst (v := 1) hx hb dL_law_1547 (by decide) ?_
  refine lv_iadd hx hb dL_law_1548 ?_
  refine lv_topi (fun r2 er2 => ?_)
  have er2 : r2 = 1 := er2.trans (by decide)
  subst er2
  refine va_sld hx hb hX hbl hbA hS (by unfold vp_in; decide) dL_law_1549 ?_
  refine ro_callV (n := 1) (As := [.int (xs (1 : Int32).toNatClampNeg)]) (rest := [.int (-2)]) hx hb hml hown ht hK hP (hD.weaken (fun _ _ _ _ => trivial)) hS hA hE (ct_X11_drawn l dC dI m0 fm hfm_12 _ (xs (1 : Int32).toNatClampNeg)) [2] [] rfl (by decide) rfl 2 (ci := 11) rfl rfl rfl gv_L_180 rfl rfl (by decide +kernel) ⟨Nat.le_of_ble_eq_true rfl, Nat.le_of_ble_eq_true rfl⟩ rfl hl.1 (Nat.le_of_ble_eq_true rfl) ⟨Nat.le_of_ble_eq_true rfl, Nat.le_of_ble_eq_true rfl⟩ rfl dL_law_1550 (fun H locs hP hS => ?_)
  refine lv_icmp_eq (tgt := 1627) hx hb dL_law_1553 (by decide) (fun c3 => ?_) (fun c3 => ?_)
  rotate_left
  · exact absurd (by decide) c3
  exact lw_fin hL9 C0 (Nat.le_of_ble_eq_true rfl) (Nat.le_of_ble_eq_true rfl) hS hl
theorem kw_1382 : Cond.methodLink RL 181 yX10_assign ∈ lw_g := lw_at 1382 (by decide +kernel) rfl
theorem kw_1383 : Cond.instanceMethod yX10_assign ∈ lw_g := lw_at 1383 (by decide +kernel) rfl
theorem kw_1384 : Cond.selects RX10 yX10_assign yX10_assign ∈ lw_g := lw_at 1384 (by decide +kernel) rfl
theorem kw_1385 : Cond.code yX10_assign cX10_assign 2 (some .int) ∈ lw_g := lw_at 1385 (by decide +kernel) rfl
theorem gv_L_181 : GoodIn lw_g (wsV RL 181 RX10 yX10_assign (.code yX10_assign cX10_assign 2 (some .int) :: lw_g)) := gi_V kw_1382 kw_1383 kw_1384 kw_1 kw_1385
theorem kw_2246 : Cond.methodLink RL 184 yX11_assign ∈ lw_g := lw_at 2246 (by decide +kernel) rfl
theorem kw_2247 : Cond.instanceMethod yX11_assign ∈ lw_g := lw_at 2247 (by decide +kernel) rfl
theorem kw_2248 : Cond.selects RX11 yX11_assign yX11_assign ∈ lw_g := lw_at 2248 (by decide +kernel) rfl
theorem kw_2249 : Cond.code yX11_assign cX11_assign 9 (some .int) ∈ lw_g := lw_at 2249 (by decide +kernel) rfl
theorem gv_L_184 : GoodIn lw_g (wsV RL 184 RX11 yX11_assign (.code yX11_assign cX11_assign 9 (some .int) :: lw_g)) := gi_V kw_2246 kw_2247 kw_2248 kw_10 kw_2249
set_option maxHeartbeats 4000000 in
set_option maxRecDepth 100000 in
theorem lc_40 {p : Program} {l : Launch} {e : Env} {s : State} {m : MethodId} {below : List Frame} {meth : Method} {c : Code} {b L : Nat} {xs : Nat → Int32} (C0 : lw_At p s m meth c b L xs) (hL : L = 7) (hE : ex_E s) (hEa : ea_E (fun q => s.heap.size ≤ q) s) (dC : Nat → ClassId) (dI : Nat → Nat → Nat) (x0 : Nat) (th : Nat) (se : Nat) (re : Nat) (ax : Nat) (fx : List Value) (fth : List Value) (fse : List Value) (fre : List Value) (kax : ClassId) (gax : Nat → Int32) (hfx_6 : fx[6]? = some (Value.ref re)) (hfth_12 : fth[12]? = some (Value.int 0)) (hfse_4 : fse[4]? = some (Value.int 0)) (hn_fre : fre.length = 5) (hfre_0 : fre[0]? = some (Value.ref se)) (hfre_1 : fre[1]? = some (Value.ref th)) (hfre_3 : fre[3]? = some (Value.int 0)) (hfre_4 : fre[4]? = some (Value.ref ax)) (m0 : Nat) (mk : Nat) (fm : List Value) (kmk : ClassId) (gmk : Nat → Int32) (hn_fm : fm.length = 114) (hfm_21 : fm[21]? = some (Value.int 0)) (hfm_29 : fm[29]? = some (Value.int 0)) (hfm_107 : fm[107]? = some (Value.int 0)) (hfm_108 : fm[108]? = some (Value.ref mk)) (hfm_112 : fm[112]? = some (Value.int 0)) (hfm_113 : fm[113]? = some (Value.int 0)) {ls : Array Slot} {H : Heap} {locs : List Loc} (hK : va_K (dC, dI) vwCl [(kax, .int), (kmk, .int)] s) (hP : va_P (dC, dI) vwCl [(x0, .inr (10, fx)), (th, .inr (8, fth)), (se, .inr (6, fse)), (re, .inr (4, fre)), (ax, .inl (kax, 1, .inl gax)), (m0, .inr (11, fm)), (mk, .inl (kmk, 8, .inl gmk))] H) (hD : va_D (fun q => s.heap.size ≤ q) [(x0, .inr (10, fx)), (th, .inr (8, fth)), (se, .inr (6, fse)), (re, .inr (4, fre)), (ax, .inl (kax, 1, .inl gax)), (m0, .inr (11, fm)), (mk, .inl (kmk, 8, .inl gmk))]) (hS : va_S (fun q => s.heap.size ≤ q) s.heap H locs) (hl : lv_has ls 4 [(3, .int 0), (2, .ref m0), (1, .ref x0), (0, .ref b)]) : W p l e room_1 s m #[Value.ref b] below meth c H locs 137 78294 (lw_Z below #[Value.ref b] s) (F0 m 1558 ls []) := by
  subst hL
  have hL9 : 7 ≤ 7 := Nat.le_refl 7
  obtain ⟨hx, hb, hr, hml, hown, hts, hX, hbl, hlocks, hgv⟩ := id C0
  have hb : c.code = cL_law := hb
  have hown : s.vm.findClass RL = some m.cls := hown
  have ht : ∀ w ∈ lw_g, w.before #[Value.ref b] s = true := fun w h => hts w (List.mem_filter.mp h).1
  have hA : ∀ q : Nat, s.heap.size ≤ q → (fun q => s.heap.size ≤ q) q := fun _ h => h
  have hbA : ¬ (fun q => s.heap.size ≤ q) b := Nat.not_le.mpr hbl
  refine lv_aload_n hx hb dL_law_1558 rfl (lv_at hl 2 rfl) ?_
  refine lv_aload_n hx hb dL_law_1559 rfl (lv_at hl 3 rfl) ?_
  refine lv_iload_n hx hb dL_law_1560 rfl (lv_at hl 0 rfl) ?_
  refine lv_iconst (v := 1) hx hb dL_law_1561 (by decide) ?_
  refine lv_iadd hx hb dL_law_1562 ?_
  refine lv_topi (fun r1 er1 => ?_)
  have er1 : r1 = 1 := er1.trans (by decide)
  subst er1
  refine va_sld hx hb hX hbl hbA hS (by unfold vp_in; decide) dL_law_1563 ?_
  have hPc := hP.sub (ws' := [(x0, .inr (10, fx)), (th, .inr (8, fth)), (se, .inr (6, fse)), (re, .inr (4, fre)), (ax, .inl (kax, 1, .inl gax))]) [0, 1, 2, 3, 4] rfl
  have hDc := hD.sub (ws' := [(x0, .inr (10, fx)), (th, .inr (8, fth)), (se, .inr (6, fse)), (re, .inr (4, fre)), (ax, .inl (kax, 1, .inl gax))]) [0, 1, 2, 3, 4] (by decide) rfl
  have hKc := hK.sub (tys' := [(kax, .int)]) [0] rfl
  have hFc := va_free (wc := [(x0, .inr (10, fx)), (th, .inr (8, fth)), (se, .inr (6, fse)), (re, .inr (4, fre)), (ax, .inl (kax, 1, .inl gax))]) hD hS hA [0, 1, 2, 3, 4] rfl
  refine va_calli (va_runV (As := [.int (xs (1 : Int32).toNatClampNeg)]) (rest := []) ⟨hx, hb, hml, hown, ht⟩ (ct_X10_assign l dC dI x0 th se re ax (fx) (fth) (fse) (fre) kax gax hfx_6 hfth_12 hfse_4 hn_fre hfre_0 hfre_1 hfre_3 hfre_4 _ (xs (1 : Int32).toNatClampNeg)) (cwV 1 ht gv_L_181 rfl rfl rfl (by decide +kernel) ⟨Nat.le_of_ble_eq_true rfl, Nat.le_of_ble_eq_true rfl⟩) ⟨ro_blind, va_recv hKc hPc (ci := 10) (q0 := 0) rfl rfl, fun U hU hW => ⟨rfl, by rw [hU], by rw [hU]; exact hPc, va_K.moved hW.alike hKc, hDc.weaken (fun _ _ _ _ => trivial), ex_warm hW hE⟩⟩ rfl rfl hl.1 rfl (lv_room (Nat.le_of_ble_eq_true rfl)) dL_law_1564 ⟨Nat.le_of_ble_eq_true rfl, Nat.le_of_ble_eq_true rfl⟩) hS (fun q _ h => hFc q h) hFc (fun rr u t H1 locs ht1 hvm hw hB hz1 hk1 hS => ?_)
  subst hw
  obtain ⟨hP, hD⟩ := va_join (wr := [(m0, .inr (11, fm)), (mk, .inl (kmk, 8, .inl gmk))]) (w1 := []) hP hD [0, 1, 2, 3, 4] [5, 6] rfl rfl (by decide) (by decide) hk1 hFc (fun k q h => by simp at h) ⟨fun i j p q h => by simp at h, fun k q h => by simp at h⟩
  generalize H1 = H at hP hS ⊢
  have hP : va_P (dC, dI) vwCl [(m0, .inr (11, fm)), (mk, .inl (kmk, 8, .inl gmk))] H := hP
  have hD : va_D (fun q => s.heap.size ≤ q) [(m0, .inr (11, fm)), (mk, .inl (kmk, 8, .inl gmk))] := hD
  refine lv_aload_n hx hb dL_law_1567 rfl (lv_at hl 1 rfl) ?_
  refine lv_aload_n hx hb dL_law_1568 rfl (lv_at hl 3 rfl) ?_
  refine lv_iload_n hx hb dL_law_1569 rfl (lv_at hl 0 rfl) ?_
  refine lv_iconst (v := 1) hx hb dL_law_1570 (by decide) ?_
  refine lv_iadd hx hb dL_law_1571 ?_
  refine lv_topi (fun r2 er2 => ?_)
  have er2 : r2 = 1 := er2.trans (by decide)
  subst er2
  refine va_sld hx hb hX hbl hbA hS (by unfold vp_in; decide) dL_law_1572 ?_
  have hPc := hP.sub (ws' := [(m0, .inr (11, fm)), (mk, .inl (kmk, 8, .inl gmk))]) [0, 1] rfl
  have hDc := hD.sub (ws' := [(m0, .inr (11, fm)), (mk, .inl (kmk, 8, .inl gmk))]) [0, 1] (by decide) rfl
  have hKc := hK.sub (tys' := [(kmk, .int)]) [1] rfl
  have hFc := va_free (wc := [(m0, .inr (11, fm)), (mk, .inl (kmk, 8, .inl gmk))]) hD hS hA [0, 1] rfl
  refine va_calli (va_runV (As := [.int (xs (1 : Int32).toNatClampNeg)]) (rest := [.int (sp_X10_assign (xs (1 : Int32).toNatClampNeg))]) ⟨hx, hb, hml, hown, ht⟩ (ct_X11_assign l dC dI m0 mk (fm) kmk gmk hn_fm hfm_21 hfm_29 hfm_107 hfm_108 hfm_112 hfm_113 _ (xs (1 : Int32).toNatClampNeg)) (cwV 1 ht gv_L_184 rfl rfl rfl (by decide +kernel) ⟨Nat.le_of_ble_eq_true rfl, Nat.le_of_ble_eq_true rfl⟩) ⟨ro_blind, va_recv hKc hPc (ci := 11) (q0 := 0) rfl rfl, fun U hU hW => ⟨rfl, by rw [hU], by rw [hU]; exact hPc, va_K.moved hW.alike hKc, hDc.weaken (fun _ _ _ _ => trivial), ex_warm hW hE⟩⟩ rfl rfl hl.1 rfl (lv_room (Nat.le_of_ble_eq_true rfl)) dL_law_1573 ⟨Nat.le_of_ble_eq_true rfl, Nat.le_of_ble_eq_true rfl⟩) hS (fun q _ h => hFc q h) hFc (fun rr u t H1 locs ht1 hvm hw hB hz1 hk1 hS => ?_)
  subst hw
  obtain ⟨hP, hD⟩ := va_join (wr := []) (w1 := []) hP hD [0, 1] [] rfl rfl (by decide) (by decide) hk1 hFc (fun k q h => by simp at h) ⟨fun i j p q h => by simp at h, fun k q h => by simp at h⟩
  generalize H1 = H at hP hS ⊢
  have hP : va_P (dC, dI) vwCl [] H := hP
  have hD : va_D (fun q => s.heap.size ≤ q) [] := hD
  refine lv_icmp_eq (tgt := 1627) hx hb dL_law_1576 (by decide) (fun c9 => ?_) (fun c9 => absurd (sq_assign _) c9)
  exact lw_fin hL9 C0 (Nat.le_of_ble_eq_true rfl) (Nat.le_of_ble_eq_true rfl) hS hl
theorem kw_1413 : Cond.methodLink RL 185 yX10_officialOf ∈ lw_g := lw_at 1413 (by decide +kernel) rfl
theorem kw_1414 : Cond.instanceMethod yX10_officialOf ∈ lw_g := lw_at 1414 (by decide +kernel) rfl
theorem kw_1415 : Cond.selects RX10 yX10_officialOf yX10_officialOf ∈ lw_g := lw_at 1415 (by decide +kernel) rfl
theorem kw_1416 : Cond.code yX10_officialOf cX10_officialOf 2 (some .int) ∈ lw_g := lw_at 1416 (by decide +kernel) rfl
theorem gv_L_185 : GoodIn lw_g (wsV RL 185 RX10 yX10_officialOf (.code yX10_officialOf cX10_officialOf 2 (some .int) :: lw_g)) := gi_V kw_1413 kw_1414 kw_1415 kw_1 kw_1416
theorem kw_2270 : Cond.methodLink RL 188 yX11_officialOf ∈ lw_g := lw_at 2270 (by decide +kernel) rfl
theorem kw_2271 : Cond.instanceMethod yX11_officialOf ∈ lw_g := lw_at 2271 (by decide +kernel) rfl
theorem kw_2272 : Cond.selects RX11 yX11_officialOf yX11_officialOf ∈ lw_g := lw_at 2272 (by decide +kernel) rfl
theorem kw_2273 : Cond.code yX11_officialOf cX11_officialOf 2 (some .int) ∈ lw_g := lw_at 2273 (by decide +kernel) rfl
theorem gv_L_188 : GoodIn lw_g (wsV RL 188 RX11 yX11_officialOf (.code yX11_officialOf cX11_officialOf 2 (some .int) :: lw_g)) := gi_V kw_2270 kw_2271 kw_2272 kw_10 kw_2273
set_option maxHeartbeats 4000000 in
set_option maxRecDepth 100000 in
theorem lc_41 {p : Program} {l : Launch} {e : Env} {s : State} {m : MethodId} {below : List Frame} {meth : Method} {c : Code} {b L : Nat} {xs : Nat → Int32} (C0 : lw_At p s m meth c b L xs) (hL : L = 7) (hE : ex_E s) (hEa : ea_E (fun q => s.heap.size ≤ q) s) (dC : Nat → ClassId) (dI : Nat → Nat → Nat) (x0 : Nat) (se : Nat) (fx : List Value) (fse : List Value) (hfx_2 : fx[2]? = some (Value.ref se)) (hfse_4 : fse[4]? = some (Value.int 0)) (m0 : Nat) (fm : List Value) (hfm_29 : fm[29]? = some (Value.int 0)) {ls : Array Slot} {H : Heap} {locs : List Loc} (hK : va_K (dC, dI) vwCl [] s) (hP : va_P (dC, dI) vwCl [(x0, .inr (10, fx)), (se, .inr (6, fse)), (m0, .inr (11, fm))] H) (hD : va_D (fun q => s.heap.size ≤ q) [(x0, .inr (10, fx)), (se, .inr (6, fse)), (m0, .inr (11, fm))]) (hS : va_S (fun q => s.heap.size ≤ q) s.heap H locs) (hl : lv_has ls 4 [(3, .int 0), (2, .ref m0), (1, .ref x0), (0, .ref b)]) : W p l e room_1 s m #[Value.ref b] below meth c H locs 137 78294 (lw_Z below #[Value.ref b] s) (F0 m 1581 ls []) := by
  subst hL
  have hL9 : 7 ≤ 7 := Nat.le_refl 7
  obtain ⟨hx, hb, hr, hml, hown, hts, hX, hbl, hlocks, hgv⟩ := id C0
  have hb : c.code = cL_law := hb
  have hown : s.vm.findClass RL = some m.cls := hown
  have ht : ∀ w ∈ lw_g, w.before #[Value.ref b] s = true := fun w h => hts w (List.mem_filter.mp h).1
  have hA : ∀ q : Nat, s.heap.size ≤ q → (fun q => s.heap.size ≤ q) q := fun _ h => h
  have hbA : ¬ (fun q => s.heap.size ≤ q) b := Nat.not_le.mpr hbl
  refine lv_aload_n hx hb dL_law_1581 rfl (lv_at hl 2 rfl) ?_
  refine lv_aload_n hx hb dL_law_1582 rfl (lv_at hl 3 rfl) ?_
  refine lv_iload_n hx hb dL_law_1583 rfl (lv_at hl 0 rfl) ?_
  refine lv_iconst (v := 1) hx hb dL_law_1584 (by decide) ?_
  refine lv_iadd hx hb dL_law_1585 ?_
  refine lv_topi (fun r1 er1 => ?_)
  have er1 : r1 = 1 := er1.trans (by decide)
  subst er1
  refine va_sld hx hb hX hbl hbA hS (by unfold vp_in; decide) dL_law_1586 ?_
  refine ro_callV (n := 1) (As := [.int (xs (1 : Int32).toNatClampNeg)]) (rest := []) hx hb hml hown ht hK hP (hD.weaken (fun _ _ _ _ => trivial)) hS hA hE (ct_X10_officialOf l dC dI x0 se fx fse hfx_2 hfse_4 _ (xs (1 : Int32).toNatClampNeg)) [0, 1] [] rfl (by decide) rfl 0 (ci := 10) rfl rfl rfl gv_L_185 rfl rfl (by decide +kernel) ⟨Nat.le_of_ble_eq_true rfl, Nat.le_of_ble_eq_true rfl⟩ rfl hl.1 (Nat.le_of_ble_eq_true rfl) ⟨Nat.le_of_ble_eq_true rfl, Nat.le_of_ble_eq_true rfl⟩ rfl dL_law_1587 (fun H locs hP hS => ?_)
  refine lv_aload_n hx hb dL_law_1590 rfl (lv_at hl 1 rfl) ?_
  refine lv_aload_n hx hb dL_law_1591 rfl (lv_at hl 3 rfl) ?_
  refine lv_iload_n hx hb dL_law_1592 rfl (lv_at hl 0 rfl) ?_
  refine lv_iconst (v := 1) hx hb dL_law_1593 (by decide) ?_
  refine lv_iadd hx hb dL_law_1594 ?_
  refine lv_topi (fun r2 er2 => ?_)
  have er2 : r2 = 1 := er2.trans (by decide)
  subst er2
  refine va_sld hx hb hX hbl hbA hS (by unfold vp_in; decide) dL_law_1595 ?_
  refine ro_callV (n := 1) (As := [.int (xs (1 : Int32).toNatClampNeg)]) (rest := [.int (-2)]) hx hb hml hown ht hK hP (hD.weaken (fun _ _ _ _ => trivial)) hS hA hE (ct_X11_officialOf l dC dI m0 fm hfm_29 _ (xs (1 : Int32).toNatClampNeg)) [2] [] rfl (by decide) rfl 2 (ci := 11) rfl rfl rfl gv_L_188 rfl rfl (by decide +kernel) ⟨Nat.le_of_ble_eq_true rfl, Nat.le_of_ble_eq_true rfl⟩ rfl hl.1 (Nat.le_of_ble_eq_true rfl) ⟨Nat.le_of_ble_eq_true rfl, Nat.le_of_ble_eq_true rfl⟩ rfl dL_law_1596 (fun H locs hP hS => ?_)
  refine lv_icmp_eq (tgt := 1627) hx hb dL_law_1599 (by decide) (fun c3 => ?_) (fun c3 => ?_)
  rotate_left
  · exact absurd (by decide) c3
  exact lw_fin hL9 C0 (Nat.le_of_ble_eq_true rfl) (Nat.le_of_ble_eq_true rfl) hS hl
theorem kw_1417 : Cond.methodLink RL 189 yX10_count ∈ lw_g := lw_at 1417 (by decide +kernel) rfl
theorem kw_1418 : Cond.instanceMethod yX10_count ∈ lw_g := lw_at 1418 (by decide +kernel) rfl
theorem kw_1419 : Cond.selects RX10 yX10_count yX10_count ∈ lw_g := lw_at 1419 (by decide +kernel) rfl
theorem kw_1420 : Cond.code yX10_count cX10_count 2 (some .int) ∈ lw_g := lw_at 1420 (by decide +kernel) rfl
theorem gv_L_189 : GoodIn lw_g (wsV RL 189 RX10 yX10_count (.code yX10_count cX10_count 2 (some .int) :: lw_g)) := gi_V kw_1417 kw_1418 kw_1419 kw_1 kw_1420
theorem kw_2274 : Cond.methodLink RL 192 yX11_count ∈ lw_g := lw_at 2274 (by decide +kernel) rfl
theorem kw_2275 : Cond.instanceMethod yX11_count ∈ lw_g := lw_at 2275 (by decide +kernel) rfl
theorem kw_2276 : Cond.selects RX11 yX11_count yX11_count ∈ lw_g := lw_at 2276 (by decide +kernel) rfl
theorem kw_2277 : Cond.code yX11_count cX11_count 2 (some .int) ∈ lw_g := lw_at 2277 (by decide +kernel) rfl
theorem gv_L_192 : GoodIn lw_g (wsV RL 192 RX11 yX11_count (.code yX11_count cX11_count 2 (some .int) :: lw_g)) := gi_V kw_2274 kw_2275 kw_2276 kw_10 kw_2277
set_option maxHeartbeats 4000000 in
set_option maxRecDepth 100000 in
theorem lc_42 {p : Program} {l : Launch} {e : Env} {s : State} {m : MethodId} {below : List Frame} {meth : Method} {c : Code} {b L : Nat} {xs : Nat → Int32} (C0 : lw_At p s m meth c b L xs) (hL : L = 7) (hE : ex_E s) (hEa : ea_E (fun q => s.heap.size ≤ q) s) (dC : Nat → ClassId) (dI : Nat → Nat → Nat) (x0 : Nat) (th : Nat) (se : Nat) (fx : List Value) (fth : List Value) (fse : List Value) (hfx_1 : fx[1]? = some (Value.ref th)) (hfx_2 : fx[2]? = some (Value.ref se)) (hfth_2 : fth[2]? = some (Value.int 0)) (hfth_3 : fth[3]? = some (Value.int 0)) (hfth_5 : fth[5]? = some (Value.int 0)) (hfth_12 : fth[12]? = some (Value.int 0)) (hfth_13 : fth[13]? = some (Value.int 0)) (hfse_2 : fse[2]? = some (Value.int 0)) (hfse_4 : fse[4]? = some (Value.int 0)) (hfse_5 : fse[5]? = some (Value.int 0)) (m0 : Nat) (fm : List Value) (hfm_3 : fm[3]? = some (Value.int 0)) (hfm_6 : fm[6]? = some (Value.int 0)) (hfm_12 : fm[12]? = some (Value.int 0)) (hfm_15 : fm[15]? = some (Value.int 0)) (hfm_16 : fm[16]? = some (Value.int 0)) (hfm_21 : fm[21]? = some (Value.int 0)) (hfm_29 : fm[29]? = some (Value.int 0)) (hfm_47 : fm[47]? = some (Value.int 0)) {ls : Array Slot} {H : Heap} {locs : List Loc} (hK : va_K (dC, dI) vwCl [] s) (hP : va_P (dC, dI) vwCl [(x0, .inr (10, fx)), (th, .inr (8, fth)), (se, .inr (6, fse)), (m0, .inr (11, fm))] H) (hD : va_D (fun q => s.heap.size ≤ q) [(x0, .inr (10, fx)), (th, .inr (8, fth)), (se, .inr (6, fse)), (m0, .inr (11, fm))]) (hS : va_S (fun q => s.heap.size ≤ q) s.heap H locs) (hl : lv_has ls 4 [(3, .int 0), (2, .ref m0), (1, .ref x0), (0, .ref b)]) : W p l e room_1 s m #[Value.ref b] below meth c H locs 137 78294 (lw_Z below #[Value.ref b] s) (F0 m 1604 ls []) := by
  subst hL
  have hL9 : 7 ≤ 7 := Nat.le_refl 7
  obtain ⟨hx, hb, hr, hml, hown, hts, hX, hbl, hlocks, hgv⟩ := id C0
  have hb : c.code = cL_law := hb
  have hown : s.vm.findClass RL = some m.cls := hown
  have ht : ∀ w ∈ lw_g, w.before #[Value.ref b] s = true := fun w h => hts w (List.mem_filter.mp h).1
  have hA : ∀ q : Nat, s.heap.size ≤ q → (fun q => s.heap.size ≤ q) q := fun _ h => h
  have hbA : ¬ (fun q => s.heap.size ≤ q) b := Nat.not_le.mpr hbl
  refine lv_aload_n hx hb dL_law_1604 rfl (lv_at hl 2 rfl) ?_
  refine lv_aload_n hx hb dL_law_1605 rfl (lv_at hl 3 rfl) ?_
  refine lv_iload_n hx hb dL_law_1606 rfl (lv_at hl 0 rfl) ?_
  refine lv_iconst (v := 1) hx hb dL_law_1607 (by decide) ?_
  refine lv_iadd hx hb dL_law_1608 ?_
  refine lv_topi (fun r1 er1 => ?_)
  have er1 : r1 = 1 := er1.trans (by decide)
  subst er1
  refine va_sld hx hb hX hbl hbA hS (by unfold vp_in; decide) dL_law_1609 ?_
  refine ro_callV (n := 1) (As := [.int (xs (1 : Int32).toNatClampNeg)]) (rest := []) hx hb hml hown ht hK hP (hD.weaken (fun _ _ _ _ => trivial)) hS hA hE (ct_X10_count l dC dI x0 th se fx fth fse hfx_1 hfx_2 hfth_2 hfth_3 hfth_5 hfth_12 hfth_13 hfse_2 hfse_4 hfse_5 _ (xs (1 : Int32).toNatClampNeg)) [0, 1, 2] [] rfl (by decide) rfl 0 (ci := 10) rfl rfl rfl gv_L_189 rfl rfl (by decide +kernel) ⟨Nat.le_of_ble_eq_true rfl, Nat.le_of_ble_eq_true rfl⟩ rfl hl.1 (Nat.le_of_ble_eq_true rfl) ⟨Nat.le_of_ble_eq_true rfl, Nat.le_of_ble_eq_true rfl⟩ rfl dL_law_1610 (fun H locs hP hS => ?_)
  refine lv_aload_n hx hb dL_law_1613 rfl (lv_at hl 1 rfl) ?_
  refine lv_aload_n hx hb dL_law_1614 rfl (lv_at hl 3 rfl) ?_
  refine lv_iload_n hx hb dL_law_1615 rfl (lv_at hl 0 rfl) ?_
  refine lv_iconst (v := 1) hx hb dL_law_1616 (by decide) ?_
  refine lv_iadd hx hb dL_law_1617 ?_
  refine lv_topi (fun r2 er2 => ?_)
  have er2 : r2 = 1 := er2.trans (by decide)
  subst er2
  refine va_sld hx hb hX hbl hbA hS (by unfold vp_in; decide) dL_law_1618 ?_
  refine ro_callV (n := 1) (As := [.int (xs (1 : Int32).toNatClampNeg)]) (rest := [.int (sp_X10_count (xs (1 : Int32).toNatClampNeg))]) hx hb hml hown ht hK hP (hD.weaken (fun _ _ _ _ => trivial)) hS hA hE (ct_X11_count l dC dI m0 fm hfm_3 hfm_6 hfm_12 hfm_15 hfm_16 hfm_21 hfm_29 hfm_47 _ (xs (1 : Int32).toNatClampNeg)) [3] [] rfl (by decide) rfl 3 (ci := 11) rfl rfl rfl gv_L_192 rfl rfl (by decide +kernel) ⟨Nat.le_of_ble_eq_true rfl, Nat.le_of_ble_eq_true rfl⟩ rfl hl.1 (Nat.le_of_ble_eq_true rfl) ⟨Nat.le_of_ble_eq_true rfl, Nat.le_of_ble_eq_true rfl⟩ rfl dL_law_1619 (fun H locs hP hS => ?_)
  refine lv_icmp_eq (tgt := 1627) hx hb dL_law_1622 (by decide) (fun c9 => ?_) (fun c9 => absurd (sq_count _) c9)
  exact lw_fin hL9 C0 (Nat.le_of_ble_eq_true rfl) (Nat.le_of_ble_eq_true rfl) hS hl
