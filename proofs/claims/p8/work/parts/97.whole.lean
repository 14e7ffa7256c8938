-- the law from its start
theorem kw_21 : Cond.classLink RL 7 RX10 ∈ lw_g := lw_at 21 (by decide +kernel) rfl
theorem kw_1421 : Cond.classLink RL 10 RX11 ∈ lw_g := lw_at 1421 (by decide +kernel) rfl
theorem kw_23 : Cond.methodLink RL 9 yX10_init ∈ lw_g := lw_at 23 (by decide +kernel) rfl
theorem kw_24 : Cond.instanceMethod yX10_init ∈ lw_g := lw_at 24 (by decide +kernel) rfl
theorem kw_1 : Cond.initialized RX10 ∈ lw_g := lw_at 1 (by decide +kernel) rfl
theorem kw_1423 : Cond.methodLink RL 12 yX11_init ∈ lw_g := lw_at 1423 (by decide +kernel) rfl
theorem kw_1424 : Cond.instanceMethod yX11_init ∈ lw_g := lw_at 1424 (by decide +kernel) rfl
theorem kw_10 : Cond.initialized RX11 ∈ lw_g := lw_at 10 (by decide +kernel) rfl
theorem kw_25 : Cond.code yX10_init cX10_init 1 none ∈ lw_g := lw_at 25 (by decide +kernel) rfl
theorem gc_X10_init : GoodIn lw_g (.code yX10_init cX10_init 1 none :: lw_g) := gi_c kw_25
theorem gc_X11_init : GoodIn lw_g (.code yX11_init cX11_init 1 none :: lw_g) := gi_c kw_1425
set_option maxHeartbeats 8000000 in
set_option maxRecDepth 100000 in
theorem whole_start {p : Program} {e : Env} {s : State} {m : MethodId} {below : List Frame} {meth : Method} {c : Code} (l : Launch) {b L : Nat} {xs : Nat → Int32} (hL : L ≤ 3584) (C0 : lw_At p s m meth c b L xs) : W p l e room_1 s m #[Value.ref b] below meth c s.heap [] 0 0 (lw_Z below #[Value.ref b] s) (entryFrame m ([Value.ref b] : List Value).toArray 4) := by
  obtain ⟨hx, hb, hr, hml, hown, hts, hX, hbl, hlocks, hgv⟩ := id C0
  have hb : c.code = cL_law := hb
  have hown : s.vm.findClass RL = some m.cls := hown
  have ht : ∀ w ∈ lw_g, w.before #[Value.ref b] s = true := fun w h => hts w (List.mem_filter.mp h).1
  have hA : ∀ q : Nat, s.heap.size ≤ q → LA_ s q := fun _ h => h
  have hE : ex_E s := lx_E hts
  obtain ⟨ad0, hse⟩ := lx_se hts hgv
  obtain ⟨cB, hcB⟩ := ar_b (ht _ kw_1770)
  obtain ⟨dC, dI, hKc⟩ := lx_K (s := s) ht
  have hS : va_S (LA_ s) s.heap s.heap [] := va_S.rf
  have hK : va_K (dC, dI) vwCl [] s := ⟨hKc, fun k q h => by simp at h⟩
  have hP : va_P (dC, dI) vwCl [] s.heap := fun k q h => by simp at h
  have hD : va_D (LA_ s) [] := ⟨fun i j p q h => by simp at h, fun k q h => by simp at h⟩
  have hl := lv_entry ([.ref b]) (n := 4) (Nat.le_of_ble_eq_true rfl)
  rw [lg_entry_eq]
  generalize (lg_sl ([.ref b]) ++ List.replicate (4 - (lg_sl ([.ref b])).length) Slot.unset).toArray = ls at hl ⊢
  have hl : lv_has ls 4 [(0, .ref b)] := hl
  refine va_new (ci := 10) (fs := [.null, .null, .null, .null, .null, .null, .null]) (C := RX10) (T := TX10) (N := 7) hx hb ht inX10 tyX10 tyX10_ok hown (ht _ kw_21) (ht _ kw_22) (ht _ kw_1) hK hP hD hS hA rfl nf_X10 (Nat.le_of_ble_eq_true rfl) (Nat.le_of_ble_eq_true rfl) (show decode cL_law 0 = .ok (.new 7, 3) by decide +kernel) (fun h0 H hP hD hS => ?_)
  have hP : va_P (dC, dI) vwCl [(h0, .inr (10, [.null, .null, .null, .null, .null, .null, .null]))] H := hP
  have hD : va_D (LA_ s) [(h0, .inr (10, [.null, .null, .null, .null, .null, .null, .null]))] := hD
  refine W.widen (k := 1) (n := 7) (Nat.le_of_ble_eq_true rfl) (Nat.le_of_ble_eq_true rfl) ?_
  refine lv_dup hx hb (show decode cL_law 3 = .ok (.dup, 1) by decide +kernel) rfl ?_
  have hFc := va_free (wc := [(h0, .inr (10, [.null, .null, .null, .null, .null, .null, .null]))]) hD hS hA [0] rfl
  refine va_callv (va_runI (As := []) (rest := [.ref h0]) ⟨hx, hb, hml, hown, ht⟩ (ct_X10_init l dC dI h0 _ ) (cwI 0 ht gc_X10_init rfl rfl rfl (ht _ kw_1) (ht _ kw_23) (ht _ kw_24) rfl (by decide +kernel) ⟨Nat.le_of_ble_eq_true rfl, Nat.le_of_ble_eq_true rfl⟩) ⟨ro_blind, fun U hU hW => ⟨rfl, by rw [hU], by rw [hU]; exact hP, va_K.moved hW.alike hK, hD.weaken (fun _ _ _ _ => trivial), ex_warm hW hE⟩⟩ rfl rfl hl.1 rfl (lv_room (Nat.le_of_ble_eq_true rfl)) (show decode cL_law 4 = .ok (.invokespecial 9, 3) by decide +kernel) ⟨Nat.le_of_ble_eq_true rfl, Nat.le_of_ble_eq_true rfl⟩) hS (fun q _ h => hFc q h) hFc (fun u t H1 locs ht1 hvm hw hB hz1 hk1 hS => ?_)
  obtain ⟨q1, q8, q27, q48, q71, q89, q104, q2, q3, q4, k5, k6, k7, q9, q10, q11, q12, q13, q14, q15, q16, q17, k18, k19, k20, k21, k22, k23, k24, k25, k26, q28, q29, q30, q31, q32, q33, q34, q35, q36, q37, k38, k39, k40, k41, k42, k43, k44, k45, k46, k47, q49, q50, q51, q52, q53, q54, q55, q56, q57, q58, q59, k60, k61, k62, k63, k64, k65, k66, k67, k68, k69, k70, q72, q73, q74, q75, q76, q77, q78, q79, k80, k81, k82, k83, k84, k85, k86, k87, g88, q90, q91, q92, q93, q94, q95, q96, k97, k98, k99, k100, k101, k102, k103, q105, q106, k107, k108, hP1, hK1, hD1⟩ := hB
  rw [ht1] at hP1
  have hK1 := va_K.moved hvm.symm hK1
  obtain ⟨cA, xa0, hK, e110, eX⟩ := st_cl (h0 := h0) (q1 := q1) (q8 := q8) (q27 := q27) (q48 := q48) (q71 := q71) (q89 := q89) (q104 := q104) (q2 := q2) (q3 := q3) (q4 := q4) (q9 := q9) (q10 := q10) (q11 := q11) (q12 := q12) (q13 := q13) (q14 := q14) (q15 := q15) (q16 := q16) (q17 := q17) (q28 := q28) (q29 := q29) (q30 := q30) (q31 := q31) (q32 := q32) (q33 := q33) (q34 := q34) (q35 := q35) (q36 := q36) (q37 := q37) (q49 := q49) (q50 := q50) (q51 := q51) (q52 := q52) (q53 := q53) (q54 := q54) (q55 := q55) (q56 := q56) (q57 := q57) (q58 := q58) (q59 := q59) (q72 := q72) (q73 := q73) (q74 := q74) (q75 := q75) (q76 := q76) (q77 := q77) (q78 := q78) (q79 := q79) (q90 := q90) (q91 := q91) (q92 := q92) (q93 := q93) (q94 := q94) (q95 := q95) (q96 := q96) (q105 := q105) (q106 := q106) (g88 := g88) hcB hK1
  have hP1 : va_P (dC, dI) vwCl (stX cA xa0 g88) H1 := by
    rw [eX]
    exact hP1
  have hD1 : va_D (va_A [(h0, .inr (10, [.null, .null, .null, .null, .null, .null, .null]))] H.size) (stX cA xa0 g88) := by
    rw [eX]
    exact hD1
  have hj := va_join (wc := [(h0, .inr (10, [.null, .null, .null, .null, .null, .null, .null]))]) (wr := []) hP hD [0] [] rfl rfl (by decide) (by decide) hk1 hFc hP1 hD1
  clear hP1 hD1 eX hP hD hFc hk1
  obtain ⟨hP, hD⟩ := hj
  have hP : va_P (dC, dI) vwCl (stX cA xa0 g88) H1 := hP
  have hD : va_D (LA_ s) (stX cA xa0 g88) := hD
  refine W.widen (k := 58) (n := 6329) (Nat.le_of_ble_eq_true rfl) (Nat.le_of_ble_eq_true rfl) ?_
  refine lv_astore_n (lv' := [(1, .ref h0), (0, .ref b)]) hx hb (show decode cL_law 7 = .ok (.astore_n 1, 1) by decide +kernel) rfl hl (by decide) rfl (fun ls hl => ?_)
  refine va_new (ci := 11) (fs := mf0_) (C := RX11) (T := TX11) (N := 114) hx hb ht inX11 tyX11 tyX11_ok hown (ht _ kw_1421) (ht _ kw_1422) (ht _ kw_10) hK hP hD hS hA rfl nf_X11 (Nat.le_of_ble_eq_true rfl) (Nat.le_of_ble_eq_true rfl) (show decode cL_law 8 = .ok (.new 10, 3) by decide +kernel) (fun m0 H hP hD hS => ?_)
  refine W.widen (k := 59) (n := 6443) (Nat.le_of_ble_eq_true rfl) (Nat.le_of_ble_eq_true rfl) ?_
  refine lv_dup hx hb (show decode cL_law 11 = .ok (.dup, 1) by decide +kernel) rfl ?_
  have hPc := hP.sub (ws' := [(m0, .inr (11, mf0_))]) [58] rfl
  have hDc := hD.sub (ws' := [(m0, .inr (11, mf0_))]) [58] (by decide) rfl
  have hFc := va_free (wc := [(m0, .inr (11, mf0_))]) hD hS hA [58] rfl
  refine va_callv (va_runI (As := []) (rest := [.ref m0]) ⟨hx, hb, hml, hown, ht⟩ (ct_X11_init l dC dI cA m0 _ ) (cwI 0 ht gc_X11_init rfl rfl rfl (ht _ kw_10) (ht _ kw_1423) (ht _ kw_1424) rfl (by decide +kernel) ⟨Nat.le_of_ble_eq_true rfl, Nat.le_of_ble_eq_true rfl⟩) ⟨ro_blind, fun U hU hW => ⟨rfl, by rw [hU], by rw [hU]; exact hPc, va_K.moved hW.alike hK, hDc.weaken (fun _ _ _ _ => trivial), ex_warm hW hE⟩⟩ rfl rfl hl.1 rfl (lv_room (Nat.le_of_ble_eq_true rfl)) (show decode cL_law 12 = .ok (.invokespecial 12, 3) by decide +kernel) ⟨Nat.le_of_ble_eq_true rfl, Nat.le_of_ble_eq_true rfl⟩) hS (fun q _ h => hFc q h) hFc (fun u t H1 locs ht1 hvm hw hB hz1 hk1 hS => ?_)
  obtain ⟨qf, hP1, hK1, hD1⟩ := hB
  rw [ht1] at hP1
  obtain ⟨hP, hD⟩ := va_join (wc := [(m0, .inr (11, mf0_))]) (wr := stX cA xa0 g88) (w1 := (m0, .inr (11, fz_ qf mss_ 0 mf0_)) :: rz_ cA qf mss_ 0) hP hD [58] [0, 1, 2, 3, 4, 5, 6, 7, 8, 9, 10, 11, 12, 13, 14, 15, 16, 17, 18, 19, 20, 21, 22, 23, 24, 25, 26, 27, 28, 29, 30, 31, 32, 33, 34, 35, 36, 37, 38, 39, 40, 41, 42, 43, 44, 45, 46, 47, 48, 49, 50, 51, 52, 53, 54, 55, 56, 57] rfl rfl (by decide +kernel) (by decide +kernel) hk1 hFc hP1 hD1
  clear hP1 hD1 hPc hDc hFc hk1
  refine W.widen (k := 137) (n := 78294) (Nat.le_of_ble_eq_true rfl) (Nat.le_of_ble_eq_true rfl) ?_
  refine lv_astore_n (lv' := [(2, .ref m0), (1, .ref h0), (0, .ref b)]) hx hb (show decode cL_law 15 = .ok (.astore_n 2, 1) by decide +kernel) rfl hl (by decide) rfl (fun ls hl => ?_)
  refine lv_iconst (v := 0) hx hb (show decode cL_law 16 = .ok (.iconst 0, 1) by decide +kernel) (by decide) ?_
  refine lv_istore_n (lv' := [(3, .int 0), (2, .ref m0), (1, .ref h0), (0, .ref b)]) hx hb (show decode cL_law 17 = .ok (.istore_n 3, 1) by decide +kernel) rfl hl (by decide) rfl (fun ls hl => ?_)
  obtain ⟨xa, x1, x2, x3⟩ : ∃ xa : Nat → Nat, stX cA xa g88 = stX cA xa0 g88 ∧ xa 111 = m0 ∧ xa 110 = h0 := ⟨fun k => if k = 111 then m0 else xa0 k, rfl, rfl, e110⟩
  rw [← x1, ← x2] at hP hD
  have hR : Rp_ (dC, dI) cA (sad_ ad0 xa qf) (Ts_ g88) (LA_ s) H1 := st_rp hP hD
  have X : Cx_ zL p s m #[Value.ref b] meth c (dC, dI) cA ad0 (LA_ s) := ⟨hx, hb, hml, hr, hlocks, ht, hown, hK, hE, hA, hse, fun h => absurd h (by decide)⟩
  have a1 : sad_ ad0 xa qf 111 0 = m0 := x2
  have a2 : sad_ ad0 xa qf 110 0 = h0 := x3
  have a3 : Int32.ofInt ((7 * 0 : Nat) : Int) = 0 := by decide
  refine lw_loop X hX hbl hL 513 0 (Ts_ g88) (sad_ ad0 xa qf) H1 locs ls 137 78294 (by omega) (by omega) (by omega) hR hS (fun k i h => if_pos h) ts_ok ts_li (by omega) ?_
  rw [a1, a2, a3]
  exact hl
set_option maxHeartbeats 4000000 in
theorem lw_walk (l : Launch) (b : Addr) (xs : List Int32) : MetFree l x (headSpec (Jvm.Cond.code x code maxLocals ret :: tables_1) room_1) (lw_P b xs) (fun _ _ _ _ _ => True) lw_Q := by
  refine MetFree.of_bodyS (code := code) (maxLocals := maxLocals) (ret := ret) (by decide) ?_ ?_
  · intro args s m h hn
    obtain ⟨meth, c, h1, h2, h3, h4, h5, h6, -, -⟩ := Cond.code_spec hn (atoms_spec (ws := Jvm.Cond.code x code maxLocals ret :: tables_1) h _ List.mem_cons_self)
    exact ⟨meth, c, h1, h2, h3, h4, h5, h6⟩
  · intro p e s m args below meth c s₁ B hml0 hP _
    obtain ⟨rfl, hx, hbd, hgv⟩ := hP
    obtain ⟨scr, harrAt, hlist, hof, hsmall⟩ := hx
    obtain ⟨hcb, hkn, -, -⟩ := State.arrayAt?_spec harrAt
    have hown : s.vm.findClass R_law = some m.cls := findClass_of_methodNamed B.named
    have hts0 : ∀ c ∈ (Jvm.Cond.code x code maxLocals ret :: tables_1), c.before #[Value.ref b] s = true := atoms_spec (ws := Jvm.Cond.code x code maxLocals ret :: tables_1) B.pre
    have hts : ∀ w ∈ lw_tbl, w.before #[Value.ref b] s = true := k2_hts_sels lw_privs (fun w hw => hts0 w (List.mem_cons_of_mem _ hw)) lw_privs_ok
    have hml : c.maxLocals = 4 := B.maxLocals_eq (hts0 _ List.mem_cons_self)
    have X₀ : Stand p l e room_1 s m #[Value.ref b] below meth c s₁ [] 0 0 := Stand.of_body B
    have hh0 : s₁.heap = s.heap := by rw [B.state]; rfl
    have hsz : scr.slots.size = xs.length := by rw [← Array.length_toList, hlist, List.length_map]
    have hval : ∀ j : Nat, j < xs.length → scr.slots[j]? = some (.int (xs.getD j 0)) := fun j hj => by
      rw [← Array.getElem?_toList, hlist]
      simp [hj]
    have hbl : b < s.heap.size := (Array.getElem?_eq_some_iff.mp hcb).1
    have hX : va_X b xs.length (fun j => xs.getD j 0) s s.heap := ⟨scr, hcb, hof, hkn, hsz, hval⟩
    have K : W p l e room_1 s m #[Value.ref b] below meth c s₁.heap [] 0 0 (lw_Z below #[Value.ref b] s) (entryFrame m ([Value.ref b] : List Value).toArray 4) := by
      rw [hh0]
      exact whole_start l hbd ⟨B.exec, B.bytes, B.returns, hml, hown, hts, hX, hbl, B.notSynchronized, hgv⟩
    obtain ⟨t, a1, o, b1, b2, b3⟩ := K s₁ rfl X₀
    exact ⟨t, o, a1, b1, b2, b3⟩
theorem lw_pre_spec {args : Array Value} {s : State} (h : (Jvm.Cond.and given_1 narrow_1).before args s = true) (hr : rest_1_c.before args s = true) : ∃ (b : Addr) (xs : List Int32), lw_P b xs args s := by
  have hs := flat_of_before _ h
  have hq := flat_of_before _ hr
  have hc : (Cond.count 1).before args s = true := hs _ (by decide +kernel)
  have harr : (Cond.arrayOf (.arg 0) .int).before args s = true := hs _ (by decide +kernel)
  have hle : (Cond.le (.length (.arg 0)) (.int 3584)).before args s = true := hs _ (by decide +kernel)
  have hlen : (Cond.isInt (.length (.arg 0))).before args s = true := hq _ (by decide +kernel)
  have hall : (Cond.all (.arg 0) (.isInt (.elem (.arg 0) (.index 0)))).before args s = true := hq _ (by decide +kernel)
  obtain ⟨b, xs, hb, hx⟩ := State.ints_of_pre rfl harr hlen hall
  have hsm : xs.length < 2 ^ 31 := hx.choose_spec.2.2.2
  have hev : (Term.length (.arg 0)).eval args s none [] s = some (.int xs.length.toInt32) := hx.length_eval hb
  have hv := Cond.le_ints hev (show (Term.int 3584).eval args s none [] s = some (.int 3584) from rfl)
  have hd : xs.length.toInt32 ≤ 3584 := by
    simpa [Cond.before, Cond.holds, hv] using hle
  have hN : xs.length ≤ 3584 := (Int32.ofNat_le_ofNat hsm (by decide)).mp (show Int32.ofNat xs.length ≤ Int32.ofNat 3584 from hd)
  exact ⟨b, xs, Cond.one_arg hc (show args[0]? = some (.ref b) from hb), hx, hN, h⟩
theorem lw_comes (l : Launch) : Comes l x (Jvm.Cond.code x code maxLocals ret :: tables_1) room_1 (fun tb e args s => Calls_1 tb e args s ∧ rest_1 tb e args s ∧ Pre_1 tb e args s)
    (fun _ _ args s o t => lw_Q args s o t) := by
  intro p e ha hc hk s m args below hf hfit hheap happ hpre
  obtain ⟨b, xs, hP⟩ := lw_pre_spec hpre.2.2 hpre.2.1
  obtain ⟨k, o, h1, h2, h3, hQ⟩ := lw_walk l b xs p e ha hc hk s m args below hf ((Spec.applies_iff_loose hf).mp happ).1 hP trivial
  exact ⟨k, o, h1, h2, h3, hQ⟩
theorem lw_frame {s t : State} {o : Outcome} {args : Array Value} (h : Framed s o t [] 600000 7302250) :
    Framed s o t (fieldLocs frame_1_writes args s ++ arrayLocs frame_1_arrays args s ++ staticLocs frame_1_statics s) 600000 7302250 := h
theorem lw_limb (L : Cond) (hL : ∀ (args : Array Value) (s t : State), L.after args s (.returned (some (.int 1))) t = true) :
    ArmFor flags0 classFile x code maxLocals ret World_1 tables_1 room_1 Calls_1 rest_1 Pre_1
      (fun tb e a s o t => postC L tb e a s o t ∧ Framed s o t (fieldLocs frame_1_writes a s ++ arrayLocs frame_1_arrays a s ++ staticLocs frame_1_statics s) 600000 7302250) := by
  intro l _ _ _ p e ha hc hk s m args below hf hfit hheap happ hpre
  obtain ⟨k, o, h1, h2, h3, rfl, hF⟩ := lw_comes l p e ha hc hk s m args below hf hfit hheap happ hpre
  exact ⟨k, _, h1, h2, h3, hL args s _, lw_frame hF⟩
theorem i_vc : Claimed_1_1 ∧ Claimed_1_2 := ⟨lw_limb limb_1_1 (fun args s t => by simp [limb_1_1, Cond.after, Cond.holds, Cond.value]), lw_limb limb_1_2 (fun args s t => Cond.after_iff.mpr (by
  first | (rw [show limb_1_2 = Cond.eq .result (.int 1) from rfl, Cond.eq_ints (x := 1) (y := 1) rfl rfl]; simp; done) | (simp [limb_1_2, Cond.value, Term.eval]; done)))⟩
