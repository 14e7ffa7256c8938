-- the law from its start
theorem kw_21 : Cond.classLink RL 7 RX10 ∈ lw_g := lw_b1 21 (by decide +kernel) rfl
theorem kw_1421 : Cond.classLink RL 10 RX11 ∈ lw_g := lw_b6 221 (by decide +kernel) rfl
theorem kw_23 : Cond.methodLink RL 9 yX10_init ∈ lw_g := lw_b1 23 (by decide +kernel) rfl
theorem kw_24 : Cond.instanceMethod yX10_init ∈ lw_g := lw_b1 24 (by decide +kernel) rfl
theorem kw_1 : Cond.initialized RX10 ∈ lw_g := lw_b1 1 (by decide +kernel) rfl
theorem kw_1423 : Cond.methodLink RL 12 yX11_init ∈ lw_g := lw_b6 223 (by decide +kernel) rfl
theorem kw_1424 : Cond.instanceMethod yX11_init ∈ lw_g := lw_b6 224 (by decide +kernel) rfl
theorem kw_10 : Cond.initialized RX11 ∈ lw_g := lw_b1 10 (by decide +kernel) rfl
set_option maxRecDepth 100000 in
theorem kw_25 : Cond.code yX10_init cX10_init 1 none ∈ lw_g := lw_b1 25 rfl rfl
theorem gc_X10_init : GoodIn lw_g (.code yX10_init cX10_init 1 none :: lw_g) := gi_c kw_25
theorem gc_X11_init : GoodIn lw_g (.code yX11_init cX11_init 1 none :: lw_g) := gi_c kw_1425
set_option maxHeartbeats 8000000 in
set_option maxRecDepth 100000 in
/-- from the house on: the reference is made, and the loop begins -/
theorem ws_b {p : Program} {e : Env} {s : State} {m : MethodId} {below : List Frame} {meth : Method} {c : Code} (l : Launch) {b L : Nat} {xs : Nat → Int32} (hL : L ≤ 3584) (C0 : lw_At p s m meth c b L xs) {dC : Nat → ClassId} {dI : Nat → Nat → Nat} {cA : Nat → ClassId} {ad0 : Nat → Int → Nat} {g : Nat → Int32} {h0 : Nat} {H : Heap} {locs : List Loc} {ls : Array Slot} (w : va_W) (hK : va_K (dC, dI) vwCl (ty_ cA) s) (hse : se_ ad0 (LA_ s) s) (hP : va_P (dC, dI) vwCl w H) (hD : va_D (LA_ s) w) (hS : va_S (LA_ s) s.heap H locs) (hst : ∀ m0 : Nat, ∃ xa : Nat → Nat, w = stX cA xa g ∧ xa 111 = m0 ∧ xa 110 = h0) (hl : lv_has ls 4 [(0, .ref b)]) : W p l e room_1 s m #[Value.ref b] below meth c H locs 58 6329 (lw_Z below #[Value.ref b] s) (F0 m 7 ls [.ref h0]) := by
  obtain ⟨hx, hb, hr, hml, hown, hts, hX, hbl, hlocks, hgv⟩ := id C0
  have hb : c.code = cL_law := hb
  have hown : s.vm.findClass RL = some m.cls := hown
  have ht : ∀ w ∈ lw_g, w.before #[Value.ref b] s = true := fun w h => hts w (List.mem_filter.mp h).1
  have hA : ∀ q : Nat, s.heap.size ≤ q → LA_ s q := fun _ h => h
  have hE : ex_E s := lx_E hts
  refine lv_astore_n (lv' := [(1, .ref h0), (0, .ref b)]) hx hb (show decode cL_law 7 = .ok (.astore_n 1, 1) by decide +kernel) rfl hl (by decide) rfl (fun ls hl => ?_)
  refine va_new (ci := 11) (fs := mf0_) (C := RX11) (T := TX11) (N := 114) hx hb ht inX11 tyX11 tyX11_ok hown (ht _ kw_1421) (ht _ kw_1422) (ht _ kw_10) hK hP hD hS hA rfl nf_X11 (Nat.le_of_ble_eq_true rfl) (Nat.le_of_ble_eq_true rfl) (show decode cL_law 8 = .ok (.new 10, 3) by decide +kernel) (fun m0 H hP hD hS => ?_)
  have hP : va_P (dC, dI) vwCl ([(m0, .inr (11, mf0_))] ++ w) H := va_P.swap (a := []) (b := w) (c := [(m0, .inr (11, mf0_))]) hP
  have hD : va_D (LA_ s) ([(m0, .inr (11, mf0_))] ++ w) := va_D.swap (a := []) (b := w) (c := [(m0, .inr (11, mf0_))]) hD
  refine W.widen (k := 59) (n := 6443) (Nat.le_of_ble_eq_true rfl) (Nat.le_of_ble_eq_true rfl) ?_
  refine lv_dup hx hb (show decode cL_law 11 = .ok (.dup, 1) by decide +kernel) rfl ?_
  have hPc := hP.sub (ws' := [(m0, .inr (11, mf0_))]) [0] rfl
  have hDc := hD.sub (ws' := [(m0, .inr (11, mf0_))]) [0] (by decide) rfl
  have hFc := va_free (wc := [(m0, .inr (11, mf0_))]) hD hS hA [0] rfl
  refine va_callv (va_runI (As := []) (rest := [.ref m0]) ⟨hx, hb, hml, hown, ht⟩ (ct_X11_init l dC dI cA m0 _ ) (cwI 0 ht gc_X11_init rfl rfl rfl (ht _ kw_10) (ht _ kw_1423) (ht _ kw_1424) rfl (by decide +kernel) ⟨Nat.le_of_ble_eq_true rfl, Nat.le_of_ble_eq_true rfl⟩) ⟨ro_blind, fun U hU hW => ⟨rfl, by rw [hU], by rw [hU]; exact hPc, va_K.moved hW.alike hK, hDc.weaken (fun _ _ _ _ => trivial), ex_warm hW hE⟩⟩ rfl rfl hl.1 rfl (lv_room (Nat.le_of_ble_eq_true rfl)) (show decode cL_law 12 = .ok (.invokespecial 12, 3) by decide +kernel) ⟨Nat.le_of_ble_eq_true rfl, Nat.le_of_ble_eq_true rfl⟩) hS (fun q _ h => hFc q h) hFc (fun u t H1 locs ht1 hvm hw hB hz1 hk1 hS => ?_)
  obtain ⟨qf, hP1, hK1, hD1⟩ := hB
  rw [ht1] at hP1
  generalize hw1 : (m0, Sum.inr (11, fz_ qf mss_ 0 mf0_)) :: rz_ cA qf mss_ 0 = w1 at hP1 hD1
  obtain ⟨hP, hD⟩ := va_joinQ (X := [(m0, .inr (11, mf0_))]) (cx := [(m0, .inr (11, mf0_))]) (wr := []) (w1 := w1) (pl := w) hP hD [0] [] rfl rfl (by decide) (by decide) hk1 hFc hP1 hD1
  have hP : va_P (dC, dI) vwCl (w ++ w1) H1 := va_P.swap (a := []) (b := w1) (c := w) hP
  have hD : va_D (LA_ s) (w ++ w1) := va_D.swap (a := []) (b := w1) (c := w) hD
  clear hP1 hD1 hPc hDc hFc hk1
  refine W.widen (k := 137) (n := 78294) (Nat.le_of_ble_eq_true rfl) (Nat.le_of_ble_eq_true rfl) ?_
  refine lv_astore_n (lv' := [(2, .ref m0), (1, .ref h0), (0, .ref b)]) hx hb (show decode cL_law 15 = .ok (.astore_n 2, 1) by decide +kernel) rfl hl (by decide) rfl (fun ls hl => ?_)
  refine lv_iconst (v := 0) hx hb (show decode cL_law 16 = .ok (.iconst 0, 1) by decide +kernel) (by decide) ?_
  refine lv_istore_n (lv' := [(3, .int 0), (2, .ref m0), (1, .ref h0), (0, .ref b)]) hx hb (show decode cL_law 17 = .ok (.istore_n 3, 1) by decide +kernel) rfl hl (by decide) rfl (fun ls hl => ?_)
  obtain ⟨xa, x1, x2, x3⟩ := hst m0
  rw [x1, ← hw1, ← x2] at hP hD
  have hR : Rp_ (dC, dI) cA (sad_ ad0 xa qf) (Ts_ g) (LA_ s) H1 := st_rp hP hD
  have X : Cx_ zL p s m #[Value.ref b] meth c (dC, dI) cA ad0 (LA_ s) := ⟨hx, hb, hml, hr, hlocks, ht, hown, hK, hE, hA, hse, fun h => absurd h (by decide)⟩
  have a1 : sad_ ad0 xa qf 111 0 = m0 := x2
  have a2 : sad_ ad0 xa qf 110 0 = h0 := x3
  have a3 : Int32.ofInt ((7 * 0 : Nat) : Int) = 0 := by decide
  have a4 : LI_ ((0 : Nat) : Int) (Ts_ g) := by
    rw [show ((0 : Nat) : Int) = 0 from rfl]
    exact ts_li
  clear hP hD hw1
  refine lw_loop X hX hbl hL 513 0 (Ts_ g) (sad_ ad0 xa qf) H1 locs ls 137 78294 (by omega) (by omega) (by omega) hR hS (fun k i h => if_pos h) ts_ok a4 (by omega) ?_
  rw [a1, a2, a3]
  exact hl

