-- the law's loop
def R_law : String := "SportsHouseLaw"
def lw_P (b : Addr) (xs : List Int32) (args : Array Value) (s : State) : Prop := args = #[.ref b] ∧ s.IntsAt b xs ∧ xs.length ≤ 3584 ∧ (Jvm.Cond.and given_1 narrow_1).before args s = true
def lw_Q (_ : Array Value) (s : State) (o : Outcome) (t : State) : Prop := o = .returned (some (.int 1)) ∧ Framed s o t [] 600000 7302250
def lw_Z (below : List Frame) (a : Array Value) (s : State) : State → Prop := fun t => ∃ o, t.status = .running ∧ Ended t below o ∧ lw_Q a s o t
/-- the law's own end, with 1 on the stack -/
theorem lw_ret {p : Program} {l : Launch} {e : Env} {s : State} {m : MethodId} {below : List Frame} {meth : Method} {c : Code} {b : Nat} (hx : p.tables.exec = Jvm.exec) (hb : c.code = code) (hr : meth.sig.returnType = ret) (hlocks : meth.locks = false) {pc : Nat} {H : Heap} {ls : Array Slot} (hdg : decode code pc = .ok (.ireturn, 1)) : W p l e room_1 s m #[Value.ref b] below meth c H [] 600000 7302250 (lw_Z below #[Value.ref b] s) (F0 m pc ls [.int 1]) := by
  intro T hT X
  obtain ⟨fs, hret, hrun, hended, hW, hframe⟩ := X.leave (v := some (.int 1)) (hlocks := hlocks) (fun h => by rw [hr] at h; cases h)
  have hmeth' : T.vm.method? m = some meth := X.method'
  refine ⟨T.setFrames fs, ?_, .returned (some (.int 1)), hrun, hended, rfl, ⟨_, rfl⟩, hW, hframe⟩
  jvm_step X.here [X.here.top, hx, hb, hdg, hmeth', hr, ret, narrow_b1]
  (try refine ⟨rfl, ?_⟩); (try refine ⟨rfl, ?_⟩)
  first | (intro acts; rw [hret _ acts rfl rfl rfl]) | rw [hret _ _ rfl rfl rfl]
  exact Steps.refl _
theorem dL33 : decode cL_law 33 = .ok (.tableswitch 1594 0 42 #[187, 210, 223, 236, 249, 282, 315, 328, 381, 414, 437, 470, 503, 536, 569, 602, 625, 668, 711, 754, 777, 810, 873, 948, 981, 1024, 1057, 1100, 1153, 1196, 1239, 1272, 1295, 1308, 1341, 1374, 1407, 1420, 1453, 1502, 1525, 1548, 1571], 187) := by decide +kernel
theorem li_e {N : Int} {T : Zt} (h : LI_ N T) : LI_ (N + 1) T := ⟨ic_e h.1, h.2⟩
set_option maxHeartbeats 4000000 in
theorem lw_loop {p : Program} {l : Launch} {e : Env} {s : State} {m : MethodId} {below : List Frame} {meth : Method} {c : Code} {D : va_G} {cA : Nat → ClassId} {ad0 : Nat → Int → Nat} {b L : Nat} {xs : Nat → Int32} (X : Cx_ zL p s m #[Value.ref b] meth c D cA ad0 (LA_ s)) (hX : va_X b L xs s s.heap) (hbl : b < s.heap.size) (hL : L ≤ 3584) : ∀ (k N : Nat) (T : Zt) (ad : Nat → Int → Nat) (H : Heap) (locs : List Loc) (lsC : Array Slot) (cells slots : Nat), N + k = 513 → cells ≤ 1000 + 792 * N → slots ≤ 90000 + 12544 * N → Rp_ D cA ad T (LA_ s) H → va_S (LA_ s) s.heap H locs → (∀ (k : Nat) (i : Int), k < 100 → ad k i = ad0 k i) → ok_T T → LI_ (N : Int) T → N ≤ 512 → lv_has lsC 4 [(3, .int (Int32.ofInt ((7 * N : Nat) : Int))), (2, .ref (ad 111 0)), (1, .ref (ad 110 0)), (0, .ref b)] → W p l e room_1 s m #[Value.ref b] below meth c H locs cells slots (lw_Z below #[Value.ref b] s) (F0 m 18 lsC [])
  | 0, N, T, ad, H, locs, lsC, cells, slots, hk, _, _, _, _, _, _, _, hN5, _ => by omega
  | k + 1, N, T, ad, H, locs, lsC, cells, slots, hk, hce, hsl, hR, hS, hB, hT, hI, hN5, hl => by
    obtain ⟨hx, hb⟩ : p.tables.exec = Jvm.exec ∧ c.code = cL_law := ⟨X.1, X.2.1⟩
    refine lv_iload_n hx hb (show decode cL_law 18 = .ok (.iload_n 3, 1) by decide +kernel) rfl (lv_at hl 0 rfl) ?_
    refine lv_aload_n hx hb (show decode cL_law 19 = .ok (.aload_n 0, 1) by decide +kernel) rfl (lv_at hl 3 rfl) ?_
    refine va_slen hx hb hX hbl (Nat.not_le.mpr hbl) hS (show decode cL_law 20 = .ok (.arraylength, 1) by decide +kernel) ?_
    refine lv_bipush (v := 7) hx hb (show decode cL_law 21 = .ok (.bipush 7, 2) by decide +kernel) (by decide) ?_
    refine lv_isub hx hb (show decode cL_law 23 = .ok (.isub, 1) by decide +kernel) ?_
    have es : Int32.ofNat L - 7 = Int32.ofInt ((L : Int) - 7) := by
      rw [Int32.ofInt_sub]
      rfl
    rw [es]
    have t1 := i3_t (x := (L : Int) - 7) (by omega) (by omega)
    have t2 := i3_t (x := ((7 * N : Nat) : Int)) (by omega) (by omega)
    refine lv_icmp_gt (tgt := 1633) hx hb (show decode cL_law 24 = .ok (.if_icmp .gt 1609, 3) by decide +kernel) (by decide) (fun c1 => ?_) (fun c1 => ?_)
    · refine lv_iconst (v := 1) hx hb (show decode cL_law 1633 = .ok (.iconst 1, 1) by decide +kernel) (by decide) ?_
      refine va_forget (fun q h => hS.2.2 q h) ?_
      refine W.widen (k := 600000) (n := 7302250) (by omega) (by omega) ?_
      exact lw_ret hx hb X.2.2.2.1 X.2.2.2.2.1 (show decode cL_law 1634 = .ok (.ireturn, 1) by decide +kernel)
    have hi : 7 * N + 7 ≤ L := by
      refine Nat.le_of_not_lt (fun h => c1 (Int32.lt_iff_toInt_lt.mpr ?_))
      rw [t1, t2]
      omega
    have hN : 0 ≤ (N : Int) ∧ (N : Int) ≤ 511 := by omega
    have kk : LKo_ p l e s m below meth c b D cA ad0 (lw_Z below #[Value.ref b] s) lsC (Int32.ofInt ((7 * N : Nat) : Int)) cells slots (N : Int) := by
      intro T' ad' H' locs' cells' slots' q1 q2 hR' hS' hB' hT' hI' hl'
      refine lv_iinc (v := Int32.ofInt ((7 * (N + 1) : Nat) : Int)) (lv' := [(3, .int (Int32.ofInt ((7 * (N + 1) : Nat) : Int))), (2, .ref (ad' 111 0)), (1, .ref (ad' 110 0)), (0, .ref b)]) hx hb (show decode cL_law 1627 = .ok (.iinc 3 7, 3) by decide +kernel) hl' (k := 0) rfl (by rw [i3_add]; congr 1) (by decide) rfl (fun ls hl2 => ?_)
      refine lv_goto (tgt := 18) hx hb (show decode cL_law 1630 = .ok (.goto (-1612), 3) by decide +kernel) (by decide) ?_
      have e9 : ((N + 1 : Nat) : Int) = (N : Int) + 1 := by omega
      have hI9 : LI_ ((N + 1 : Nat) : Int) T' := by
        rw [e9]
        exact hI'
      have g1 : N + 1 + k = 513 := by omega
      have g2 : cells' ≤ 1000 + 792 * (N + 1) := by
        rw [Nat.mul_succ, ← Nat.add_assoc]
        exact Nat.le_trans q1 (Nat.add_le_add_right hce 792)
      have g3 : slots' ≤ 90000 + 12544 * (N + 1) := by
        rw [Nat.mul_succ, ← Nat.add_assoc]
        exact Nat.le_trans q2 (Nat.add_le_add_right hsl 12544)
      have g4 : N + 1 ≤ 512 := by omega
      exact lw_loop X hX hbl hL k (N + 1) T' ad' H' locs' ls cells' slots' g1 g2 g3 hR' hS' hB' hT' hI9 g4 hl2
    refine lv_aload_n hx hb (show decode cL_law 27 = .ok (.aload_n 0, 1) by decide +kernel) rfl (lv_at hl 3 rfl) ?_
    refine lv_iload_n hx hb (show decode cL_law 28 = .ok (.iload_n 3, 1) by decide +kernel) rfl (lv_at hl 0 rfl) ?_
    refine va_sld hx hb hX hbl (Nat.not_le.mpr hbl) hS (by have := i3_in (x := ((7 * N : Nat) : Int)) (n := (L : Int)) (by omega) (by omega) (by omega); simpa using this) (show decode cL_law 29 = .ok (.iaload, 1) by decide +kernel) ?_
    refine lv_bipush (v := 63) hx hb (show decode cL_law 30 = .ok (.bipush 63, 2) by decide +kernel) (by decide) ?_
    refine lv_iand hx hb (show decode cL_law 32 = .ok (.iand, 1) by decide +kernel) ?_
    refine lv_topi (fun sw esw => ?_)
    clear esw
    by_cases z0 : sw = 0
    · refine lv_tableIn (off := 187) (tgt := 220) hx hb dL33 (by rw [z0]; decide) (by rw [z0]; decide) (by rw [z0]; rfl) (by decide) ?_
      exact lw_c0 (i0 := 7 * N) X hX hbl hL hi hR hS hB hT hI hN hl (by omega) (by omega) kk
    by_cases z1 : sw = 1
    · refine lv_tableIn (off := 210) (tgt := 243) hx hb dL33 (by rw [z1]; decide) (by rw [z1]; decide) (by rw [z1]; rfl) (by decide) ?_
      exact lw_c1 (i0 := 7 * N) X hX hbl hL hi hR hS hB hT hI hN hl (by omega) (by omega) kk
    by_cases z2 : sw = 2
    · refine lv_tableIn (off := 223) (tgt := 256) hx hb dL33 (by rw [z2]; decide) (by rw [z2]; decide) (by rw [z2]; rfl) (by decide) ?_
      exact lw_c2 (i0 := 7 * N) X hX hbl hL hi hR hS hB hT hI hN hl (by omega) (by omega) kk
    by_cases z3 : sw = 3
    · refine lv_tableIn (off := 236) (tgt := 269) hx hb dL33 (by rw [z3]; decide) (by rw [z3]; decide) (by rw [z3]; rfl) (by decide) ?_
      exact lw_c3 (i0 := 7 * N) X hX hbl hL hi hR hS hB hT hI hN hl (by omega) (by omega) kk
    by_cases z4 : sw = 4
    · refine lv_tableIn (off := 249) (tgt := 282) hx hb dL33 (by rw [z4]; decide) (by rw [z4]; decide) (by rw [z4]; rfl) (by decide) ?_
      exact lw_c4 (i0 := 7 * N) X hX hbl hL hi hR hS hB hT hI hN hl (by omega) (by omega) kk
    by_cases z5 : sw = 5
    · refine lv_tableIn (off := 282) (tgt := 315) hx hb dL33 (by rw [z5]; decide) (by rw [z5]; decide) (by rw [z5]; rfl) (by decide) ?_
      exact lw_c5 (i0 := 7 * N) X hX hbl hL hi hR hS hB hT hI hN hl (by omega) (by omega) kk
    by_cases z6 : sw = 6
    · refine lv_tableIn (off := 315) (tgt := 348) hx hb dL33 (by rw [z6]; decide) (by rw [z6]; decide) (by rw [z6]; rfl) (by decide) ?_
      exact lw_c6 (i0 := 7 * N) X hX hbl hL hi hR hS hB hT hI hN hl (by omega) (by omega) kk
    by_cases z7 : sw = 7
    · refine lv_tableIn (off := 328) (tgt := 361) hx hb dL33 (by rw [z7]; decide) (by rw [z7]; decide) (by rw [z7]; rfl) (by decide) ?_
      exact lw_c7 (i0 := 7 * N) X hX hbl hL hi hR hS hB hT hI hN hl (by omega) (by omega) kk
    by_cases z8 : sw = 8
    · refine lv_tableIn (off := 381) (tgt := 414) hx hb dL33 (by rw [z8]; decide) (by rw [z8]; decide) (by rw [z8]; rfl) (by decide) ?_
      exact lw_c8 (i0 := 7 * N) X hX hbl hL hi hR hS hB hT hI hN hl (by omega) (by omega) kk
    by_cases z9 : sw = 9
    · refine lv_tableIn (off := 414) (tgt := 447) hx hb dL33 (by rw [z9]; decide) (by rw [z9]; decide) (by rw [z9]; rfl) (by decide) ?_
      exact lw_c9 (i0 := 7 * N) X hX hbl hL hi hR hS hB hT hI hN hl (by omega) (by omega) kk
    by_cases z10 : sw = 10
    · refine lv_tableIn (off := 437) (tgt := 470) hx hb dL33 (by rw [z10]; decide) (by rw [z10]; decide) (by rw [z10]; rfl) (by decide) ?_
      exact lw_c10 (i0 := 7 * N) X hX hbl hL hi hR hS hB hT hI hN hl (by omega) (by omega) kk
    by_cases z11 : sw = 11
    · refine lv_tableIn (off := 470) (tgt := 503) hx hb dL33 (by rw [z11]; decide) (by rw [z11]; decide) (by rw [z11]; rfl) (by decide) ?_
      exact lw_c11 (i0 := 7 * N) X hX hbl hL hi hR hS hB hT hI hN hl (by omega) (by omega) kk
    by_cases z12 : sw = 12
    · refine lv_tableIn (off := 503) (tgt := 536) hx hb dL33 (by rw [z12]; decide) (by rw [z12]; decide) (by rw [z12]; rfl) (by decide) ?_
      exact lw_c12 (i0 := 7 * N) X hX hbl hL hi hR hS hB hT hI hN hl (by omega) (by omega) kk
    by_cases z13 : sw = 13
    · refine lv_tableIn (off := 536) (tgt := 569) hx hb dL33 (by rw [z13]; decide) (by rw [z13]; decide) (by rw [z13]; rfl) (by decide) ?_
      exact lw_c13 (i0 := 7 * N) X hX hbl hL hi hR hS hB hT hI hN hl (by omega) (by omega) kk
    by_cases z14 : sw = 14
    · refine lv_tableIn (off := 569) (tgt := 602) hx hb dL33 (by rw [z14]; decide) (by rw [z14]; decide) (by rw [z14]; rfl) (by decide) ?_
      exact lw_c14 (i0 := 7 * N) X hX hbl hL hi hR hS hB hT hI hN hl (by omega) (by omega) kk
    by_cases z15 : sw = 15
    · refine lv_tableIn (off := 602) (tgt := 635) hx hb dL33 (by rw [z15]; decide) (by rw [z15]; decide) (by rw [z15]; rfl) (by decide) ?_
      exact lw_c15 (i0 := 7 * N) X hX hbl hL hi hR hS hB hT hI hN hl (by omega) (by omega) kk
    by_cases z16 : sw = 16
    · refine lv_tableIn (off := 625) (tgt := 658) hx hb dL33 (by rw [z16]; decide) (by rw [z16]; decide) (by rw [z16]; rfl) (by decide) ?_
      exact lw_c16 (i0 := 7 * N) X hX hbl hL hi hR hS hB hT hI hN hl (by omega) (by omega) kk
    by_cases z17 : sw = 17
    · refine lv_tableIn (off := 668) (tgt := 701) hx hb dL33 (by rw [z17]; decide) (by rw [z17]; decide) (by rw [z17]; rfl) (by decide) ?_
      exact lw_c17 (i0 := 7 * N) X hX hbl hL hi hR hS hB hT hI hN hl (by omega) (by omega) kk
    by_cases z18 : sw = 18
    · refine lv_tableIn (off := 711) (tgt := 744) hx hb dL33 (by rw [z18]; decide) (by rw [z18]; decide) (by rw [z18]; rfl) (by decide) ?_
      exact lw_c18 (i0 := 7 * N) X hX hbl hL hi hR hS hB hT hI hN hl (by omega) (by omega) kk
    by_cases z19 : sw = 19
    · refine lv_tableIn (off := 754) (tgt := 787) hx hb dL33 (by rw [z19]; decide) (by rw [z19]; decide) (by rw [z19]; rfl) (by decide) ?_
      exact lw_c19 (i0 := 7 * N) X hX hbl hL hi hR hS hB hT hI hN hl (by omega) (by omega) kk
    by_cases z20 : sw = 20
    · refine lv_tableIn (off := 777) (tgt := 810) hx hb dL33 (by rw [z20]; decide) (by rw [z20]; decide) (by rw [z20]; rfl) (by decide) ?_
      exact lw_c20 (i0 := 7 * N) X hX hbl hL hi hR hS hB hT hI hN hl (by omega) (by omega) kk
    by_cases z21 : sw = 21
    · refine lv_tableIn (off := 810) (tgt := 843) hx hb dL33 (by rw [z21]; decide) (by rw [z21]; decide) (by rw [z21]; rfl) (by decide) ?_
      exact lw_c21 (i0 := 7 * N) X hX hbl hL hi hR hS hB hT hI hN hl (by omega) (by omega) kk
    by_cases z22 : sw = 22
    · refine lv_tableIn (off := 873) (tgt := 906) hx hb dL33 (by rw [z22]; decide) (by rw [z22]; decide) (by rw [z22]; rfl) (by decide) ?_
      exact lw_c22 (i0 := 7 * N) X hX hbl hL hi hR hS hB hT hI hN hl (by omega) (by omega) kk
    by_cases z23 : sw = 23
    · refine lv_tableIn (off := 948) (tgt := 981) hx hb dL33 (by rw [z23]; decide) (by rw [z23]; decide) (by rw [z23]; rfl) (by decide) ?_
      exact lw_c23 (i0 := 7 * N) X hX hbl hL hi hR hS hB hT hI hN hl (by omega) (by omega) kk
    by_cases z24 : sw = 24
    · refine lv_tableIn (off := 981) (tgt := 1014) hx hb dL33 (by rw [z24]; decide) (by rw [z24]; decide) (by rw [z24]; rfl) (by decide) ?_
      exact lw_c24 (i0 := 7 * N) X hX hbl hL hi hR hS hB hT hI hN hl (by omega) (by omega) kk
    by_cases z25 : sw = 25
    · refine lv_tableIn (off := 1024) (tgt := 1057) hx hb dL33 (by rw [z25]; decide) (by rw [z25]; decide) (by rw [z25]; rfl) (by decide) ?_
      exact lw_c25 (i0 := 7 * N) X hX hbl hL hi hR hS hB hT hI hN hl (by omega) (by omega) kk
    by_cases z26 : sw = 26
    · refine lv_tableIn (off := 1057) (tgt := 1090) hx hb dL33 (by rw [z26]; decide) (by rw [z26]; decide) (by rw [z26]; rfl) (by decide) ?_
      exact lw_c26 (i0 := 7 * N) X hX hbl hL hi hR hS hB hT hI hN hl (by omega) (by omega) kk
    by_cases z27 : sw = 27
    · refine lv_tableIn (off := 1100) (tgt := 1133) hx hb dL33 (by rw [z27]; decide) (by rw [z27]; decide) (by rw [z27]; rfl) (by decide) ?_
      exact lw_c27 (i0 := 7 * N) X hX hbl hL hi hR hS hB hT hI hN hl (by omega) (by omega) kk
    by_cases z28 : sw = 28
    · refine lv_tableIn (off := 1153) (tgt := 1186) hx hb dL33 (by rw [z28]; decide) (by rw [z28]; decide) (by rw [z28]; rfl) (by decide) ?_
      exact lw_c28 (i0 := 7 * N) X hX hbl hL hi hR hS hB hT hI hN hl (by omega) (by omega) kk
    by_cases z29 : sw = 29
    · refine lv_tableIn (off := 1196) (tgt := 1229) hx hb dL33 (by rw [z29]; decide) (by rw [z29]; decide) (by rw [z29]; rfl) (by decide) ?_
      exact lw_c29 (i0 := 7 * N) X hX hbl hL hi hR hS hB hT hI hN hl (by omega) (by omega) kk
    by_cases z30 : sw = 30
    · refine lv_tableIn (off := 1239) (tgt := 1272) hx hb dL33 (by rw [z30]; decide) (by rw [z30]; decide) (by rw [z30]; rfl) (by decide) ?_
      exact lw_c30 (i0 := 7 * N) X hX hbl hL hi hR hS hB hT hI hN hl (by omega) (by omega) kk
    by_cases z31 : sw = 31
    · refine lv_tableIn (off := 1272) (tgt := 1305) hx hb dL33 (by rw [z31]; decide) (by rw [z31]; decide) (by rw [z31]; rfl) (by decide) ?_
      exact lw_c31 (i0 := 7 * N) X hX hbl hL hi hR hS hB hT hI hN hl (by omega) (by omega) kk
    by_cases z32 : sw = 32
    · refine lv_tableIn (off := 1295) (tgt := 1328) hx hb dL33 (by rw [z32]; decide) (by rw [z32]; decide) (by rw [z32]; rfl) (by decide) ?_
      exact lw_c32 (i0 := 7 * N) X hX hbl hL hi hR hS hB hT hI hN hl (by omega) (by omega) kk
    by_cases z33 : sw = 33
    · refine lv_tableIn (off := 1308) (tgt := 1341) hx hb dL33 (by rw [z33]; decide) (by rw [z33]; decide) (by rw [z33]; rfl) (by decide) ?_
      exact lw_c33 (i0 := 7 * N) X hX hbl hL hi hR hS hB hT hI hN hl (by omega) (by omega) kk
    by_cases z34 : sw = 34
    · refine lv_tableIn (off := 1341) (tgt := 1374) hx hb dL33 (by rw [z34]; decide) (by rw [z34]; decide) (by rw [z34]; rfl) (by decide) ?_
      exact lw_c34 (i0 := 7 * N) X hX hbl hL hi hR hS hB hT hI hN hl (by omega) (by omega) kk
    by_cases z35 : sw = 35
    · refine lv_tableIn (off := 1374) (tgt := 1407) hx hb dL33 (by rw [z35]; decide) (by rw [z35]; decide) (by rw [z35]; rfl) (by decide) ?_
      exact lw_c35 (i0 := 7 * N) X hX hbl hL hi hR hS hB hT hI hN hl (by omega) (by omega) kk
    by_cases z36 : sw = 36
    · refine lv_tableIn (off := 1407) (tgt := 1440) hx hb dL33 (by rw [z36]; decide) (by rw [z36]; decide) (by rw [z36]; rfl) (by decide) ?_
      exact lw_c36 (i0 := 7 * N) X hX hbl hL hi hR hS hB hT hI hN hl (by omega) (by omega) kk
    by_cases z37 : sw = 37
    · refine lv_tableIn (off := 1420) (tgt := 1453) hx hb dL33 (by rw [z37]; decide) (by rw [z37]; decide) (by rw [z37]; rfl) (by decide) ?_
      exact lw_c37 (i0 := 7 * N) X hX hbl hL hi hR hS hB hT hI hN hl (by omega) (by omega) kk
    by_cases z38 : sw = 38
    · refine lv_tableIn (off := 1453) (tgt := 1486) hx hb dL33 (by rw [z38]; decide) (by rw [z38]; decide) (by rw [z38]; rfl) (by decide) ?_
      exact lw_c38 (i0 := 7 * N) X hX hbl hL hi hR hS hB hT hI hN hl (by omega) (by omega) kk
    by_cases z39 : sw = 39
    · refine lv_tableIn (off := 1502) (tgt := 1535) hx hb dL33 (by rw [z39]; decide) (by rw [z39]; decide) (by rw [z39]; rfl) (by decide) ?_
      exact lw_c39 (i0 := 7 * N) X hX hbl hL hi hR hS hB hT hI hN hl (by omega) (by omega) kk
    by_cases z40 : sw = 40
    · refine lv_tableIn (off := 1525) (tgt := 1558) hx hb dL33 (by rw [z40]; decide) (by rw [z40]; decide) (by rw [z40]; rfl) (by decide) ?_
      exact lw_c40 (i0 := 7 * N) X hX hbl hL hi hR hS hB hT hI hN hl (by omega) (by omega) kk
    by_cases z41 : sw = 41
    · refine lv_tableIn (off := 1548) (tgt := 1581) hx hb dL33 (by rw [z41]; decide) (by rw [z41]; decide) (by rw [z41]; rfl) (by decide) ?_
      exact lw_c41 (i0 := 7 * N) X hX hbl hL hi hR hS hB hT hI hN hl (by omega) (by omega) kk
    by_cases z42 : sw = 42
    · refine lv_tableIn (off := 1571) (tgt := 1604) hx hb dL33 (by rw [z42]; decide) (by rw [z42]; decide) (by rw [z42]; rfl) (by decide) ?_
      exact lw_c42 (i0 := 7 * N) X hX hbl hL hi hR hS hB hT hI hN hl (by omega) (by omega) kk
    have zo : sw.toInt < 0 ∨ 42 < sw.toInt := by
      have t_0 := lv_neT (a := 0) z0 rfl
      have t_1 := lv_neT (a := 1) z1 rfl
      have t_2 := lv_neT (a := 2) z2 rfl
      have t_3 := lv_neT (a := 3) z3 rfl
      have t_4 := lv_neT (a := 4) z4 rfl
      have t_5 := lv_neT (a := 5) z5 rfl
      have t_6 := lv_neT (a := 6) z6 rfl
      have t_7 := lv_neT (a := 7) z7 rfl
      have t_8 := lv_neT (a := 8) z8 rfl
      have t_9 := lv_neT (a := 9) z9 rfl
      have t_10 := lv_neT (a := 10) z10 rfl
      have t_11 := lv_neT (a := 11) z11 rfl
      have t_12 := lv_neT (a := 12) z12 rfl
      have t_13 := lv_neT (a := 13) z13 rfl
      have t_14 := lv_neT (a := 14) z14 rfl
      have t_15 := lv_neT (a := 15) z15 rfl
      have t_16 := lv_neT (a := 16) z16 rfl
      have t_17 := lv_neT (a := 17) z17 rfl
      have t_18 := lv_neT (a := 18) z18 rfl
      have t_19 := lv_neT (a := 19) z19 rfl
      have t_20 := lv_neT (a := 20) z20 rfl
      have t_21 := lv_neT (a := 21) z21 rfl
      have t_22 := lv_neT (a := 22) z22 rfl
      have t_23 := lv_neT (a := 23) z23 rfl
      have t_24 := lv_neT (a := 24) z24 rfl
      have t_25 := lv_neT (a := 25) z25 rfl
      have t_26 := lv_neT (a := 26) z26 rfl
      have t_27 := lv_neT (a := 27) z27 rfl
      have t_28 := lv_neT (a := 28) z28 rfl
      have t_29 := lv_neT (a := 29) z29 rfl
      have t_30 := lv_neT (a := 30) z30 rfl
      have t_31 := lv_neT (a := 31) z31 rfl
      have t_32 := lv_neT (a := 32) z32 rfl
      have t_33 := lv_neT (a := 33) z33 rfl
      have t_34 := lv_neT (a := 34) z34 rfl
      have t_35 := lv_neT (a := 35) z35 rfl
      have t_36 := lv_neT (a := 36) z36 rfl
      have t_37 := lv_neT (a := 37) z37 rfl
      have t_38 := lv_neT (a := 38) z38 rfl
      have t_39 := lv_neT (a := 39) z39 rfl
      have t_40 := lv_neT (a := 40) z40 rfl
      have t_41 := lv_neT (a := 41) z41 rfl
      have t_42 := lv_neT (a := 42) z42 rfl
      omega
    refine lv_tableOut (tgt := 1627) hx hb dL33 zo (by decide) ?_
    exact kk T ad H locs cells slots (by omega) (by omega) hR hS hB hT (li_e hI) hl
-- the picture of both objects as their constructors leave them
def sk_ : List Nat := [110, 105, 500, 504, 505, 108, 560, 561, 564, 566, 567, 568, 569, 570, 571, 106, 521, 523, 527, 528, 529, 530, 531, 533, 534, 535, 107, 542, 543, 544, 545, 546, 547, 548, 549, 550, 551, 552, 109, 587, 588, 590, 591, 592, 593, 594, 584, 101, 428, 429, 430, 431, 432, 434, 435, 104, 482, 190, 111, 200, 204, 205, 207, 208, 209, 210, 211, 213, 214, 217, 218, 219, 220, 222, 223, 225, 226, 227, 228, 230, 231, 232, 233, 234, 235, 236, 237, 238, 239, 240, 241, 242, 243, 244, 245, 246, 248, 249, 250, 251, 252, 253, 254, 255, 256, 264, 265, 266, 267, 268, 269, 270, 271, 272, 274, 276, 277, 278, 281, 284, 286, 289, 291, 292, 293, 294, 296, 297, 301, 302, 304, 305, 306, 308, 309, 310, 311]
def sv_ (k n : Nat) : Int := match k with
  | 105 => if n = 3 then -1 else 0
  | 109 => if n = 2 then -1 else 0
  | 111 => if n = 88 then -1 else if n = 2 then -1 else 0
  | 264 => ([115, 112, 111, 114, 116, 32, 112, 111, 105, 110, 116, 115, 32, 111, 114, 100, 101, 114, 32, 114, 101, 100, 111, 32, 108, 101, 103, 115, 32, 101, 118, 101, 114, 121, 32, 114, 101, 115, 116, 32, 102, 105, 101, 108, 100, 32, 115, 117, 98, 115, 32, 116, 97, 114, 103, 101, 116, 32, 119, 97, 108, 107, 111, 118, 101, 114, 32, 99, 97, 114, 100, 115, 32, 114, 101, 100, 32, 115, 101, 101, 100, 32] : List Int).getD n 0
  | 265 => ([102, 111, 111, 116, 98, 97, 108, 108, 32, 118, 111, 108, 108, 101, 121, 98, 97, 108, 108, 32, 116, 101, 110, 110, 105, 115, 32, 98, 97, 115, 101, 98, 97, 108, 108, 32] : List Int).getD n 0
  | 266 => ([100, 105, 102, 102, 32, 115, 99, 111, 114, 101, 100, 32, 119, 105, 110, 115, 32, 97, 119, 97, 121, 32, 104, 101, 97, 100, 32, 102, 97, 105, 114, 32, 108, 111, 116, 115, 32] : List Int).getD n 0
  | 267 => ([1, 1, 1, 1, 0, 2, 1, 1, 1, 0] : List Int).getD n 0
  | 268 => ([4, 30, 9, 6, 5, 25, 9, 9, 9, 999] : List Int).getD n 0
  | _ => 0
def Ts_ (g : Nat → Int32) : Zt := fun k i j => if i = 0 then (if j = -1 then (if sk_.contains k then 1 else 0) else if 0 ≤ j then (if k = 584 then (g j.toNat).toInt else if k = 191 ∧ j = 0 then 1 else sv_ k j.toNat) else if k = 190 ∧ j = -2 then 1 else 0) else 0
def sid_ : List (Nat × Int) := sk_.map fun k => (k, 0)
def pt_ : List Nat := [0, 0, 0, 0, 1, 2, 0, 3, 4, 5, 6, 7, 0, 8, 9, 0, 0, 10, 11, 12, 13, 0, 14, 15, 0, 16, 17, 18, 19, 0, 20, 21, 22, 23, 24, 25, 26, 27, 28, 29, 30, 31, 32, 33, 34, 35, 36, 0, 37, 38, 39, 40, 41, 42, 43, 44, 45, 0, 0, 0, 0, 0, 0, 0, 46, 47, 48, 49, 50, 51, 52, 53, 54, 0, 55, 0, 56, 57, 58, 0, 0, 59, 0, 0, 60, 0, 61, 0, 0, 62, 0, 63, 64, 65, 66, 0, 67, 68, 0, 0, 0, 69, 70, 0, 71, 72, 73, 0, 74, 75, 76, 77, 0, 0]
def sad_ (ad0 : Nat → Int → Nat) (xa qf : Nat → Nat) : Nat → Int → Nat := fun k i => if k < 100 then ad0 k i else if 200 ≤ k ∧ k < 400 then qf (pt_.getD (k - 200) 0) else xa k
theorem gd_o (l : List Int) (n : Nat) (h : l.length ≤ n) : l.getD n 0 = 0 := by
  simp [List.getD_eq_getElem?_getD, List.getElem?_eq_none h]
section STP
variable {g : Nat → Int32} {cA : Nat → ClassId} {ad0 : Nat → Int → Nat} {xa qf : Nat → Nat}
theorem ts_a (k : Nat) (i : Int) : al_ (Ts_ g) k i ↔ i = 0 ∧ sk_.contains k = true := by
  unfold al_ Ts_
  by_cases h : i = 0
  · rw [if_pos h, if_pos rfl]
    by_cases h2 : sk_.contains k = true
    · rw [if_pos h2]; exact ⟨fun _ => ⟨h, h2⟩, fun _ => rfl⟩
    · rw [if_neg h2]; exact ⟨fun z => absurd z (by decide), fun z => absurd z.2 h2⟩
  · rw [if_neg h]; exact ⟨fun z => absurd z (by decide), fun z => absurd z.1 h⟩
theorem ts_i (k : Nat) (i : Int) : al_ (Ts_ g) k i ↔ (k, i) ∈ sid_ := by
  rw [ts_a]
  unfold sid_
  rw [List.mem_map]
  constructor
  · rintro ⟨rfl, h⟩
    exact ⟨k, by simpa using h, rfl⟩
  · rintro ⟨k', h, e⟩
    cases e
    exact ⟨rfl, by simpa using h⟩
theorem ts_n (k : Nat) {i : Int} (h : i ≠ 0) (j : Int) : Ts_ g k i j = 0 := if_neg h
theorem ts_v {k : Nat} (hk : k ≠ 584 ∧ k ≠ 191) (n : Nat) : Ts_ g k 0 (n : Int) = sv_ k n := by
  unfold Ts_
  rw [if_pos rfl, if_neg (by omega), if_pos (by omega), if_neg hk.1, if_neg (fun z => hk.2 z.1)]
  rfl
theorem ts_w {k : Nat} (hk : k ≠ 584 ∧ k ≠ 191) {x : Int} (hx : 0 ≤ x) : Ts_ g k 0 x = sv_ k x.toNat := by
  obtain ⟨n, rfl⟩ : ∃ n : Nat, x = (n : Int) := ⟨x.toNat, by omega⟩
  rw [ts_v hk]
  rfl
theorem ts_g (n : Nat) : Ts_ g 584 0 (n : Int) = (g n).toInt := by
  unfold Ts_
  rw [if_pos rfl, if_neg (by omega), if_pos (by omega), if_pos rfl]
  rfl
def spk_ : List Nat := [105, 109, 111, 264, 265, 266, 267, 268]
theorem sv_o {k : Nat} (h : k ∉ spk_) (n : Nat) : sv_ k n = 0 := by
  unfold sv_
  split <;> first | rfl | exact absurd (by decide) h
theorem svb_264 (n : Nat) : 0 ≤ sv_ 264 n ∧ sv_ 264 n ≤ 122 := by
  show 0 ≤ ([115, 112, 111, 114, 116, 32, 112, 111, 105, 110, 116, 115, 32, 111, 114, 100, 101, 114, 32, 114, 101, 100, 111, 32, 108, 101, 103, 115, 32, 101, 118, 101, 114, 121, 32, 114, 101, 115, 116, 32, 102, 105, 101, 108, 100, 32, 115, 117, 98, 115, 32, 116, 97, 114, 103, 101, 116, 32, 119, 97, 108, 107, 111, 118, 101, 114, 32, 99, 97, 114, 100, 115, 32, 114, 101, 100, 32, 115, 101, 101, 100, 32] : List Int).getD n 0 ∧ ([115, 112, 111, 114, 116, 32, 112, 111, 105, 110, 116, 115, 32, 111, 114, 100, 101, 114, 32, 114, 101, 100, 111, 32, 108, 101, 103, 115, 32, 101, 118, 101, 114, 121, 32, 114, 101, 115, 116, 32, 102, 105, 101, 108, 100, 32, 115, 117, 98, 115, 32, 116, 97, 114, 103, 101, 116, 32, 119, 97, 108, 107, 111, 118, 101, 114, 32, 99, 97, 114, 100, 115, 32, 114, 101, 100, 32, 115, 101, 101, 100, 32] : List Int).getD n 0 ≤ 122
  by_cases h : n < 82
  · revert n; decide +kernel
  · rw [gd_o _ _ (by simpa using h)]; decide
theorem svb_265 (n : Nat) : 0 ≤ sv_ 265 n ∧ sv_ 265 n ≤ 122 := by
  show 0 ≤ ([102, 111, 111, 116, 98, 97, 108, 108, 32, 118, 111, 108, 108, 101, 121, 98, 97, 108, 108, 32, 116, 101, 110, 110, 105, 115, 32, 98, 97, 115, 101, 98, 97, 108, 108, 32] : List Int).getD n 0 ∧ ([102, 111, 111, 116, 98, 97, 108, 108, 32, 118, 111, 108, 108, 101, 121, 98, 97, 108, 108, 32, 116, 101, 110, 110, 105, 115, 32, 98, 97, 115, 101, 98, 97, 108, 108, 32] : List Int).getD n 0 ≤ 122
  by_cases h : n < 36
  · revert n; decide +kernel
  · rw [gd_o _ _ (by simpa using h)]; decide
theorem svb_266 (n : Nat) : 0 ≤ sv_ 266 n ∧ sv_ 266 n ≤ 122 := by
  show 0 ≤ ([100, 105, 102, 102, 32, 115, 99, 111, 114, 101, 100, 32, 119, 105, 110, 115, 32, 97, 119, 97, 121, 32, 104, 101, 97, 100, 32, 102, 97, 105, 114, 32, 108, 111, 116, 115, 32] : List Int).getD n 0 ∧ ([100, 105, 102, 102, 32, 115, 99, 111, 114, 101, 100, 32, 119, 105, 110, 115, 32, 97, 119, 97, 121, 32, 104, 101, 97, 100, 32, 102, 97, 105, 114, 32, 108, 111, 116, 115, 32] : List Int).getD n 0 ≤ 122
  by_cases h : n < 37
  · revert n; decide +kernel
  · rw [gd_o _ _ (by simpa using h)]; decide
theorem svb_267 (n : Nat) : 0 ≤ sv_ 267 n ∧ sv_ 267 n ≤ 2 := by
  show 0 ≤ ([1, 1, 1, 1, 0, 2, 1, 1, 1, 0] : List Int).getD n 0 ∧ ([1, 1, 1, 1, 0, 2, 1, 1, 1, 0] : List Int).getD n 0 ≤ 2
  by_cases h : n < 10
  · revert n; decide +kernel
  · rw [gd_o _ _ (by simpa using h)]; decide
theorem svb_268 (n : Nat) : 0 ≤ sv_ 268 n ∧ sv_ 268 n ≤ 999 := by
  show 0 ≤ ([4, 30, 9, 6, 5, 25, 9, 9, 9, 999] : List Int).getD n 0 ∧ ([4, 30, 9, 6, 5, 25, 9, 9, 9, 999] : List Int).getD n 0 ≤ 999
  by_cases h : n < 10
  · revert n; decide +kernel
  · rw [gd_o _ _ (by simpa using h)]; decide
theorem tz_ : ∀ k, k < 640 → (match ta_ k with | some q => decide (q.2.2.1 ≤ 0) && decide (0 ≤ q.2.2.2) | none => true) = true := by decide +kernel
theorem tz_b {k t : Nat} {n : Option Int} {lo hi : Int} (h : ta_ k = some (t, n, lo, hi)) : lo ≤ 0 ∧ 0 ≤ hi := by
  by_cases hk : k < 640
  · have := tz_ k hk
    rw [h] at this
    simpa using this
  · rw [ta_no (by omega)] at h
    cases h
def fz1_ (k : Nat) : Bool := (tf_ k).zipIdx.all fun q => decide (q.1.2.2.1 ≤ 0) && decide (0 ≤ q.1.2.2.2) && decide (q.1.2.2.1 ≤ sv_ k q.2) && decide (sv_ k q.2 ≤ q.1.2.2.2) && decide (-2147483648 ≤ q.1.2.2.1) && decide (q.1.2.2.2 ≤ 2147483647)
theorem fz1_a : ∀ k, k < 154 → fz1_ k = true := by decide +kernel
theorem fz1_s {k j c k' : Nat} {lo hi : Int} (h : (tf_ k)[j]? = some (c, k', lo, hi)) : (lo ≤ 0 ∧ 0 ≤ hi) ∧ (lo ≤ sv_ k j ∧ sv_ k j ≤ hi) ∧ -2147483648 ≤ lo ∧ hi ≤ 2147483647 := by
  have h1 := fz1_a k (tf_lt h)
  unfold fz1_ at h1
  rw [List.all_eq_true] at h1
  have h2 := h1 ((c, k', lo, hi), j) (by rw [List.mem_zipIdx_iff_getElem?]; exact h)
  simp only [Bool.and_eq_true, decide_eq_true_eq] at h2
  exact ⟨⟨h2.1.1.1.1.1, h2.1.1.1.1.2⟩, ⟨h2.1.1.1.2, h2.1.1.2⟩, h2.1.2, h2.2⟩
def fz2_ (k : Nat) : Bool := (tf_ k).zipIdx.all fun q => match q.1.1 with
  | 0 => true
  | 1 => sk_.contains q.1.2.1
  | 2 => sk_.contains q.1.2.1
  | 3 => sk_.contains q.1.2.1 && decide (sv_ k q.2 = 0)
  | 4 => decide (sv_ k q.2 = 0)
  | 5 => decide (sv_ k q.2 = 0)
  | _ => true
theorem fz2_a : ∀ k ∈ sk_, fz2_ k = true := by decide +kernel
theorem sk_ow : ∀ k ∈ sk_, ow_ k = none ∧ 100 ≤ k := by decide +kernel
theorem ta_G : ta_ 584 = some (1, some 400, -2147483648, 2147483647) := by decide +kernel
set_option maxRecDepth 100000 in
theorem ts_ok : ok_T (Ts_ g) := by
  refine ⟨fun k t n lo hi h i x hx => ?_, fun k j c k' lo hi h i => ?_, fun i => ?_, fun k i ha j c k' lo hi h => ?_, fun i x hx h => ?_, fun i x hx h => ?_, fun k i hk ha => ?_, fun k i o ho ha => ?_, fun i hi ha => ?_⟩
  · have hz := tz_b h
    by_cases hi0 : i = 0
    · subst hi0
      by_cases hg : k = 584
      · subst hg
        rw [ta_G] at h
        cases h
        obtain ⟨n9, rfl⟩ : ∃ n : Nat, x = (n : Int) := ⟨x.toNat, by omega⟩
        rw [ts_g]
        have a1 := (g n9).le_toInt
        have a2 := (g n9).toInt_lt
        omega
      · by_cases h1 : k = 191
        · subst h1
          rw [ta_191] at h
          cases h
        · rw [ts_w ⟨hg, h1⟩ hx]
          by_cases hs : k ∈ spk_
          · simp only [spk_, List.mem_cons, List.not_mem_nil, or_false] at hs
            rcases hs with rfl | rfl | rfl | rfl | rfl | rfl | rfl | rfl
            · have := ta_ge h; omega
            · have := ta_ge h; omega
            · have := ta_ge h; omega
            · rw [show ta_ 264 = some (1, some 82, 0, 122) from by decide +kernel] at h; cases h; exact svb_264 _
            · rw [show ta_ 265 = some (1, some 36, 0, 122) from by decide +kernel] at h; cases h; exact svb_265 _
            · rw [show ta_ 266 = some (1, some 37, 0, 122) from by decide +kernel] at h; cases h; exact svb_266 _
            · rw [show ta_ 267 = some (1, some 10, 0, 2) from by decide +kernel] at h; cases h; exact svb_267 _
            · rw [show ta_ 268 = some (1, some 10, 0, 999) from by decide +kernel] at h; cases h; exact svb_268 _
          · rw [sv_o hs]
            exact hz
    · rw [ts_n k hi0]
      exact hz
  · obtain ⟨h1, h2, h3⟩ := fz1_s h
    by_cases hi0 : i = 0
    · subst hi0
      have hlt := tf_lt h
      rw [ts_v ⟨by omega, by omega⟩]
      exact h2
    · rw [ts_n k hi0]
      exact h1
  · by_cases hi0 : i = 0
    · subst hi0
      have : Ts_ g 190 0 (-2) = 1 := rfl
      omega
    · rw [ts_n 190 hi0]
      omega
  · obtain ⟨rfl, hc⟩ := (ts_a k i).mp ha
    have hm : k ∈ sk_ := by simpa using hc
    have hlt := tf_lt h
    rw [ts_v ⟨by omega, by omega⟩]
    have h2 := fz2_a k hm
    unfold fz2_ at h2
    rw [List.all_eq_true] at h2
    have h3 := h2 ((c, k', lo, hi), j) (by rw [List.mem_zipIdx_iff_getElem?]; exact h)
    obtain ⟨b1, b2, b3, b4⟩ := fz1_s h
    match c, h3 with
    | 0, h3 => exact ⟨by omega, by omega⟩
    | 1, h3 => exact Or.inr ((ts_a k' 0).mpr ⟨rfl, h3⟩)
    | 2, h3 => exact Or.inr ((ts_a k' 0).mpr ⟨rfl, h3⟩)
    | 3, h3 =>
      simp only [Bool.and_eq_true, decide_eq_true_eq] at h3
      rw [h3.2]
      exact Or.inr ((ts_a k' 0).mpr ⟨rfl, h3.1⟩)
    | 4, h3 =>
      simp only [decide_eq_true_eq] at h3
      rw [h3]
      exact trivial
    | 5, h3 =>
      simp only [decide_eq_true_eq] at h3
      rw [h3]
      exact trivial
    | c + 6, h3 => exact trivial
  · exact absurd (show Ts_ g 521 i x = 0 from by
      by_cases hi0 : i = 0
      · subst hi0
        rw [ts_w ⟨by decide, by decide⟩ hx, sv_o (by decide)]
      · exact ts_n 521 hi0 x) h
  · exact absurd (show Ts_ g 523 i x = 0 from by
      by_cases hi0 : i = 0
      · subst hi0
        rw [ts_w ⟨by decide, by decide⟩ hx, sv_o (by decide)]
      · exact ts_n 523 hi0 x) h
  · obtain ⟨rfl, hc⟩ := (ts_a k i).mp ha
    have := (sk_ow k (by simpa using hc)).2
    omega
  · obtain ⟨rfl, hc⟩ := (ts_a k i).mp ha
    have := (sk_ow k (by simpa using hc)).1
    rw [this] at ho
    cases ho
  · obtain ⟨rfl, hc⟩ := (ts_a 190 i).mp ha
    have : Ts_ g 191 0 0 = 1 := rfl
    omega
end STP
-- what holds at the start
section STQ
variable {g : Nat → Int32} {cA : Nat → ClassId} {ad0 : Nat → Int → Nat} {xa qf : Nat → Nat}
theorem tz0 {k : Nat} (hk : k ≠ 584 ∧ k ≠ 191) (h : k ∉ spk_) {x : Int} (hx : 0 ≤ x) : Ts_ g k 0 x = 0 := by
  rw [ts_w hk hx, sv_o h]
theorem tsv {k : Nat} (hk : k ≠ 584 ∧ k ≠ 191) {j : Int} (hj : 0 ≤ j) {v : Int} (h : sv_ k j.toNat = v) : Ts_ g k 0 j = v := by
  rw [ts_w hk hj]
  exact h
theorem tna (k : Nat) (h : sk_.contains k = false) (i : Int) : ¬ Ts_ g k i (-1) = 1 := fun z => by
  have := ((ts_a k i).mp z).2
  rw [h] at this
  cases this
theorem ts_ic : IC_ 0 (Ts_ g) := by
  have e2 : Ts_ g 106 0 2 = 0 := tsv ⟨by decide, by decide⟩ (by decide) rfl
  have e4 : Ts_ g 106 0 4 = 0 := tsv ⟨by decide, by decide⟩ (by decide) rfl
  have n2 : ∀ c : Int, 0 ≤ c → ¬ c < Ts_ g 106 0 2 := fun c a b => by rw [e2] at b; omega
  have n4 : ∀ c : Int, 0 ≤ c → ¬ c < Ts_ g 106 0 4 := fun c a b => by rw [e4] at b; omega
  have e9 : Ts_ g 191 0 0 = 1 := rfl
  refine ⟨⟨⟨fun i a b => absurd b (n2 i a), fun i a b => absurd b (n4 i a)⟩, fun m a b => absurd b (n4 m a), fun c a b => absurd b (n2 c a), fun c a b => absurd b (n2 c a), fun c a b => absurd b (n2 c a), fun c a b => absurd b (n2 c a), fun c a b => absurd b (n2 c a), fun c a b => absurd b (n2 c a), fun m a b => absurd b (n4 m a), fun c a b => absurd b (n2 c a)⟩, fun i j a b c => absurd c (n4 j (by omega)), ⟨⟨tna 150 (by decide +kernel), tna 152 (by decide +kernel), tna 153 (by decide +kernel)⟩, fun i _ => tna 100 (by decide +kernel) i, fun i _ => tna 102 (by decide +kernel) i, fun i _ => tna 103 (by decide +kernel) i⟩, fun m a b => absurd b (n4 m a), fun h => absurd (tsv ⟨by decide, by decide⟩ (by decide) rfl) h, by omega, by omega⟩
theorem ts_ir : IR_ (Ts_ g) := by
  have e6 : Ts_ g 111 0 6 = 0 := tsv ⟨by decide, by decide⟩ (by decide) rfl
  have e29 : Ts_ g 111 0 29 = 0 := tsv ⟨by decide, by decide⟩ (by decide) rfl
  have n6 : ∀ c : Int, 0 ≤ c → ¬ c < Ts_ g 111 0 6 := fun c a b => by rw [e6] at b; omega
  have n29 : ∀ c : Int, 0 ≤ c → ¬ c < Ts_ g 111 0 29 := fun c a b => by rw [e29] at b; omega
  have z : ∀ k : Nat, k ∈ [208, 210, 211, 235, 236, 237, 239, 242, 254, 256] → ∀ x : Int, 0 ≤ x → Ts_ g k 0 x = 0 := fun k hk x hx => by
    refine tz0 ?_ ?_ hx
    · exact (show ∀ k ∈ [208, 210, 211, 235, 236, 237, 239, 242, 254, 256], k ≠ 584 ∧ k ≠ 191 by decide) k hk
    · exact (show ∀ k ∈ [208, 210, 211, 235, 236, 237, 239, 242, 254, 256], k ∉ spk_ by decide) k hk
  refine ⟨⟨fun i a _ => tsv ⟨by decide, by decide⟩ a rfl, fun i a _ => tsv ⟨by decide, by decide⟩ a rfl, fun i a _ => tsv ⟨by decide, by decide⟩ a rfl, fun i a _ => tsv ⟨by decide, by decide⟩ a rfl, fun i a _ => tsv ⟨by decide, by decide⟩ a rfl⟩, fun c w a b => absurd b (n6 c a), fun c a b => absurd b (n6 c a), fun c a _ => ⟨fun j p q => ?_, fun i j p q s => ?_⟩, fun c a _ => ?_, fun m a b => absurd b (n29 m a), fun m s a b c d => ⟨fun h => absurd h (n29 m a), fun _ => z 239 (by decide) _ (by omega)⟩, fun m s a b c d h => ?_, ⟨fun _ _ => [], ⟨fun m b a c => absurd c (n29 m a), fun m b x h => (by cases h), fun m b => List.nodup_nil, fun m b m' b' x h => (by cases h)⟩, fun x h => (by cases h), List.nodup_nil, fun m b x h => (by cases h)⟩, fun m a b => ?_, fun j a b c => z 242 (by decide) j a, fun m a b c => ?_⟩
  · rw [z 208 (by decide) c a] at q; omega
  · rw [z 208 (by decide) c a] at s; omega
  · rw [z 210 (by decide) c a, z 211 (by decide) c a, e29]; omega
  · rw [z 235 (by decide) m a] at h; omega
  · rw [e29] at a; exact ⟨z 254 (by decide) m a, z 256 (by decide) m a⟩
  · have h1 := z 236 (by decide) m a
    have h2 := z 237 (by decide) m a
    have h4 := z 254 (by decide) m a
    refine ⟨by omega, by omega, fun j p q => ?_⟩
    have h3 := z 242 (by decide) j (by omega)
    omega
theorem ts_pl : PLR_ (Ts_ g) ∧ LDR_ (Ts_ g) ∧ RCR_ (Ts_ g) ∧ DAR_ (Ts_ g) ∧ MVR_ (Ts_ g) ∧ CNO_ (Ts_ g) ∧ CLM_ (Ts_ g) := by
  have e2 : Ts_ g 106 0 2 = 0 := tsv ⟨by decide, by decide⟩ (by decide) rfl
  have e4 : Ts_ g 106 0 4 = 0 := tsv ⟨by decide, by decide⟩ (by decide) rfl
  have e5 : Ts_ g 106 0 5 = 0 := tsv ⟨by decide, by decide⟩ (by decide) rfl
  have e12 : Ts_ g 106 0 12 = 0 := tsv ⟨by decide, by decide⟩ (by decide) rfl
  have r47 : Ts_ g 111 0 47 = 0 := tsv ⟨by decide, by decide⟩ (by decide) rfl
  have r75 : Ts_ g 111 0 75 = 0 := tsv ⟨by decide, by decide⟩ (by decide) rfl
  have r29 : Ts_ g 111 0 29 = 0 := tsv ⟨by decide, by decide⟩ (by decide) rfl
  have b4 : Ts_ g 104 0 4 = 0 := tsv ⟨by decide, by decide⟩ (by decide) rfl
  have s15 : Ts_ g 109 0 15 = 0 := tsv ⟨by decide, by decide⟩ (by decide) rfl
  have n1 : Ts_ g 191 0 0 = 1 := rfl
  refine ⟨⟨fun m a b => absurd b (by omega), fun m a b => ⟨tz0 ⟨by decide, by decide⟩ (by decide) (by omega), tz0 ⟨by decide, by decide⟩ (by decide) (by omega)⟩⟩, ⟨⟨by omega, by omega⟩, fun m a b => absurd b (by omega)⟩, ?_, fun m a b => absurd b (by omega), ⟨by omega, fun k a b => absurd b (by omega)⟩, fun c a b => absurd b (by omega), fun m a b => absurd b (by omega)⟩
  show Ts_ g 106 0 5 = Ts_ g 111 0 47
  omega
theorem ts_lo : LOR_ (Ts_ g) := by
  have e1 : Ts_ g 101 0 1 = 0 := tsv ⟨by decide, by decide⟩ (by decide) rfl
  have e2 : Ts_ g 101 0 2 = 0 := tsv ⟨by decide, by decide⟩ (by decide) rfl
  have e5 : Ts_ g 101 0 5 = 0 := tsv ⟨by decide, by decide⟩ (by decide) rfl
  have f1 : Ts_ g 111 0 98 = 0 := tsv ⟨by decide, by decide⟩ (by decide) rfl
  have f2 : Ts_ g 111 0 99 = 0 := tsv ⟨by decide, by decide⟩ (by decide) rfl
  have f3 : Ts_ g 111 0 100 = 0 := tsv ⟨by decide, by decide⟩ (by decide) rfl
  have f4 : Ts_ g 111 0 103 = 0 := tsv ⟨by decide, by decide⟩ (by decide) rfl
  exact ⟨⟨by omega, by omega, by omega, by omega⟩, fun k a b => ⟨(tz0 ⟨by decide, by decide⟩ (by decide) a : Ts_ g 428 0 k = 0).trans (tz0 ⟨by decide, by decide⟩ (by decide) a : Ts_ g 301 0 k = 0).symm, (tz0 ⟨by decide, by decide⟩ (by decide) a : Ts_ g 429 0 k = 0).trans (tz0 ⟨by decide, by decide⟩ (by decide) a : Ts_ g 302 0 k = 0).symm⟩, Or.inl e1⟩
theorem ts_th : THR_ (Ts_ g) := by
  have e2 : Ts_ g 108 0 2 = 0 := tsv ⟨by decide, by decide⟩ (by decide) rfl
  have e12 : Ts_ g 108 0 12 = 0 := tsv ⟨by decide, by decide⟩ (by decide) rfl
  exact ⟨fun j a b => absurd b (by omega), fun j a b => absurd b (by omega)⟩
theorem ts_en : ENA_ (Ts_ g) := by
  have e2 : Ts_ g 106 0 2 = 0 := tsv ⟨by decide, by decide⟩ (by decide) rfl
  have e4 : Ts_ g 106 0 4 = 0 := tsv ⟨by decide, by decide⟩ (by decide) rfl
  have e6 : Ts_ g 106 0 6 = 0 := tsv ⟨by decide, by decide⟩ (by decide) rfl
  have f4 : Ts_ g 111 0 29 = 0 := tsv ⟨by decide, by decide⟩ (by decide) rfl
  have f6 : Ts_ g 111 0 24 = 0 := tsv ⟨by decide, by decide⟩ (by decide) rfl
  refine ⟨⟨fun c a b => absurd b (by omega), fun c a b => ⟨tz0 ⟨by decide, by decide⟩ (by decide) (by omega), tz0 ⟨by decide, by decide⟩ (by decide) (by omega), tz0 ⟨by decide, by decide⟩ (by decide) (by omega), tz0 ⟨by decide, by decide⟩ (by decide) (by omega)⟩⟩, ⟨by omega, fun m a b => absurd b (by omega)⟩, by omega, fun i a b => absurd b (by omega)⟩
theorem ts_tx : TXR_ (Ts_ g) := by
  have e6 : Ts_ g 106 0 2 = 0 := tsv ⟨by decide, by decide⟩ (by decide) rfl
  refine ⟨(tsv ⟨by decide, by decide⟩ (by decide) rfl : Ts_ g 105 0 1 = 0).trans (tsv ⟨by decide, by decide⟩ (by decide) rfl : Ts_ g 111 0 1 = 0).symm, (tsv ⟨by decide, by decide⟩ (by decide) rfl : Ts_ g 105 0 3 = -1).trans (tsv ⟨by decide, by decide⟩ (by decide) rfl : Ts_ g 111 0 2 = -1).symm, e6.trans (tsv ⟨by decide, by decide⟩ (by decide) rfl : Ts_ g 111 0 6 = 0).symm, fun j a b => (tz0 ⟨by decide, by decide⟩ (by decide) a : Ts_ g 500 0 j = 0).trans (tz0 ⟨by decide, by decide⟩ (by decide) a : Ts_ g 200 0 j = 0).symm, fun c a b => absurd b (by rw [e6]; omega)⟩
theorem ts_sp : SPR_ (Ts_ g) := by
  have e5 : Ts_ g 108 0 5 = 0 := tsv ⟨by decide, by decide⟩ (by decide) rfl
  have e3 : Ts_ g 108 0 3 = 0 := tsv ⟨by decide, by decide⟩ (by decide) rfl
  have n5 : ∀ c : Int, 0 ≤ c → ¬ c < Ts_ g 108 0 5 := fun c a b => by rw [e5] at b; omega
  have n3 : ∀ c : Int, 0 ≤ c → ¬ c < Ts_ g 108 0 3 := fun c a b => by rw [e3] at b; omega
  exact ⟨e5.trans (tsv ⟨by decide, by decide⟩ (by decide) rfl : Ts_ g 111 0 16 = 0).symm, fun s a b => absurd b (n5 s a), fun s a b => absurd b (n3 s a), fun s a b => absurd b (n5 s a), fun s a b => absurd b (n5 s a)⟩
theorem ts_li : LI_ 0 (Ts_ g) := ⟨ts_ic, ts_ir, ⟨⟨(tsv ⟨by decide, by decide⟩ (by decide) rfl : Ts_ g 108 0 2 = 0).trans (tsv ⟨by decide, by decide⟩ (by decide) rfl : Ts_ g 111 0 12 = 0).symm, (tsv ⟨by decide, by decide⟩ (by decide) rfl : Ts_ g 108 0 3 = 0).trans (tsv ⟨by decide, by decide⟩ (by decide) rfl : Ts_ g 111 0 15 = 0).symm, (tsv ⟨by decide, by decide⟩ (by decide) rfl : Ts_ g 108 0 12 = 0).trans (tsv ⟨by decide, by decide⟩ (by decide) rfl : Ts_ g 111 0 21 = 0).symm, (tsv ⟨by decide, by decide⟩ (by decide) rfl : Ts_ g 108 0 13 = 0).trans (tsv ⟨by decide, by decide⟩ (by decide) rfl : Ts_ g 111 0 3 = 0).symm⟩, ts_th, ts_sp, ts_tx, ts_en.1, ts_en.2.1, ts_en.2.2, ts_lo, ts_pl.1, ts_pl.2.1, ts_pl.2.2.1, ts_pl.2.2.2.1, ts_pl.2.2.2.2.1, ts_pl.2.2.2.2.2.1, ts_pl.2.2.2.2.2.2⟩, (ts_a 109 0).mpr ⟨rfl, by decide +kernel⟩, (ts_a 110 0).mpr ⟨rfl, by decide +kernel⟩, (ts_a 111 0).mpr ⟨rfl, by decide +kernel⟩⟩
-- the cells
theorem lc2 {α : Type} {a b : α} {l k : List α} (h : a = b) (t : l = k) : a :: l = b :: k := by rw [h, t]
theorem pr2 {α β : Type} {a : α} {b c : β} (h : b = c) : (a, b) = (a, c) := by rw [h]
theorem sr_1 {ad : Nat → Int → Nat} {k : Nat} {n lo hi : Int} {f : Nat → Int32} (ha : ta_ k = some (1, some n, lo, hi)) (hz : ∀ x : Nat, Int32.ofInt (Ts_ g k 0 (x : Int)) = f x) : ce_ cA ad (Ts_ g) k 0 = .inl (cA 0, n.toNat, .inl f) := by
  unfold ce_ ln_
  rw [ha]
  exact congrArg (fun q => Sum.inl (cA 0, n.toNat, Sum.inl q)) (funext hz)
theorem sr_2 {ad : Nat → Int → Nat} {k : Nat} {n lo hi : Int} {f : Nat → Int32} (ha : ta_ k = some (2, some n, lo, hi)) (hz : ∀ x : Nat, Int32.ofInt (Ts_ g k 0 (x : Int)) = f x) : ce_ cA ad (Ts_ g) k 0 = .inl (cA 1, n.toNat, .inl f) := by
  unfold ce_ ln_
  rw [ha]
  exact congrArg (fun q => Sum.inl (cA 1, n.toNat, Sum.inl q)) (funext hz)
theorem sr_3 {ad : Nat → Int → Nat} {k : Nat} {n lo hi : Int} {f : Nat → Int64} (ha : ta_ k = some (3, some n, lo, hi)) (hz : ∀ x : Nat, Int64.ofInt (Ts_ g k 0 (x : Int)) = f x) : ce_ cA ad (Ts_ g) k 0 = .inl (cA 2, n.toNat, .inr (.inl f)) := by
  unfold ce_ ln_
  rw [ha]
  exact congrArg (fun q => Sum.inl (cA 2, n.toNat, Sum.inr (Sum.inl q))) (funext hz)
theorem sr_4 {ad : Nat → Int → Nat} {k : Nat} {n lo hi : Int} (ha : ta_ k = some (4, some n, lo, hi)) (hz : ∀ x : Nat, Ts_ g k 0 (x : Int) = 0) : ce_ cA ad (Ts_ g) k 0 = .inl (cA 3, n.toNat, .inr (.inr (.inr (.inr fun _ => none)))) := by
  unfold ce_ ln_
  rw [ha]
  exact congrArg (fun q => Sum.inl (cA 3, n.toNat, Sum.inr (Sum.inr (Sum.inr (Sum.inr q))))) (funext fun x => if_pos (hz x))
theorem sr_5 {ad : Nat → Int → Nat} {k : Nat} {n lo hi : Int} (ha : ta_ k = some (5, some n, lo, hi)) (hz : ∀ x : Nat, Ts_ g k 0 (x : Int) = 0) : ce_ cA ad (Ts_ g) k 0 = .inl (cA 4, n.toNat, .inr (.inr (.inr (.inr fun _ => none)))) := by
  unfold ce_ ln_
  rw [ha]
  exact congrArg (fun q => Sum.inl (cA 4, n.toNat, Sum.inr (Sum.inr (Sum.inr (Sum.inr q))))) (funext fun x => if_pos (hz x))
theorem sr_190 {ad : Nat → Int → Nat} : ce_ cA ad (Ts_ g) 190 0 = .inl (cA 0, 1, .inl fun _ => 0) := by
  unfold ce_ ln_
  rw [show ta_ 190 = some (1, none, -2147483648, 2147483647) from by decide +kernel]
  have e1 : (Ts_ g 190 0 (-2)).toNat = 1 := rfl
  have e2 : (fun x : Nat => Int32.ofInt (Ts_ g 190 0 (x : Int))) = fun _ => 0 := funext fun x => by rw [tz0 ⟨by decide, by decide⟩ (by decide) (by omega)]; rfl
  show Sum.inl (cA 0, (Ts_ g 190 0 (-2)).toNat, Sum.inl fun x : Nat => Int32.ofInt (Ts_ g 190 0 (x : Int))) = _
  rw [e1, e2]
theorem z32 {k : Nat} (hk : k ≠ 584 ∧ k ≠ 191) (h : k ∉ spk_) (x : Nat) : Int32.ofInt (Ts_ g k 0 (x : Int)) = 0 := by
  rw [tz0 hk h (by omega)]
  rfl
theorem z64 {k : Nat} (hk : k ≠ 584 ∧ k ≠ 191) (h : k ∉ spk_) (x : Nat) : Int64.ofInt (Ts_ g k 0 (x : Int)) = 0 := by
  rw [tz0 hk h (by omega)]
  rfl
theorem so_110 : ce_ cA (sad_ ad0 xa qf) (Ts_ g) 110 0 = .inr (10, [.ref (xa 105), .ref (xa 108), .ref (xa 106), .ref (xa 107), .ref (xa 109), .ref (xa 101), .ref (xa 104)]) := rfl
theorem so_105 : ce_ cA (sad_ ad0 xa qf) (Ts_ g) 105 0 = .inr (5, [.ref (xa 500), .int 0, .int 0, .int (-1), .ref (xa 504), .ref (xa 505), .int 0, .int 0, .int 0, .int 0]) := rfl
theorem so_108 : ce_ cA (sad_ ad0 xa qf) (Ts_ g) 108 0 = .inr (8, [.ref (xa 560), .ref (xa 561), .int 0, .int 0, .ref (xa 564), .int 0, .ref (xa 566), .ref (xa 567), .ref (xa 568), .ref (xa 569), .ref (xa 570), .ref (xa 571), .int 0, .int 0]) := rfl
theorem so_106 : ce_ cA (sad_ ad0 xa qf) (Ts_ g) 106 0 = .inr (6, [.ref (xa 108), .ref (xa 521), .int 0, .ref (xa 523), .int 0, .int 0, .int 0, .ref (xa 527), .ref (xa 528), .ref (xa 529), .ref (xa 530), .ref (xa 531), .int 0, .ref (xa 533), .ref (xa 534), .ref (xa 535)]) := rfl
theorem so_107 : ce_ cA (sad_ ad0 xa qf) (Ts_ g) 107 0 = .inr (7, [.ref (xa 106), .null, .ref (xa 542), .ref (xa 543), .ref (xa 544), .ref (xa 545), .ref (xa 546), .ref (xa 547), .ref (xa 548), .ref (xa 549), .ref (xa 550), .ref (xa 551), .ref (xa 552), .int 0]) := rfl
theorem so_109 : ce_ cA (sad_ ad0 xa qf) (Ts_ g) 109 0 = .inr (9, [.ref (xa 106), .ref (xa 107), .int (-1), .int 0, .ref (xa 584), .null, .int 0, .ref (xa 587), .ref (xa 588), .int 0, .ref (xa 590), .ref (xa 591), .ref (xa 592), .ref (xa 593), .ref (xa 594), .null]) := rfl
theorem so_101 : ce_ cA (sad_ ad0 xa qf) (Ts_ g) 101 0 = .inr (1, [.ref (xa 108), .int 0, .int 0, .int 0, .int 0, .int 0, .int 0, .int 0, .ref (xa 428), .ref (xa 429), .ref (xa 430), .ref (xa 431), .ref (xa 432), .int 0, .ref (xa 434), .ref (xa 435)]) := rfl
theorem so_104 : ce_ cA (sad_ ad0 xa qf) (Ts_ g) 104 0 = .inr (4, [.ref (xa 106), .ref (xa 108), .ref (xa 482), .int 0, .ref (xa 190)]) := rfl
def stX (cA : Nat → ClassId) (xa : Nat → Nat) (g : Nat → Int32) : va_W := [(xa 110, .inr (10, [.ref (xa 105), .ref (xa 108), .ref (xa 106), .ref (xa 107), .ref (xa 109), .ref (xa 101), .ref (xa 104)])), (xa 105, .inr (5, [.ref (xa 500), .int 0, .int 0, .int (-1), .ref (xa 504), .ref (xa 505), .int 0, .int 0, .int 0, .int 0])), (xa 500, .inl (cA 0, 400, .inl fun _ => 0)), (xa 504, .inl (cA 0, 16, .inl fun _ => 0)), (xa 505, .inl (cA 0, 7, .inl fun _ => 0)), (xa 108, .inr (8, [.ref (xa 560), .ref (xa 561), .int 0, .int 0, .ref (xa 564), .int 0, .ref (xa 566), .ref (xa 567), .ref (xa 568), .ref (xa 569), .ref (xa 570), .ref (xa 571), .int 0, .int 0])), (xa 560, .inl (cA 0, 12, .inl fun _ => 0)), (xa 561, .inl (cA 0, 12, .inl fun _ => 0)), (xa 564, .inl (cA 0, 200, .inl fun _ => 0)), (xa 566, .inl (cA 0, 300, .inl fun _ => 0)), (xa 567, .inl (cA 0, 300, .inl fun _ => 0)), (xa 568, .inl (cA 0, 300, .inl fun _ => 0)), (xa 569, .inl (cA 0, 300, .inl fun _ => 0)), (xa 570, .inl (cA 0, 8, .inl fun _ => 0)), (xa 571, .inl (cA 0, 8, .inl fun _ => 0)), (xa 106, .inr (6, [.ref (xa 108), .ref (xa 521), .int 0, .ref (xa 523), .int 0, .int 0, .int 0, .ref (xa 527), .ref (xa 528), .ref (xa 529), .ref (xa 530), .ref (xa 531), .int 0, .ref (xa 533), .ref (xa 534), .ref (xa 535)])), (xa 521, .inl (cA 3, 4, .inr (.inr (.inr (.inr fun _ => none))))), (xa 523, .inl (cA 4, 400, .inr (.inr (.inr (.inr fun _ => none))))), (xa 527, .inl (cA 0, 50, .inl fun _ => 0)), (xa 528, .inl (cA 0, 50, .inl fun _ => 0)), (xa 529, .inl (cA 0, 50, .inl fun _ => 0)), (xa 530, .inl (cA 0, 50, .inl fun _ => 0)), (xa 531, .inl (cA 0, 400, .inl fun _ => 0)), (xa 533, .inl (cA 0, 400, .inl fun _ => 0)), (xa 534, .inl (cA 0, 400, .inl fun _ => 0)), (xa 535, .inl (cA 0, 1000, .inl fun _ => 0)), (xa 107, .inr (7, [.ref (xa 106), .null, .ref (xa 542), .ref (xa 543), .ref (xa 544), .ref (xa 545), .ref (xa 546), .ref (xa 547), .ref (xa 548), .ref (xa 549), .ref (xa 550), .ref (xa 551), .ref (xa 552), .int 0])), (xa 542, .inl (cA 0, 96, .inl fun _ => 0)), (xa 543, .inl (cA 0, 12, .inl fun _ => 0)), (xa 544, .inl (cA 0, 12, .inl fun _ => 0)), (xa 545, .inl (cA 0, 144, .inl fun _ => 0)), (xa 546, .inl (cA 0, 144, .inl fun _ => 0)), (xa 547, .inl (cA 0, 12, .inl fun _ => 0)), (xa 548, .inl (cA 0, 12, .inl fun _ => 0)), (xa 549, .inl (cA 2, 12, .inr (.inl fun _ => 0))), (xa 550, .inl (cA 0, 16, .inl fun _ => 0)), (xa 551, .inl (cA 0, 16, .inl fun _ => 0)), (xa 552, .inl (cA 0, 16, .inl fun _ => 0)), (xa 109, .inr (9, [.ref (xa 106), .ref (xa 107), .int (-1), .int 0, .ref (xa 584), .null, .int 0, .ref (xa 587), .ref (xa 588), .int 0, .ref (xa 590), .ref (xa 591), .ref (xa 592), .ref (xa 593), .ref (xa 594), .null])), (xa 587, .inl (cA 0, 12, .inl fun _ => 0)), (xa 588, .inl (cA 0, 40, .inl fun _ => 0)), (xa 590, .inl (cA 0, 40, .inl fun _ => 0)), (xa 591, .inl (cA 0, 12, .inl fun _ => 0)), (xa 592, .inl (cA 0, 12, .inl fun _ => 0)), (xa 593, .inl (cA 0, 12, .inl fun _ => 0)), (xa 594, .inl (cA 0, 12, .inl fun _ => 0)), (xa 584, .inl (cA 0, 400, .inl g)), (xa 101, .inr (1, [.ref (xa 108), .int 0, .int 0, .int 0, .int 0, .int 0, .int 0, .int 0, .ref (xa 428), .ref (xa 429), .ref (xa 430), .ref (xa 431), .ref (xa 432), .int 0, .ref (xa 434), .ref (xa 435)])), (xa 428, .inl (cA 0, 12, .inl fun _ => 0)), (xa 429, .inl (cA 0, 12, .inl fun _ => 0)), (xa 430, .inl (cA 0, 3, .inl fun _ => 0)), (xa 431, .inl (cA 0, 48, .inl fun _ => 0)), (xa 432, .inl (cA 0, 12, .inl fun _ => 0)), (xa 434, .inl (cA 0, 12, .inl fun _ => 0)), (xa 435, .inl (cA 0, 32, .inl fun _ => 0)), (xa 104, .inr (4, [.ref (xa 106), .ref (xa 108), .ref (xa 482), .int 0, .ref (xa 190)])), (xa 482, .inl (cA 0, 400, .inl fun _ => 0)), (xa 190, .inl (cA 0, 1, .inl fun _ => 0))]
def sX_ : List (Nat × Int) := [(110, 0), (105, 0), (500, 0), (504, 0), (505, 0), (108, 0), (560, 0), (561, 0), (564, 0), (566, 0), (567, 0), (568, 0), (569, 0), (570, 0), (571, 0), (106, 0), (521, 0), (523, 0), (527, 0), (528, 0), (529, 0), (530, 0), (531, 0), (533, 0), (534, 0), (535, 0), (107, 0), (542, 0), (543, 0), (544, 0), (545, 0), (546, 0), (547, 0), (548, 0), (549, 0), (550, 0), (551, 0), (552, 0), (109, 0), (587, 0), (588, 0), (590, 0), (591, 0), (592, 0), (593, 0), (594, 0), (584, 0), (101, 0), (428, 0), (429, 0), (430, 0), (431, 0), (432, 0), (434, 0), (435, 0), (104, 0), (482, 0), (190, 0)]
def sM_ : List (Nat × Int) := [(111, 0), (200, 0), (204, 0), (205, 0), (207, 0), (208, 0), (209, 0), (210, 0), (211, 0), (213, 0), (214, 0), (217, 0), (218, 0), (219, 0), (220, 0), (222, 0), (223, 0), (225, 0), (226, 0), (227, 0), (228, 0), (230, 0), (231, 0), (232, 0), (233, 0), (234, 0), (235, 0), (236, 0), (237, 0), (238, 0), (239, 0), (240, 0), (241, 0), (242, 0), (243, 0), (244, 0), (245, 0), (246, 0), (248, 0), (249, 0), (250, 0), (251, 0), (252, 0), (253, 0), (254, 0), (255, 0), (256, 0), (264, 0), (265, 0), (266, 0), (267, 0), (268, 0), (269, 0), (270, 0), (271, 0), (272, 0), (274, 0), (276, 0), (277, 0), (278, 0), (281, 0), (284, 0), (286, 0), (289, 0), (291, 0), (292, 0), (293, 0), (294, 0), (296, 0), (297, 0), (301, 0), (302, 0), (304, 0), (305, 0), (306, 0), (308, 0), (309, 0), (310, 0), (311, 0)]
set_option maxRecDepth 100000 in
set_option maxHeartbeats 4000000 in
theorem stx_w : wd_ cA (sad_ ad0 xa qf) (Ts_ g) sX_ = stX cA xa g := lc2 (pr2 so_110) (lc2 (pr2 so_105) (lc2 (pr2 (sr_1 (show ta_ 500 = some (1, some 400, 0, 126) by decide +kernel) (z32 ⟨by decide, by decide⟩ (by decide)))) (lc2 (pr2 (sr_1 (show ta_ 504 = some (1, some 16, 0, 999) by decide +kernel) (z32 ⟨by decide, by decide⟩ (by decide)))) (lc2 (pr2 (sr_1 (show ta_ 505 = some (1, some 7, (-1), 6) by decide +kernel) (z32 ⟨by decide, by decide⟩ (by decide)))) (lc2 (pr2 so_108) (lc2 (pr2 (sr_1 (show ta_ 560 = some (1, some 12, 0, 11) by decide +kernel) (z32 ⟨by decide, by decide⟩ (by decide)))) (lc2 (pr2 (sr_1 (show ta_ 561 = some (1, some 12, 0, 7) by decide +kernel) (z32 ⟨by decide, by decide⟩ (by decide)))) (lc2 (pr2 (sr_1 (show ta_ 564 = some (1, some 200, (-1), 299) by decide +kernel) (z32 ⟨by decide, by decide⟩ (by decide)))) (lc2 (pr2 (sr_1 (show ta_ 566 = some (1, some 300, 0, 11) by decide +kernel) (z32 ⟨by decide, by decide⟩ (by decide)))) (lc2 (pr2 (sr_1 (show ta_ 567 = some (1, some 300, 0, 999) by decide +kernel) (z32 ⟨by decide, by decide⟩ (by decide)))) (lc2 (pr2 (sr_1 (show ta_ 568 = some (1, some 300, 0, 999) by decide +kernel) (z32 ⟨by decide, by decide⟩ (by decide)))) (lc2 (pr2 (sr_1 (show ta_ 569 = some (1, some 300, (-1), 299) by decide +kernel) (z32 ⟨by decide, by decide⟩ (by decide)))) (lc2 (pr2 (sr_1 (show ta_ 570 = some (1, some 8, 0, 11) by decide +kernel) (z32 ⟨by decide, by decide⟩ (by decide)))) (lc2 (pr2 (sr_1 (show ta_ 571 = some (1, some 8, 0, 7) by decide +kernel) (z32 ⟨by decide, by decide⟩ (by decide)))) (lc2 (pr2 so_106) (lc2 (pr2 (sr_4 (show ta_ 521 = some (4, some 4, 0, 1) by decide +kernel) (fun x => tz0 ⟨by decide, by decide⟩ (by decide) (by omega)))) (lc2 (pr2 (sr_5 (show ta_ 523 = some (5, some 400, 0, 1) by decide +kernel) (fun x => tz0 ⟨by decide, by decide⟩ (by decide) (by omega)))) (lc2 (pr2 (sr_1 (show ta_ 527 = some (1, some 50, 0, 3) by decide +kernel) (z32 ⟨by decide, by decide⟩ (by decide)))) (lc2 (pr2 (sr_1 (show ta_ 528 = some (1, some 50, 0, 11) by decide +kernel) (z32 ⟨by decide, by decide⟩ (by decide)))) (lc2 (pr2 (sr_1 (show ta_ 529 = some (1, some 50, 0, 99) by decide +kernel) (z32 ⟨by decide, by decide⟩ (by decide)))) (lc2 (pr2 (sr_1 (show ta_ 530 = some (1, some 50, 0, 999) by decide +kernel) (z32 ⟨by decide, by decide⟩ (by decide)))) (lc2 (pr2 (sr_1 (show ta_ 531 = some (1, some 400, 0, 399) by decide +kernel) (z32 ⟨by decide, by decide⟩ (by decide)))) (lc2 (pr2 (sr_1 (show ta_ 533 = some (1, some 400, 0, 399) by decide +kernel) (z32 ⟨by decide, by decide⟩ (by decide)))) (lc2 (pr2 (sr_1 (show ta_ 534 = some (1, some 400, 0, 999) by decide +kernel) (z32 ⟨by decide, by decide⟩ (by decide)))) (lc2 (pr2 (sr_1 (show ta_ 535 = some (1, some 1000, 0, 1) by decide +kernel) (z32 ⟨by decide, by decide⟩ (by decide)))) (lc2 (pr2 so_107) (lc2 (pr2 (sr_1 (show ta_ 542 = some (1, some 96, (-2147483648), 2147483647) by decide +kernel) (z32 ⟨by decide, by decide⟩ (by decide)))) (lc2 (pr2 (sr_1 (show ta_ 543 = some (1, some 12, (-2147483648), 2147483647) by decide +kernel) (z32 ⟨by decide, by decide⟩ (by decide)))) (lc2 (pr2 (sr_1 (show ta_ 544 = some (1, some 12, (-2147483648), 2147483647) by decide +kernel) (z32 ⟨by decide, by decide⟩ (by decide)))) (lc2 (pr2 (sr_1 (show ta_ 545 = some (1, some 144, (-2147483648), 2147483647) by decide +kernel) (z32 ⟨by decide, by decide⟩ (by decide)))) (lc2 (pr2 (sr_1 (show ta_ 546 = some (1, some 144, (-2147483648), 2147483647) by decide +kernel) (z32 ⟨by decide, by decide⟩ (by decide)))) (lc2 (pr2 (sr_1 (show ta_ 547 = some (1, some 12, 0, 11) by decide +kernel) (z32 ⟨by decide, by decide⟩ (by decide)))) (lc2 (pr2 (sr_1 (show ta_ 548 = some (1, some 12, (-1), 7) by decide +kernel) (z32 ⟨by decide, by decide⟩ (by decide)))) (lc2 (pr2 (sr_3 (show ta_ 549 = some (3, some 12, (-9223372036854775808), 9223372036854775807) by decide +kernel) (z64 ⟨by decide, by decide⟩ (by decide)))) (lc2 (pr2 (sr_1 (show ta_ 550 = some (1, some 16, 0, 12) by decide +kernel) (z32 ⟨by decide, by decide⟩ (by decide)))) (lc2 (pr2 (sr_1 (show ta_ 551 = some (1, some 16, 0, 12) by decide +kernel) (z32 ⟨by decide, by decide⟩ (by decide)))) (lc2 (pr2 (sr_1 (show ta_ 552 = some (1, some 16, 0, 8) by decide +kernel) (z32 ⟨by decide, by decide⟩ (by decide)))) (lc2 (pr2 so_109) (lc2 (pr2 (sr_1 (show ta_ 587 = some (1, some 12, (-2147483648), 2147483647) by decide +kernel) (z32 ⟨by decide, by decide⟩ (by decide)))) (lc2 (pr2 (sr_1 (show ta_ 588 = some (1, some 40, 0, 399) by decide +kernel) (z32 ⟨by decide, by decide⟩ (by decide)))) (lc2 (pr2 (sr_1 (show ta_ 590 = some (1, some 40, (-2147483648), 2147483647) by decide +kernel) (z32 ⟨by decide, by decide⟩ (by decide)))) (lc2 (pr2 (sr_1 (show ta_ 591 = some (1, some 12, (-2147483648), 2147483647) by decide +kernel) (z32 ⟨by decide, by decide⟩ (by decide)))) (lc2 (pr2 (sr_1 (show ta_ 592 = some (1, some 12, (-2147483648), 2147483647) by decide +kernel) (z32 ⟨by decide, by decide⟩ (by decide)))) (lc2 (pr2 (sr_1 (show ta_ 593 = some (1, some 12, (-1), 40) by decide +kernel) (z32 ⟨by decide, by decide⟩ (by decide)))) (lc2 (pr2 (sr_1 (show ta_ 594 = some (1, some 12, 0, 11) by decide +kernel) (z32 ⟨by decide, by decide⟩ (by decide)))) (lc2 (pr2 (sr_1 (show ta_ 584 = some (1, some 400, (-2147483648), 2147483647) by decide +kernel) (fun x => by rw [ts_g]; exact Int32.ofInt_toInt _))) (lc2 (pr2 so_101) (lc2 (pr2 (sr_1 (show ta_ 428 = some (1, some 12, (-1), 2) by decide +kernel) (z32 ⟨by decide, by decide⟩ (by decide)))) (lc2 (pr2 (sr_1 (show ta_ 429 = some (1, some 12, (-1), 3) by decide +kernel) (z32 ⟨by decide, by decide⟩ (by decide)))) (lc2 (pr2 (sr_1 (show ta_ 430 = some (1, some 3, 0, 4) by decide +kernel) (z32 ⟨by decide, by decide⟩ (by decide)))) (lc2 (pr2 (sr_1 (show ta_ 431 = some (1, some 48, (-2147483648), 2147483647) by decide +kernel) (z32 ⟨by decide, by decide⟩ (by decide)))) (lc2 (pr2 (sr_1 (show ta_ 432 = some (1, some 12, 0, 11) by decide +kernel) (z32 ⟨by decide, by decide⟩ (by decide)))) (lc2 (pr2 (sr_1 (show ta_ 434 = some (1, some 12, 0, 1) by decide +kernel) (z32 ⟨by decide, by decide⟩ (by decide)))) (lc2 (pr2 (sr_1 (show ta_ 435 = some (1, some 32, (-2147483648), 2147483647) by decide +kernel) (z32 ⟨by decide, by decide⟩ (by decide)))) (lc2 (pr2 so_104) (lc2 (pr2 (sr_1 (show ta_ 482 = some (1, some 400, 0, 399) by decide +kernel) (z32 ⟨by decide, by decide⟩ (by decide)))) (lc2 (pr2 sr_190) (rfl))))))))))))))))))))))))))))))))))))))))))))))))))))))))))
abbrev Ic : Type := Int32 ⊕ Option Nat
def iv_ (qf : Nat → Nat) : Ic → Value
  | .inl v => .int v
  | .inr none => .null
  | .inr (some j) => .ref (qf j)
def fzn_ : List Ms → Nat → List Ic → List Ic
  | [], _, fs => fs
  | (k, _, .inl v) :: r, j, fs => fzn_ r j (fs.set k (.inl v))
  | (k, _, .inr _) :: r, j, fs => fzn_ r (j + 1) (fs.set k (.inr (some j)))
theorem fzn_s : ∀ (ss : List Ms) (j : Nat) (cs : List Ic), fz_ qf ss j (cs.map (iv_ qf)) = (fzn_ ss j cs).map (iv_ qf)
  | [], _, _ => rfl
  | (k, _, .inl v) :: r, j, cs => by
    show fz_ qf r j ((cs.map (iv_ qf)).set k (.int v)) = (fzn_ r j (cs.set k (.inl v))).map (iv_ qf)
    rw [← fzn_s r j (cs.set k (.inl v)), List.map_set]
    rfl
  | (k, _, .inr w) :: r, j, cs => by
    show fz_ qf r (j + 1) ((cs.map (iv_ qf)).set k (.ref (qf j))) = (fzn_ r (j + 1) (cs.set k (.inr (some j)))).map (iv_ qf)
    rw [← fzn_s r (j + 1) (cs.set k (.inr (some j))), List.map_set]
    rfl
def mc0_ : List Ic := [.inr none, .inl 0, .inl 0, .inl 0, .inr none, .inr none, .inl 0, .inr none, .inr none, .inr none, .inr none, .inr none, .inl 0, .inr none, .inr none, .inl 0, .inl 0, .inr none, .inr none, .inr none, .inr none, .inl 0, .inr none, .inr none, .inl 0, .inr none, .inr none, .inr none, .inr none, .inl 0, .inr none, .inr none, .inr none, .inr none, .inr none, .inr none, .inr none, .inr none, .inr none, .inr none, .inr none, .inr none, .inr none, .inr none, .inr none, .inr none, .inr none, .inl 0, .inr none, .inr none, .inr none, .inr none, .inr none, .inr none, .inr none, .inr none, .inr none, .inl 0, .inl 0, .inl 0, .inl 0, .inl 0, .inl 0, .inl 0, .inr none, .inr none, .inr none, .inr none, .inr none, .inr none, .inr none, .inr none, .inr none, .inl 0, .inr none, .inl 0, .inr none, .inr none, .inr none, .inl 0, .inl 0, .inr none, .inl 0, .inl 0, .inr none, .inl 0, .inr none, .inl 0, .inl 0, .inr none, .inl 0, .inr none, .inr none, .inr none, .inr none, .inl 0, .inr none, .inr none, .inl 0, .inl 0, .inl 0, .inr none, .inr none, .inl 0, .inr none, .inr none, .inr none, .inl 0, .inr none, .inr none, .inr none, .inr none, .inl 0, .inl 0]
def mcL_ : List Ic := [.inr (some 0), .inl 0, .inl (-1), .inl 0, .inr (some 1), .inr (some 2), .inl 0, .inr (some 3), .inr (some 4), .inr (some 5), .inr (some 6), .inr (some 7), .inl 0, .inr (some 8), .inr (some 9), .inl 0, .inl 0, .inr (some 10), .inr (some 11), .inr (some 12), .inr (some 13), .inl 0, .inr (some 14), .inr (some 15), .inl 0, .inr (some 16), .inr (some 17), .inr (some 18), .inr (some 19), .inl 0, .inr (some 20), .inr (some 21), .inr (some 22), .inr (some 23), .inr (some 24), .inr (some 25), .inr (some 26), .inr (some 27), .inr (some 28), .inr (some 29), .inr (some 30), .inr (some 31), .inr (some 32), .inr (some 33), .inr (some 34), .inr (some 35), .inr (some 36), .inl 0, .inr (some 37), .inr (some 38), .inr (some 39), .inr (some 40), .inr (some 41), .inr (some 42), .inr (some 43), .inr (some 44), .inr (some 45), .inl 0, .inl 0, .inl 0, .inl 0, .inl 0, .inl 0, .inl 0, .inr (some 46), .inr (some 47), .inr (some 48), .inr (some 49), .inr (some 50), .inr (some 51), .inr (some 52), .inr (some 53), .inr (some 54), .inl 0, .inr (some 55), .inl 0, .inr (some 56), .inr (some 57), .inr (some 58), .inl 0, .inl 0, .inr (some 59), .inl 0, .inl 0, .inr (some 60), .inl 0, .inr (some 61), .inl 0, .inl (-1), .inr (some 62), .inl 0, .inr (some 63), .inr (some 64), .inr (some 65), .inr (some 66), .inl 0, .inr (some 67), .inr (some 68), .inl 0, .inl 0, .inl 0, .inr (some 69), .inr (some 70), .inl 0, .inr (some 71), .inr (some 72), .inr (some 73), .inl 0, .inr (some 74), .inr (some 75), .inr (some 76), .inr (some 77), .inl 0, .inl 0]
set_option maxRecDepth 100000 in
theorem mcL_e : fzn_ mss_ 0 mc0_ = mcL_ := by decide +kernel
set_option maxRecDepth 100000 in
theorem fz_L : fz_ qf mss_ 0 mf0_ = mcL_.map (iv_ qf) := by
  have h := fzn_s (qf := qf) mss_ 0 mc0_
  rw [mcL_e] at h
  exact h
set_option maxRecDepth 100000 in
set_option maxHeartbeats 4000000 in
theorem so_111 : ce_ cA (sad_ ad0 xa qf) (Ts_ g) 111 0 = .inr (11, fz_ qf mss_ 0 mf0_) := by
  rw [fz_L]
  rfl
theorem sw_264 (x : Nat) : Int32.ofInt (Ts_ g 264 0 (x : Int)) = ([115, 112, 111, 114, 116, 32, 112, 111, 105, 110, 116, 115, 32, 111, 114, 100, 101, 114, 32, 114, 101, 100, 111, 32, 108, 101, 103, 115, 32, 101, 118, 101, 114, 121, 32, 114, 101, 115, 116, 32, 102, 105, 101, 108, 100, 32, 115, 117, 98, 115, 32, 116, 97, 114, 103, 101, 116, 32, 119, 97, 108, 107, 111, 118, 101, 114, 32, 99, 97, 114, 100, 115, 32, 114, 101, 100, 32, 115, 101, 101, 100, 32] : List Int32).getD x 0 := by
  rw [ts_v ⟨by decide, by decide⟩]
  show Int32.ofInt (([115, 112, 111, 114, 116, 32, 112, 111, 105, 110, 116, 115, 32, 111, 114, 100, 101, 114, 32, 114, 101, 100, 111, 32, 108, 101, 103, 115, 32, 101, 118, 101, 114, 121, 32, 114, 101, 115, 116, 32, 102, 105, 101, 108, 100, 32, 115, 117, 98, 115, 32, 116, 97, 114, 103, 101, 116, 32, 119, 97, 108, 107, 111, 118, 101, 114, 32, 99, 97, 114, 100, 115, 32, 114, 101, 100, 32, 115, 101, 101, 100, 32] : List Int).getD x 0) = _
  by_cases h : x < 82
  · revert x; decide +kernel
  · rw [gd_o _ _ (by simpa using h)]
    simp [List.getD_eq_getElem?_getD, List.getElem?_eq_none (show ([115, 112, 111, 114, 116, 32, 112, 111, 105, 110, 116, 115, 32, 111, 114, 100, 101, 114, 32, 114, 101, 100, 111, 32, 108, 101, 103, 115, 32, 101, 118, 101, 114, 121, 32, 114, 101, 115, 116, 32, 102, 105, 101, 108, 100, 32, 115, 117, 98, 115, 32, 116, 97, 114, 103, 101, 116, 32, 119, 97, 108, 107, 111, 118, 101, 114, 32, 99, 97, 114, 100, 115, 32, 114, 101, 100, 32, 115, 101, 101, 100, 32] : List Int32).length ≤ x by simpa using h)]
theorem sw_265 (x : Nat) : Int32.ofInt (Ts_ g 265 0 (x : Int)) = ([102, 111, 111, 116, 98, 97, 108, 108, 32, 118, 111, 108, 108, 101, 121, 98, 97, 108, 108, 32, 116, 101, 110, 110, 105, 115, 32, 98, 97, 115, 101, 98, 97, 108, 108, 32] : List Int32).getD x 0 := by
  rw [ts_v ⟨by decide, by decide⟩]
  show Int32.ofInt (([102, 111, 111, 116, 98, 97, 108, 108, 32, 118, 111, 108, 108, 101, 121, 98, 97, 108, 108, 32, 116, 101, 110, 110, 105, 115, 32, 98, 97, 115, 101, 98, 97, 108, 108, 32] : List Int).getD x 0) = _
  by_cases h : x < 36
  · revert x; decide +kernel
  · rw [gd_o _ _ (by simpa using h)]
    simp [List.getD_eq_getElem?_getD, List.getElem?_eq_none (show ([102, 111, 111, 116, 98, 97, 108, 108, 32, 118, 111, 108, 108, 101, 121, 98, 97, 108, 108, 32, 116, 101, 110, 110, 105, 115, 32, 98, 97, 115, 101, 98, 97, 108, 108, 32] : List Int32).length ≤ x by simpa using h)]
theorem sw_266 (x : Nat) : Int32.ofInt (Ts_ g 266 0 (x : Int)) = ([100, 105, 102, 102, 32, 115, 99, 111, 114, 101, 100, 32, 119, 105, 110, 115, 32, 97, 119, 97, 121, 32, 104, 101, 97, 100, 32, 102, 97, 105, 114, 32, 108, 111, 116, 115, 32] : List Int32).getD x 0 := by
  rw [ts_v ⟨by decide, by decide⟩]
  show Int32.ofInt (([100, 105, 102, 102, 32, 115, 99, 111, 114, 101, 100, 32, 119, 105, 110, 115, 32, 97, 119, 97, 121, 32, 104, 101, 97, 100, 32, 102, 97, 105, 114, 32, 108, 111, 116, 115, 32] : List Int).getD x 0) = _
  by_cases h : x < 37
  · revert x; decide +kernel
  · rw [gd_o _ _ (by simpa using h)]
    simp [List.getD_eq_getElem?_getD, List.getElem?_eq_none (show ([100, 105, 102, 102, 32, 115, 99, 111, 114, 101, 100, 32, 119, 105, 110, 115, 32, 97, 119, 97, 121, 32, 104, 101, 97, 100, 32, 102, 97, 105, 114, 32, 108, 111, 116, 115, 32] : List Int32).length ≤ x by simpa using h)]
theorem sw_267 (x : Nat) : Int32.ofInt (Ts_ g 267 0 (x : Int)) = ([1, 1, 1, 1, 0, 2, 1, 1, 1, 0] : List Int32).getD x 0 := by
  rw [ts_v ⟨by decide, by decide⟩]
  show Int32.ofInt (([1, 1, 1, 1, 0, 2, 1, 1, 1, 0] : List Int).getD x 0) = _
  by_cases h : x < 10
  · revert x; decide +kernel
  · rw [gd_o _ _ (by simpa using h)]
    simp [List.getD_eq_getElem?_getD, List.getElem?_eq_none (show ([1, 1, 1, 1, 0, 2, 1, 1, 1, 0] : List Int32).length ≤ x by simpa using h)]
theorem sw_268 (x : Nat) : Int32.ofInt (Ts_ g 268 0 (x : Int)) = ([4, 30, 9, 6, 5, 25, 9, 9, 9, 999] : List Int32).getD x 0 := by
  rw [ts_v ⟨by decide, by decide⟩]
  show Int32.ofInt (([4, 30, 9, 6, 5, 25, 9, 9, 9, 999] : List Int).getD x 0) = _
  by_cases h : x < 10
  · revert x; decide +kernel
  · rw [gd_o _ _ (by simpa using h)]
    simp [List.getD_eq_getElem?_getD, List.getElem?_eq_none (show ([4, 30, 9, 6, 5, 25, 9, 9, 9, 999] : List Int32).length ≤ x by simpa using h)]
set_option maxRecDepth 100000 in
set_option maxHeartbeats 4000000 in
theorem stm_w : wd_ cA (sad_ ad0 xa qf) (Ts_ g) sM_ = (xa 111, .inr (11, fz_ qf mss_ 0 mf0_)) :: rz_ cA qf mss_ 0 := lc2 (pr2 so_111) (lc2 (pr2 (sr_1 (show ta_ 200 = some (1, some 400, 0, 126) by decide +kernel) (z32 ⟨by decide, by decide⟩ (by decide)))) (lc2 (pr2 (sr_1 (show ta_ 204 = some (1, some 23, (-1), 999) by decide +kernel) (z32 ⟨by decide, by decide⟩ (by decide)))) (lc2 (pr2 (sr_1 (show ta_ 205 = some (1, some 92, (-1), 999) by decide +kernel) (z32 ⟨by decide, by decide⟩ (by decide)))) (lc2 (pr2 (sr_1 (show ta_ 207 = some (1, some 48, 0, 11) by decide +kernel) (z32 ⟨by decide, by decide⟩ (by decide)))) (lc2 (pr2 (sr_1 (show ta_ 208 = some (1, some 4, 0, 12) by decide +kernel) (z32 ⟨by decide, by decide⟩ (by decide)))) (lc2 (pr2 (sr_2 (show ta_ 209 = some (2, some 4, 0, 1) by decide +kernel) (z32 ⟨by decide, by decide⟩ (by decide)))) (lc2 (pr2 (sr_1 (show ta_ 210 = some (1, some 4, 0, 400) by decide +kernel) (z32 ⟨by decide, by decide⟩ (by decide)))) (lc2 (pr2 (sr_1 (show ta_ 211 = some (1, some 4, 0, 400) by decide +kernel) (z32 ⟨by decide, by decide⟩ (by decide)))) (lc2 (pr2 (sr_1 (show ta_ 213 = some (1, some 12, 0, 11) by decide +kernel) (z32 ⟨by decide, by decide⟩ (by decide)))) (lc2 (pr2 (sr_1 (show ta_ 214 = some (1, some 12, 0, 7) by decide +kernel) (z32 ⟨by decide, by decide⟩ (by decide)))) (lc2 (pr2 (sr_1 (show ta_ 217 = some (1, some 300, 0, 199) by decide +kernel) (z32 ⟨by decide, by decide⟩ (by decide)))) (lc2 (pr2 (sr_1 (show ta_ 218 = some (1, some 300, 0, 11) by decide +kernel) (z32 ⟨by decide, by decide⟩ (by decide)))) (lc2 (pr2 (sr_1 (show ta_ 219 = some (1, some 300, 0, 999) by decide +kernel) (z32 ⟨by decide, by decide⟩ (by decide)))) (lc2 (pr2 (sr_1 (show ta_ 220 = some (1, some 300, 0, 999) by decide +kernel) (z32 ⟨by decide, by decide⟩ (by decide)))) (lc2 (pr2 (sr_1 (show ta_ 222 = some (1, some 8, 0, 11) by decide +kernel) (z32 ⟨by decide, by decide⟩ (by decide)))) (lc2 (pr2 (sr_1 (show ta_ 223 = some (1, some 8, 0, 7) by decide +kernel) (z32 ⟨by decide, by decide⟩ (by decide)))) (lc2 (pr2 (sr_1 (show ta_ 225 = some (1, some 50, 0, 3) by decide +kernel) (z32 ⟨by decide, by decide⟩ (by decide)))) (lc2 (pr2 (sr_1 (show ta_ 226 = some (1, some 50, 0, 11) by decide +kernel) (z32 ⟨by decide, by decide⟩ (by decide)))) (lc2 (pr2 (sr_1 (show ta_ 227 = some (1, some 50, 0, 99) by decide +kernel) (z32 ⟨by decide, by decide⟩ (by decide)))) (lc2 (pr2 (sr_1 (show ta_ 228 = some (1, some 50, 0, 999) by decide +kernel) (z32 ⟨by decide, by decide⟩ (by decide)))) (lc2 (pr2 (sr_1 (show ta_ 230 = some (1, some 400, 0, 3) by decide +kernel) (z32 ⟨by decide, by decide⟩ (by decide)))) (lc2 (pr2 (sr_1 (show ta_ 231 = some (1, some 400, (-2147483648), 2147483647) by decide +kernel) (z32 ⟨by decide, by decide⟩ (by decide)))) (lc2 (pr2 (sr_1 (show ta_ 232 = some (1, some 400, 0, 11) by decide +kernel) (z32 ⟨by decide, by decide⟩ (by decide)))) (lc2 (pr2 (sr_1 (show ta_ 233 = some (1, some 400, 0, 11) by decide +kernel) (z32 ⟨by decide, by decide⟩ (by decide)))) (lc2 (pr2 (sr_1 (show ta_ 234 = some (1, some 400, 0, 999) by decide +kernel) (z32 ⟨by decide, by decide⟩ (by decide)))) (lc2 (pr2 (sr_1 (show ta_ 235 = some (1, some 400, 0, 3) by decide +kernel) (z32 ⟨by decide, by decide⟩ (by decide)))) (lc2 (pr2 (sr_1 (show ta_ 236 = some (1, some 400, (-2147483648), 2147483647) by decide +kernel) (z32 ⟨by decide, by decide⟩ (by decide)))) (lc2 (pr2 (sr_1 (show ta_ 237 = some (1, some 400, (-2147483648), 2147483647) by decide +kernel) (z32 ⟨by decide, by decide⟩ (by decide)))) (lc2 (pr2 (sr_1 (show ta_ 238 = some (1, some 400, (-1), 7) by decide +kernel) (z32 ⟨by decide, by decide⟩ (by decide)))) (lc2 (pr2 (sr_1 (show ta_ 239 = some (1, some 800, 0, 10) by decide +kernel) (z32 ⟨by decide, by decide⟩ (by decide)))) (lc2 (pr2 (sr_1 (show ta_ 240 = some (1, some 8000, 0, 199) by decide +kernel) (z32 ⟨by decide, by decide⟩ (by decide)))) (lc2 (pr2 (sr_1 (show ta_ 241 = some (1, some 8000, 0, 2) by decide +kernel) (z32 ⟨by decide, by decide⟩ (by decide)))) (lc2 (pr2 (sr_1 (show ta_ 242 = some (1, some 8000, (-2147483648), 2147483647) by decide +kernel) (z32 ⟨by decide, by decide⟩ (by decide)))) (lc2 (pr2 (sr_2 (show ta_ 243 = some (2, some 8000, 0, 1) by decide +kernel) (z32 ⟨by decide, by decide⟩ (by decide)))) (lc2 (pr2 (sr_1 (show ta_ 244 = some (1, some 800, 0, 6) by decide +kernel) (z32 ⟨by decide, by decide⟩ (by decide)))) (lc2 (pr2 (sr_1 (show ta_ 245 = some (1, some 4800, 0, 7999) by decide +kernel) (z32 ⟨by decide, by decide⟩ (by decide)))) (lc2 (pr2 (sr_1 (show ta_ 246 = some (1, some 3200, (-2147483648), 2147483647) by decide +kernel) (z32 ⟨by decide, by decide⟩ (by decide)))) (lc2 (pr2 (sr_1 (show ta_ 248 = some (1, some 3000, (-2147483648), 2147483647) by decide +kernel) (z32 ⟨by decide, by decide⟩ (by decide)))) (lc2 (pr2 (sr_1 (show ta_ 249 = some (1, some 3000, (-2147483648), 2147483647) by decide +kernel) (z32 ⟨by decide, by decide⟩ (by decide)))) (lc2 (pr2 (sr_1 (show ta_ 250 = some (1, some 3000, (-2147483648), 2147483647) by decide +kernel) (z32 ⟨by decide, by decide⟩ (by decide)))) (lc2 (pr2 (sr_1 (show ta_ 251 = some (1, some 3000, (-2147483648), 2147483647) by decide +kernel) (z32 ⟨by decide, by decide⟩ (by decide)))) (lc2 (pr2 (sr_1 (show ta_ 252 = some (1, some 3000, (-1), 2999) by decide +kernel) (z32 ⟨by decide, by decide⟩ (by decide)))) (lc2 (pr2 (sr_1 (show ta_ 253 = some (1, some 400, (-1), 2999) by decide +kernel) (z32 ⟨by decide, by decide⟩ (by decide)))) (lc2 (pr2 (sr_1 (show ta_ 254 = some (1, some 400, 0, 3000) by decide +kernel) (z32 ⟨by decide, by decide⟩ (by decide)))) (lc2 (pr2 (sr_1 (show ta_ 255 = some (1, some 400, (-1), 2999) by decide +kernel) (z32 ⟨by decide, by decide⟩ (by decide)))) (lc2 (pr2 (sr_1 (show ta_ 256 = some (1, some 400, 0, 3000) by decide +kernel) (z32 ⟨by decide, by decide⟩ (by decide)))) (lc2 (pr2 (sr_1 (show ta_ 264 = some (1, some 82, 0, 122) by decide +kernel) sw_264)) (lc2 (pr2 (sr_1 (show ta_ 265 = some (1, some 36, 0, 122) by decide +kernel) sw_265)) (lc2 (pr2 (sr_1 (show ta_ 266 = some (1, some 37, 0, 122) by decide +kernel) sw_266)) (lc2 (pr2 (sr_1 (show ta_ 267 = some (1, some 10, 0, 2) by decide +kernel) sw_267)) (lc2 (pr2 (sr_1 (show ta_ 268 = some (1, some 10, 0, 999) by decide +kernel) sw_268)) (lc2 (pr2 (sr_2 (show ta_ 269 = some (2, some 14, 0, 1) by decide +kernel) (z32 ⟨by decide, by decide⟩ (by decide)))) (lc2 (pr2 (sr_2 (show ta_ 270 = some (2, some 7, 0, 1) by decide +kernel) (z32 ⟨by decide, by decide⟩ (by decide)))) (lc2 (pr2 (sr_1 (show ta_ 271 = some (1, some 400, 0, 399) by decide +kernel) (z32 ⟨by decide, by decide⟩ (by decide)))) (lc2 (pr2 (sr_1 (show ta_ 272 = some (1, some 400, 0, 999) by decide +kernel) (z32 ⟨by decide, by decide⟩ (by decide)))) (lc2 (pr2 (sr_1 (show ta_ 274 = some (1, some 400, 0, 399) by decide +kernel) (z32 ⟨by decide, by decide⟩ (by decide)))) (lc2 (pr2 (sr_1 (show ta_ 276 = some (1, some 108, (-2147483648), 2147483647) by decide +kernel) (z32 ⟨by decide, by decide⟩ (by decide)))) (lc2 (pr2 (sr_1 (show ta_ 277 = some (1, some 12, 0, 11) by decide +kernel) (z32 ⟨by decide, by decide⟩ (by decide)))) (lc2 (pr2 (sr_1 (show ta_ 278 = some (1, some 12, (-1), 7) by decide +kernel) (z32 ⟨by decide, by decide⟩ (by decide)))) (lc2 (pr2 (sr_1 (show ta_ 281 = some (1, some 400, 0, 2) by decide +kernel) (z32 ⟨by decide, by decide⟩ (by decide)))) (lc2 (pr2 (sr_1 (show ta_ 284 = some (1, some 36, (-2147483648), 2147483647) by decide +kernel) (z32 ⟨by decide, by decide⟩ (by decide)))) (lc2 (pr2 (sr_1 (show ta_ 286 = some (1, some 120, 0, 12) by decide +kernel) (z32 ⟨by decide, by decide⟩ (by decide)))) (lc2 (pr2 (sr_1 (show ta_ 289 = some (1, some 400, (-1), 2) by decide +kernel) (z32 ⟨by decide, by decide⟩ (by decide)))) (lc2 (pr2 (sr_1 (show ta_ 291 = some (1, some 12, (-2147483648), 2147483647) by decide +kernel) (z32 ⟨by decide, by decide⟩ (by decide)))) (lc2 (pr2 (sr_1 (show ta_ 292 = some (1, some 12, 0, 1000) by decide +kernel) (z32 ⟨by decide, by decide⟩ (by decide)))) (lc2 (pr2 (sr_1 (show ta_ 293 = some (1, some 12, (-2147483648), 2147483647) by decide +kernel) (z32 ⟨by decide, by decide⟩ (by decide)))) (lc2 (pr2 (sr_1 (show ta_ 294 = some (1, some 144, 0, 1000) by decide +kernel) (z32 ⟨by decide, by decide⟩ (by decide)))) (lc2 (pr2 (sr_1 (show ta_ 296 = some (1, some 4096, (-2147483648), 2147483647) by decide +kernel) (z32 ⟨by decide, by decide⟩ (by decide)))) (lc2 (pr2 (sr_1 (show ta_ 297 = some (1, some 400, 0, 399) by decide +kernel) (z32 ⟨by decide, by decide⟩ (by decide)))) (lc2 (pr2 (sr_1 (show ta_ 301 = some (1, some 12, (-1), 2) by decide +kernel) (z32 ⟨by decide, by decide⟩ (by decide)))) (lc2 (pr2 (sr_1 (show ta_ 302 = some (1, some 12, (-1), 3) by decide +kernel) (z32 ⟨by decide, by decide⟩ (by decide)))) (lc2 (pr2 (sr_1 (show ta_ 304 = some (1, some 12, 0, 11) by decide +kernel) (z32 ⟨by decide, by decide⟩ (by decide)))) (lc2 (pr2 (sr_1 (show ta_ 305 = some (1, some 12, (-1), 3) by decide +kernel) (z32 ⟨by decide, by decide⟩ (by decide)))) (lc2 (pr2 (sr_1 (show ta_ 306 = some (1, some 400, 0, 399) by decide +kernel) (z32 ⟨by decide, by decide⟩ (by decide)))) (lc2 (pr2 (sr_1 (show ta_ 308 = some (1, some 8, (-1), 399) by decide +kernel) (z32 ⟨by decide, by decide⟩ (by decide)))) (lc2 (pr2 (sr_1 (show ta_ 309 = some (1, some 8, (-2147483648), 2147483647) by decide +kernel) (z32 ⟨by decide, by decide⟩ (by decide)))) (lc2 (pr2 (sr_1 (show ta_ 310 = some (1, some 8, 0, 399) by decide +kernel) (z32 ⟨by decide, by decide⟩ (by decide)))) (lc2 (pr2 (sr_1 (show ta_ 311 = some (1, some 400, (-1), 7) by decide +kernel) (z32 ⟨by decide, by decide⟩ (by decide)))) (rfl)))))))))))))))))))))))))))))))))))))))))))))))))))))))))))))))))))))))))))))))
theorem st_rp {D : va_G} {A : Nat → Prop} {H : Heap} (hP : va_P D vwCl (stX cA xa g ++ ((xa 111, .inr (11, fz_ qf mss_ 0 mf0_)) :: rz_ cA qf mss_ 0)) H) (hD : va_D A (stX cA xa g ++ ((xa 111, .inr (11, fz_ qf mss_ 0 mf0_)) :: rz_ cA qf mss_ 0))) : Rp_ D cA (sad_ ad0 xa qf) (Ts_ g) A H := by
  have e : wd_ cA (sad_ ad0 xa qf) (Ts_ g) sid_ = stX cA xa g ++ ((xa 111, .inr (11, fz_ qf mss_ 0 mf0_)) :: rz_ cA qf mss_ 0) := by
    rw [show sid_ = sX_ ++ sM_ from rfl]
    unfold wd_
    rw [List.map_append]
    exact congr (congrArg _ stx_w) stm_w
  exact ⟨sid_, ts_i, by rw [e]; exact hP, by rw [e]; exact hD⟩
end STQ
-- what the Statement gives of the statics and the texts
abbrev GV_ : Cond := Jvm.Cond.and given_1 narrow_1
def tS_ (i : Nat) : Term := .string "SportsHouse$RuleText" (stx_ i).1
def tV_ (i : Nat) : Term := .field (tS_ i) "java/lang/String" "value" "[B"
def tA_ (i : Nat) : Term := .static "SportsHouse$RuleText" (sn_ i) "[I"
set_option maxRecDepth 100000 in
theorem gm_a : ∀ i : Nat, i < 3 → Cond.arrayOf (tA_ i) .int ∈ flatC GV_ ∧ Cond.eq (.length (tA_ i)) (.int 16) ∈ flatC GV_ ∧ ∀ j : Nat, j < 16 → Cond.eq (.elem (tA_ i) (.int (Int32.ofNat j))) (.int (Int32.ofInt ((sa_ i).getD j 0))) ∈ flatC GV_ := by decide +kernel
set_option maxRecDepth 100000 in
theorem gm_s : ∀ i : Nat, i < 3 → Cond.exactly (tS_ i) "java/lang/String" ∈ flatC GV_ ∧ Cond.eq (.field (tS_ i) "java/lang/String" "coder" "B") (.int 0) ∈ flatC GV_ ∧ Cond.arrayOf (tV_ i) .byte ∈ flatC GV_ ∧ Cond.eq (.length (tV_ i)) (.int (Int32.ofNat (sle_.getD i 0))) ∈ flatC GV_ := by decide +kernel
set_option maxRecDepth 100000 in
theorem gm_x : ∀ i : Nat, i < 3 → ∀ j : Nat, j < sle_.getD i 0 → (flatC GV_)[([70, 156, 197] : List Nat).getD i 0 + j]? = some (Cond.eq (.elem (tV_ i) (.int (Int32.ofNat j))) (.int ((sby_.getD i []).getD j 0))) := by decide +kernel
theorem gm_e : ∀ i : Nat, i < 3 → ∀ j : Nat, j < sle_.getD i 0 → Cond.eq (.elem (tV_ i) (.int (Int32.ofNat j))) (.int ((sby_.getD i []).getD j 0)) ∈ flatC GV_ := fun i hi j hj => List.mem_of_getElem? (gm_x i hi j hj)
set_option maxRecDepth 100000 in
theorem gm_n : ∀ i : Nat, i < 3 → ∀ j : Nat, j < 3 → i ≠ j → Cond.not (Cond.eq (tS_ i) (tS_ j)) ∈ flatC GV_ ∨ Cond.not (Cond.eq (tS_ j) (tS_ i)) ∈ flatC GV_ := by decide +kernel
set_option maxRecDepth 100000 in
theorem gm_c : Cond.eq (.static "java/lang/String" "COMPACT_STRINGS" "Z") (.int 1) ∈ flatC GV_ ∧ Cond.isRef (.static "jdk/internal/util/Preconditions" "SIOOBE_FORMATTER" "Ljava/util/function/BiFunction;") ∈ flatC GV_ := by decide +kernel
theorem lx_se {s : State} {b : Nat} (hts : ∀ w ∈ lw_tbl, w.before #[Value.ref b] s = true) (hgv : (Jvm.Cond.and given_1 narrow_1).before #[Value.ref b] s = true) : ∃ ad0 : Nat → Int → Nat, se_ ad0 (LA_ s) s := by
  have hs := flat_of_before _ hgv
  have hA : ∀ a : Nat, a < s.heap.size → ¬ LA_ s a := fun a h q => absurd h (Nat.not_lt.mpr q)
  have hl : ∀ i : Nat, i < 3 → Cond.laysStatic "SportsHouse$RuleText" (sn_ i) "[I" ∈ lw_tbl := fun i hi => by
    rcases (show i = 0 ∨ i = 1 ∨ i = 2 by omega) with rfl | rfl | rfl
    · exact lw_any 444 (by decide +kernel)
    · exact lw_any 539 (by decide +kernel)
    · exact lw_any 533 (by decide +kernel)
  have har : ∀ i : Nat, ∃ af : Nat, i < 3 → va_Z "SportsHouse$RuleText" (sn_ i) "[I" (.ref af) (LA_ s) s s.heap ∧ va_T .int af 16 (fun j => .int (Int32.ofInt ((sa_ i).getD j 0))) (LA_ s) s s.heap := fun i => by
    by_cases hi : i < 3
    · obtain ⟨g1, g2, g3⟩ := gm_a i hi
      obtain ⟨af, haf, hT⟩ := va_Tof (tm := tA_ i) (ty := .int) (N := 16) (f := fun j => .int (Int32.ofInt ((sa_ i).getD j 0))) (A := LA_ s) (by decide) (hs _ g1) (va_eqt (hs _ g2)) (fun j hj => va_eqt (hs _ (g3 j hj))) hA
      exact ⟨af, fun _ => ⟨va_Zref (hts _ (hl i hi)) (hts (Cond.initialized "SportsHouse$RuleText") (lw_any 2 (by decide +kernel))) haf hA, hT⟩⟩
    · exact ⟨0, fun h => absurd h hi⟩
  obtain ⟨af, haf⟩ := Classical.axiomOfChoice har
  obtain ⟨adK, adV, hS, hev⟩ := vk_Sof (args := #[Value.ref b]) (s := s) (N := 3) (tm := tS_) (len := sle_) (byt := sby_) (A := LA_ s) (by decide) (fun i hi => hs _ (gm_s i hi).1) (fun i hi => hs _ (gm_s i hi).2.1) (fun i hi => hs _ (gm_s i hi).2.2.1) (fun i hi => hs _ (gm_s i hi).2.2.2) (fun i hi j hj => hs _ (gm_e i hi j hj)) (fun i j hi hj hij => (gm_n i hi j hj hij).imp (hs _) (hs _)) hA
  have hsr : ∀ i : Nat, i < 3 → Cond.stringRef "SportsHouse$RuleText" (stx_ i).1 (stx_ i).2 ∈ lw_tbl := fun i hi => by
    rcases (show i = 0 ∨ i = 1 ∨ i = 2 by omega) with rfl | rfl | rfl
    · exact lw_any 462 (by decide +kernel)
    · exact lw_any 527 (by decide +kernel)
    · exact lw_any 544 (by decide +kernel)
  have hcs := va_Zof (A := LA_ s) (hts (Cond.laysStatic "java/lang/String" "COMPACT_STRINGS" "Z") (lw_any 484 (by decide +kernel))) (hts (Cond.initialized "java/lang/String") (lw_any 11 (by decide +kernel))) (va_eqt (hs _ gm_c.1)) hA
  obtain ⟨v, hv, hvr⟩ := Cond.isRef_spec (show (Cond.isRef (.static "jdk/internal/util/Preconditions" "SIOOBE_FORMATTER" "Ljava/util/function/BiFunction;")).before #[Value.ref b] s = true from hs _ gm_c.2)
  have hfo := va_Zof (A := LA_ s) (hts (Cond.laysStatic "jdk/internal/util/Preconditions" "SIOOBE_FORMATTER" "Ljava/util/function/BiFunction;") (lw_any 500 (by decide +kernel))) (hts (Cond.initialized "jdk/internal/util/Preconditions") (lw_any 13 (by decide +kernel))) hv hA
  refine ⟨fun k i => if k = 81 then af i.toNat else if k = 82 then adK i.toNat else if k = 83 then adV i.toNat else (match v with | .ref q => q | _ => 0), fun i hi => haf i hi, hS, fun i hi => vk_R.of (hts _ (hsr i hi)) (hev i hi), hcs, ?_⟩
  cases v with
  | null => exact Or.inl hfo
  | ref q => exact Or.inr hfo
  | _ => cases hvr
-- what the tables give at the start
theorem kw_546 : Cond.instantiable RX0 9 ∈ lw_g := lwq_3 (dqc_m (dqc_m (List.mem_of_getElem? (i := 2) rfl))) rfl
theorem kw_701 : Cond.instantiable RX2 11 ∈ lw_g := lwq_3 (dqc_m (dqc_m (dqc_m (dqc_m (dqc_m (dqc_m (dqa_m (dqa_m (dqa_m (List.mem_of_getElem? (i := 5) rfl)))))))))) rfl
theorem kw_900 : Cond.instantiable RX3 18 ∈ lw_g := lwq_4 (dqc_m (dqc_m (dqc_m (dqc_m (dqc_m (dqa_m (dqa_m (List.mem_of_getElem? (i := 4) rfl)))))))) rfl
theorem kw_22 : Cond.instantiable RX10 7 ∈ lw_g := lwq_1 (dqa_m (dqa_m (List.mem_of_getElem? (i := 6) rfl))) rfl
theorem kw_1422 : Cond.instantiable RX11 114 ∈ lw_g := lwq_6 (dqc_m (dqc_m (dqc_m (dqc_m (dqc_m (dqc_m (dqa_m (dqa_m (dqa_m (List.mem_of_getElem? (i := 6) rfl)))))))))) rfl
def lw_At (p : Program) (s : State) (m : MethodId) (meth : Method) (c : Code) (b L : Nat) (xs : Nat → Int32) : Prop :=
  p.tables.exec = Jvm.exec ∧ c.code = code ∧ meth.sig.returnType = ret ∧ c.maxLocals = 4 ∧ s.vm.findClass R_law = some m.cls ∧ (∀ w ∈ lw_tbl, w.before #[Value.ref b] s = true) ∧ va_X b L xs s s.heap ∧ b < s.heap.size ∧ meth.locks = false ∧ (Jvm.Cond.and given_1 narrow_1).before #[Value.ref b] s = true
theorem lx_E {s : State} {b : Nat} (hts : ∀ w ∈ lw_tbl, w.before #[Value.ref b] s = true) : ex_E s := ⟨va_AO.of (hts (Cond.arrayOver (.object "SportsHouse$Competition")) (lw_any 143 (by decide +kernel))), va_AO.of (hts (Cond.arrayOver (.object "SportsHouse$Match")) (lw_any 145 (by decide +kernel))), va_Nw.of rfl (hts (Cond.castable "[I" "java/lang/Cloneable") (lw_any 552 (by decide +kernel))), va_Nw.of rfl (hts (Cond.methodLinkNest "SportsHouse" 11 ⟨"SportsHouse$RuleText", "<init>", "()V"⟩ "SportsHouse") (lw_any 31 (by decide +kernel))), va_Nw.of rfl (hts (Cond.methodLinkNest "SportsHouse" 18 ⟨"SportsHouse$Things", "<init>", "()V"⟩ "SportsHouse") (lw_any 75 (by decide +kernel))), va_Nw.of rfl (hts (Cond.methodLinkNest "SportsHouse$Play" 89 ⟨"SportsHouse", "isSide", "(I)Z"⟩ "SportsHouse") (lw_any 995 (by decide +kernel)))⟩
theorem lx_K {s : State} {b : Nat} (ht : ∀ w ∈ lw_g, w.before #[Value.ref b] s = true) : ∃ (dC : Nat → ClassId) (dI : Nat → Nat → Nat), ∀ (k : Nat) (q : vw_C), vwCl[k]? = some q → u_Kn s q.1 q.2.1 q.2.2 (dC k) (dI k) := by
  obtain ⟨c0, i0, h0⟩ := u_known (C := RX0) (T := TX0) (N := 9) (n := 9) ht inX0 (ht _ kw_546)
  obtain ⟨c1, i1, h1⟩ := u_known (C := RX1) (T := TX1) (N := 16) (n := 16) ht inX1 (ht _ kw_321)
  obtain ⟨c2, i2, h2⟩ := u_known (C := RX2) (T := TX2) (N := 11) (n := 11) ht inX2 (ht _ kw_701)
  obtain ⟨c3, i3, h3⟩ := u_known (C := RX3) (T := TX3) (N := 18) (n := 18) ht inX3 (ht _ kw_900)
  obtain ⟨c4, i4, h4⟩ := u_known (C := RX4) (T := TX4) (N := 5) (n := 5) ht inX4 (ht _ kw_384)
  obtain ⟨c5, i5, h5⟩ := u_known (C := RX5) (T := TX5) (N := 10) (n := 10) ht inX5 (ht _ kw_30)
  obtain ⟨c6, i6, h6⟩ := u_known (C := RX6) (T := TX6) (N := 16) (n := 16) ht inX6 (ht _ kw_137)
  obtain ⟨c7, i7, h7⟩ := u_known (C := RX7) (T := TX7) (N := 14) (n := 14) ht inX7 (ht _ kw_206)
  obtain ⟨c8, i8, h8⟩ := u_known (C := RX8) (T := TX8) (N := 14) (n := 14) ht inX8 (ht _ kw_74)
  obtain ⟨c9, i9, h9⟩ := u_known (C := RX9) (T := TX9) (N := 16) (n := 16) ht inX9 (ht _ kw_260)
  obtain ⟨c10, i10, h10⟩ := u_known (C := RX10) (T := TX10) (N := 7) (n := 7) ht inX10 (ht _ kw_22)
  obtain ⟨c11, i11, h11⟩ := u_known (C := RX11) (T := TX11) (N := 114) (n := 114) ht inX11 (ht _ kw_1422)
  refine ⟨fun k => if k = 0 then c0 else if k = 1 then c1 else if k = 2 then c2 else if k = 3 then c3 else if k = 4 then c4 else if k = 5 then c5 else if k = 6 then c6 else if k = 7 then c7 else if k = 8 then c8 else if k = 9 then c9 else if k = 10 then c10 else c11, fun k => if k = 0 then i0 else if k = 1 then i1 else if k = 2 then i2 else if k = 3 then i3 else if k = 4 then i4 else if k = 5 then i5 else if k = 6 then i6 else if k = 7 then i7 else if k = 8 then i8 else if k = 9 then i9 else if k = 10 then i10 else i11, ?_⟩
  intro k q hq
  match k, hq with
  | 0, hq => cases hq; exact h0
  | 1, hq => cases hq; exact h1
  | 2, hq => cases hq; exact h2
  | 3, hq => cases hq; exact h3
  | 4, hq => cases hq; exact h4
  | 5, hq => cases hq; exact h5
  | 6, hq => cases hq; exact h6
  | 7, hq => cases hq; exact h7
  | 8, hq => cases hq; exact h8
  | 9, hq => cases hq; exact h9
  | 10, hq => cases hq; exact h10
  | 11, hq => cases hq; exact h11
  | k + 12, hq => simp [vwCl] at hq
theorem ar_b {s : State} {b : Nat} (h : (Cond.arrayClass .boolean).before #[Value.ref b] s = true) : ∃ cB : ClassId, ArrOfT s cB .boolean ∧ va_RA s cB .boolean := by
  obtain ⟨cB, kB, comp, h1, h2, h3⟩ := Cond.arrayClass_spec h
  exact ⟨cB, fun n z => ⟨fun k h => (by cases h), kB, h2, comp, h3⟩, h1⟩
theorem ki_ {D : va_G} {cl : List vw_C} {tys : List (ClassId × FieldType)} {s : State} (hK : va_K D cl tys s) (i j : Nat) {a b : ClassId} (h1 : tys[i]? = some (a, .int)) (h2 : tys[j]? = some (b, .int)) : b = a := by
  have q1 := va_nm_int (hK.2 i _ h1).2
  have q2 := va_nm_int (hK.2 j _ h2).2
  rw [q1] at q2
  exact (Option.some.inj q2).symm
theorem nf_X10 : ∀ j, j < 7 → defaultValue (tyX10 j) = vp_V [.null, .null, .null, .null, .null, .null, .null] j := by decide +kernel
theorem nf_X11 : ∀ j, j < 114 → defaultValue (tyX11 j) = vp_V mf0_ j := by decide +kernel
set_option maxRecDepth 100000 in
set_option maxHeartbeats 4000000 in
theorem st_cl {D : va_G} {s : State} {h0 q1 q8 q27 q48 q71 q89 q104 q2 q3 q4 q9 q10 q11 q12 q13 q14 q15 q16 q17 q28 q29 q30 q31 q32 q33 q34 q35 q36 q37 q49 q50 q51 q52 q53 q54 q55 q56 q57 q58 q59 q72 q73 q74 q75 q76 q77 q78 q79 q90 q91 q92 q93 q94 q95 q96 q105 q106 : Nat} {k5 k6 k7 k18 k19 k20 k21 k22 k23 k24 k25 k26 k38 k39 k40 k41 k42 k43 k44 k45 k46 k47 k60 k61 k62 k63 k64 k65 k66 k67 k68 k69 k70 k80 k81 k82 k83 k84 k85 k86 k87 k97 k98 k99 k100 k101 k102 k103 k107 k108 : ClassId} {g88 : Nat → Int32} {cB : ClassId} (hB : ArrOfT s cB .boolean ∧ va_RA s cB .boolean) (hK : va_K D vwCl [(k5, .int), (k6, .int), (k7, .int), (k18, .int), (k19, .int), (k20, .int), (k21, .int), (k22, .int), (k23, .int), (k24, .int), (k25, .int), (k26, .int), (k38, .object RX0), (k39, .object RX2), (k40, .int), (k41, .int), (k42, .int), (k43, .int), (k44, .int), (k45, .int), (k46, .int), (k47, .int), (k60, .int), (k61, .int), (k62, .int), (k63, .int), (k64, .int), (k65, .int), (k66, .int), (k67, .long), (k68, .int), (k69, .int), (k70, .int), (k87, .int), (k80, .int), (k81, .int), (k82, .int), (k83, .int), (k84, .int), (k85, .int), (k86, .int), (k97, .int), (k98, .int), (k99, .int), (k100, .int), (k101, .int), (k102, .int), (k103, .int), (k107, .int), (k108, .int)] s) : ∃ cA : Nat → ClassId, va_K D vwCl (ty_ cA) s ∧ ∀ m0 : Nat, ∃ xa : Nat → Nat, [(h0, .inr (10, [.ref q1, .ref q8, .ref q27, .ref q48, .ref q71, .ref q89, .ref q104])), (q1, .inr (5, [.ref q2, .int 0, .int 0, .int (-1), .ref q3, .ref q4, .int 0, .int 0, .int 0, .int 0])), (q2, .inl (k5, 400, .inl (fun _ => 0))), (q3, .inl (k6, 16, .inl (fun _ => 0))), (q4, .inl (k7, 7, .inl (fun _ => 0))), (q8, .inr (8, [.ref q9, .ref q10, .int 0, .int 0, .ref q11, .int 0, .ref q12, .ref q13, .ref q14, .ref q15, .ref q16, .ref q17, .int 0, .int 0])), (q9, .inl (k18, 12, .inl (fun _ => 0))), (q10, .inl (k19, 12, .inl (fun _ => 0))), (q11, .inl (k20, 200, .inl (fun _ => 0))), (q12, .inl (k21, 300, .inl (fun _ => 0))), (q13, .inl (k22, 300, .inl (fun _ => 0))), (q14, .inl (k23, 300, .inl (fun _ => 0))), (q15, .inl (k24, 300, .inl (fun _ => 0))), (q16, .inl (k25, 8, .inl (fun _ => 0))), (q17, .inl (k26, 8, .inl (fun _ => 0))), (q27, .inr (6, [.ref q8, .ref q28, .int 0, .ref q29, .int 0, .int 0, .int 0, .ref q30, .ref q31, .ref q32, .ref q33, .ref q34, .int 0, .ref q35, .ref q36, .ref q37])), (q28, .inl (k38, 4, .inr (.inr (.inr (.inr (fun _ => none)))))), (q29, .inl (k39, 400, .inr (.inr (.inr (.inr (fun _ => none)))))), (q30, .inl (k40, 50, .inl (fun _ => 0))), (q31, .inl (k41, 50, .inl (fun _ => 0))), (q32, .inl (k42, 50, .inl (fun _ => 0))), (q33, .inl (k43, 50, .inl (fun _ => 0))), (q34, .inl (k44, 400, .inl (fun _ => 0))), (q35, .inl (k45, 400, .inl (fun _ => 0))), (q36, .inl (k46, 400, .inl (fun _ => 0))), (q37, .inl (k47, 1000, .inl (fun _ => 0))), (q48, .inr (7, [.ref q27, .null, .ref q49, .ref q50, .ref q51, .ref q52, .ref q53, .ref q54, .ref q55, .ref q56, .ref q57, .ref q58, .ref q59, .int 0])), (q49, .inl (k60, 96, .inl (fun _ => 0))), (q50, .inl (k61, 12, .inl (fun _ => 0))), (q51, .inl (k62, 12, .inl (fun _ => 0))), (q52, .inl (k63, 144, .inl (fun _ => 0))), (q53, .inl (k64, 144, .inl (fun _ => 0))), (q54, .inl (k65, 12, .inl (fun _ => 0))), (q55, .inl (k66, 12, .inl (fun _ => 0))), (q56, .inl (k67, 12, .inr (.inl (fun _ => 0)))), (q57, .inl (k68, 16, .inl (fun _ => 0))), (q58, .inl (k69, 16, .inl (fun _ => 0))), (q59, .inl (k70, 16, .inl (fun _ => 0))), (q71, .inr (9, [.ref q27, .ref q48, .int (-1), .int 0, .ref q72, .null, .int 0, .ref q73, .ref q74, .int 0, .ref q75, .ref q76, .ref q77, .ref q78, .ref q79, .null])), (q73, .inl (k80, 12, .inl (fun _ => 0))), (q74, .inl (k81, 40, .inl (fun _ => 0))), (q75, .inl (k82, 40, .inl (fun _ => 0))), (q76, .inl (k83, 12, .inl (fun _ => 0))), (q77, .inl (k84, 12, .inl (fun _ => 0))), (q78, .inl (k85, 12, .inl (fun _ => 0))), (q79, .inl (k86, 12, .inl (fun _ => 0))), (q72, .inl (k87, 400, .inl g88)), (q89, .inr (1, [.ref q8, .int 0, .int 0, .int 0, .int 0, .int 0, .int 0, .int 0, .ref q90, .ref q91, .ref q92, .ref q93, .ref q94, .int 0, .ref q95, .ref q96])), (q90, .inl (k97, 12, .inl (fun _ => 0))), (q91, .inl (k98, 12, .inl (fun _ => 0))), (q92, .inl (k99, 3, .inl (fun _ => 0))), (q93, .inl (k100, 48, .inl (fun _ => 0))), (q94, .inl (k101, 12, .inl (fun _ => 0))), (q95, .inl (k102, 12, .inl (fun _ => 0))), (q96, .inl (k103, 32, .inl (fun _ => 0))), (q104, .inr (4, [.ref q27, .ref q8, .ref q105, .int 0, .ref q106])), (q105, .inl (k107, 400, .inl (fun _ => 0))), (q106, .inl (k108, 1, .inl (fun _ => 0)))] = stX cA xa g88 ∧ xa 111 = m0 ∧ xa 110 = h0 := by
  have e : k6 = k5 := ki_ hK 0 1 rfl rfl
  subst k6
  have e : k7 = k5 := ki_ hK 0 2 rfl rfl
  subst k7
  have e : k18 = k5 := ki_ hK 0 3 rfl rfl
  subst k18
  have e : k19 = k5 := ki_ hK 0 4 rfl rfl
  subst k19
  have e : k20 = k5 := ki_ hK 0 5 rfl rfl
  subst k20
  have e : k21 = k5 := ki_ hK 0 6 rfl rfl
  subst k21
  have e : k22 = k5 := ki_ hK 0 7 rfl rfl
  subst k22
  have e : k23 = k5 := ki_ hK 0 8 rfl rfl
  subst k23
  have e : k24 = k5 := ki_ hK 0 9 rfl rfl
  subst k24
  have e : k25 = k5 := ki_ hK 0 10 rfl rfl
  subst k25
  have e : k26 = k5 := ki_ hK 0 11 rfl rfl
  subst k26
  have e : k40 = k5 := ki_ hK 0 14 rfl rfl
  subst k40
  have e : k41 = k5 := ki_ hK 0 15 rfl rfl
  subst k41
  have e : k42 = k5 := ki_ hK 0 16 rfl rfl
  subst k42
  have e : k43 = k5 := ki_ hK 0 17 rfl rfl
  subst k43
  have e : k44 = k5 := ki_ hK 0 18 rfl rfl
  subst k44
  have e : k45 = k5 := ki_ hK 0 19 rfl rfl
  subst k45
  have e : k46 = k5 := ki_ hK 0 20 rfl rfl
  subst k46
  have e : k47 = k5 := ki_ hK 0 21 rfl rfl
  subst k47
  have e : k60 = k5 := ki_ hK 0 22 rfl rfl
  subst k60
  have e : k61 = k5 := ki_ hK 0 23 rfl rfl
  subst k61
  have e : k62 = k5 := ki_ hK 0 24 rfl rfl
  subst k62
  have e : k63 = k5 := ki_ hK 0 25 rfl rfl
  subst k63
  have e : k64 = k5 := ki_ hK 0 26 rfl rfl
  subst k64
  have e : k65 = k5 := ki_ hK 0 27 rfl rfl
  subst k65
  have e : k66 = k5 := ki_ hK 0 28 rfl rfl
  subst k66
  have e : k68 = k5 := ki_ hK 0 30 rfl rfl
  subst k68
  have e : k69 = k5 := ki_ hK 0 31 rfl rfl
  subst k69
  have e : k70 = k5 := ki_ hK 0 32 rfl rfl
  subst k70
  have e : k87 = k5 := ki_ hK 0 33 rfl rfl
  subst k87
  have e : k80 = k5 := ki_ hK 0 34 rfl rfl
  subst k80
  have e : k81 = k5 := ki_ hK 0 35 rfl rfl
  subst k81
  have e : k82 = k5 := ki_ hK 0 36 rfl rfl
  subst k82
  have e : k83 = k5 := ki_ hK 0 37 rfl rfl
  subst k83
  have e : k84 = k5 := ki_ hK 0 38 rfl rfl
  subst k84
  have e : k85 = k5 := ki_ hK 0 39 rfl rfl
  subst k85
  have e : k86 = k5 := ki_ hK 0 40 rfl rfl
  subst k86
  have e : k97 = k5 := ki_ hK 0 41 rfl rfl
  subst k97
  have e : k98 = k5 := ki_ hK 0 42 rfl rfl
  subst k98
  have e : k99 = k5 := ki_ hK 0 43 rfl rfl
  subst k99
  have e : k100 = k5 := ki_ hK 0 44 rfl rfl
  subst k100
  have e : k101 = k5 := ki_ hK 0 45 rfl rfl
  subst k101
  have e : k102 = k5 := ki_ hK 0 46 rfl rfl
  subst k102
  have e : k103 = k5 := ki_ hK 0 47 rfl rfl
  subst k103
  have e : k107 = k5 := ki_ hK 0 48 rfl rfl
  subst k107
  have e : k108 = k5 := ki_ hK 0 49 rfl rfl
  subst k108
  have hK2 : va_K D vwCl [(cB, .boolean)] s := ⟨hK.1, fun k q h => by
    match k, h with
    | 0, h => cases h; exact hB
    | k + 1, h => simp at h⟩
  refine ⟨fun n => if n = 0 then k5 else if n = 1 then cB else if n = 2 then k67 else if n = 3 then k38 else k39, ?_, fun m0 => ⟨fun k => if k = 111 then m0 else if k < 535 then (if k < 434 then (if k < 110 then (if k < 106 then (if k < 104 then q89 else if k < 105 then q104 else q1) else if k < 108 then (if k < 107 then q27 else q48) else if k < 109 then q8 else q71) else if k < 429 then (if k < 190 then h0 else if k < 428 then q106 else q90) else if k < 431 then (if k < 430 then q91 else q92) else if k < 432 then q93 else q94) else if k < 523 then (if k < 500 then (if k < 435 then q95 else if k < 482 then q96 else q105) else if k < 505 then (if k < 504 then q2 else q3) else if k < 521 then q4 else q28) else if k < 530 then (if k < 528 then (if k < 527 then q29 else q30) else if k < 529 then q31 else q32) else if k < 533 then (if k < 531 then q33 else q34) else if k < 534 then q35 else q36) else if k < 564 then (if k < 548 then (if k < 544 then (if k < 542 then q37 else if k < 543 then q49 else q50) else if k < 546 then (if k < 545 then q51 else q52) else if k < 547 then q53 else q54) else if k < 551 then (if k < 549 then q55 else if k < 550 then q56 else q57) else if k < 560 then (if k < 552 then q58 else q59) else if k < 561 then q9 else q10) else if k < 584 then (if k < 568 then (if k < 566 then q11 else if k < 567 then q12 else q13) else if k < 570 then (if k < 569 then q14 else q15) else if k < 571 then q16 else q17) else if k < 591 then (if k < 588 then (if k < 587 then q72 else q73) else if k < 590 then q74 else q75) else if k < 593 then (if k < 592 then q76 else q77) else if k < 594 then q78 else q79, rfl, rfl, rfl⟩⟩
  exact (hK.app hK2).sub [0, 50, 29, 12, 13] rfl
-- the law from its start
theorem kw_21 : Cond.classLink RL 7 RX10 ∈ lw_g := lwq_1 (dqa_m (dqa_m (List.mem_of_getElem? (i := 5) rfl))) rfl
theorem kw_1421 : Cond.classLink RL 10 RX11 ∈ lw_g := lwq_6 (dqc_m (dqc_m (dqc_m (dqc_m (dqc_m (dqc_m (dqa_m (dqa_m (dqa_m (List.mem_of_getElem? (i := 5) rfl)))))))))) rfl
theorem kw_23 : Cond.methodLink RL 9 yX10_init ∈ lw_g := lwq_1 (dqa_m (dqa_m (List.mem_of_getElem? (i := 7) rfl))) rfl
theorem kw_24 : Cond.instanceMethod yX10_init ∈ lw_g := lwq_1 (dqa_m (dqa_m (dqa_m (List.mem_of_getElem? (i := 0) rfl)))) rfl
theorem kw_1 : Cond.initialized RX10 ∈ lw_g := lwq_1 (List.mem_of_getElem? (i := 1) rfl) rfl
theorem kw_1423 : Cond.methodLink RL 12 yX11_init ∈ lw_g := lwq_6 (dqc_m (dqc_m (dqc_m (dqc_m (dqc_m (dqc_m (dqa_m (dqa_m (dqa_m (List.mem_of_getElem? (i := 7) rfl)))))))))) rfl
theorem kw_1424 : Cond.instanceMethod yX11_init ∈ lw_g := lwq_6 (dqc_m (dqc_m (dqc_m (dqc_m (dqc_m (dqc_m (dqc_m (List.mem_of_getElem? (i := 0) rfl)))))))) rfl
theorem kw_10 : Cond.initialized RX11 ∈ lw_g := lwq_1 (dqa_m (List.mem_of_getElem? (i := 2) rfl)) rfl
set_option maxRecDepth 100000 in
theorem kw_25 : Cond.code yX10_init cX10_init 1 none ∈ lw_g := lwq_1 (dqa_m (dqa_m (dqa_m (List.mem_of_getElem? (i := 1) rfl)))) rfl
theorem gc_X10_init : GoodIn lw_g (.code yX10_init cX10_init 1 none :: lw_g) := gi_c kw_25
theorem gc_X11_init : GoodIn lw_g (.code yX11_init cX11_init 1 none :: lw_g) := gi_c kw_1425
set_option maxHeartbeats 8000000 in
set_option maxRecDepth 100000 in
/-- from the house on: the reference is made, and the loop begins -/
theorem ws_b {p : Program} {e : Env} {s : State} {m : MethodId} {below : List Frame} {meth : Method} {c : Code} (l : Launch) {b L : Nat} {xs : Nat → Int32} (hL : L ≤ 3584) (C0 : lw_At p s m meth c b L xs) {dC : Nat → ClassId} {dI : Nat → Nat → Nat} {cA : Nat → ClassId} {ad0 : Nat → Int → Nat} {g : Nat → Int32} {h0 : Nat} {H : Heap} {locs : List Loc} {ls : Array Slot} (w : va_W) (hK : va_K (dC, dI) vwCl (ty_ cA) s) (hse : se_ ad0 (LA_ s) s) (hP : va_P (dC, dI) vwCl w H) (hD : va_D (LA_ s) w) (hS : va_S (LA_ s) s.heap H locs) (hst : ∀ m0 : Nat, ∃ xa : Nat → Nat, w = stX cA xa g ∧ xa 111 = m0 ∧ xa 110 = h0) (hl : lv_has ls 4 [(0, .ref b)]) : W p l e room_1 s m #[Value.ref b] below meth c H locs 58 6329 (lw_Z below #[Value.ref b] s) (F0 m 7 ls [.ref h0]) := by
  obtain ⟨hx, hb, hr, hml, hown, hts, hX, hbl, hlocks, hgv⟩ := id C0
  have hb : c.code = cL_law := hb
  have hown : s.vm.findClass RL = some m.cls := hown
  have ht : ∀ w ∈ lw_g, w.before #[Value.ref b] s = true := fun w h => hts w (List.mem_filter.mp h).1
  have hA : ∀ q : Nat, s.heap.size ≤ q → LA_ s q := fun _ h => h
  have hE : ex_E s := lx_E hts
  refine lv_astore_n (lv' := [(1, .ref h0), (0, .ref b)]) hx hb (show decode cL_law 7 = .ok (.astore_n 1, 1) by decide +kernel) rfl hl (by decide) rfl (fun ls hl => ?_)
  refine va_new (ci := 11) (fs := mf0_) (C := RX11) (T := TX11) (N := 114) hx hb ht inX11 tyX11 tyX11_ok hown (ht _ kw_1421) (ht _ kw_1422) (ht _ kw_10) hK hP hD hS hA rfl nf_X11 (Nat.le_of_ble_eq_true rfl) (Nat.le_of_ble_eq_true rfl) (show decode cL_law 8 = .ok (.new 10, 3) by decide +kernel) (fun m0 H hP hD hS => ?_)
  have hP : va_P (dC, dI) vwCl ([(m0, .inr (11, mf0_))] ++ w) H := va_P.swap (a := []) (b := w) (c := [(m0, .inr (11, mf0_))]) hP
  have hD : va_D (LA_ s) ([(m0, .inr (11, mf0_))] ++ w) := va_D.swap (a := []) (b := w) (c := [(m0, .inr (11, mf0_))]) hD
  refine W.widen (k := 59) (n := 6443) (Nat.le_of_ble_eq_true rfl) (Nat.le_of_ble_eq_true rfl) ?_
  refine lv_dup hx hb (show decode cL_law 11 = .ok (.dup, 1) by decide +kernel) rfl ?_
  have hPc := hP.sub (ws' := [(m0, .inr (11, mf0_))]) [0] rfl
  have hDc := hD.sub (ws' := [(m0, .inr (11, mf0_))]) [0] (by decide) rfl
  have hFc := va_free (wc := [(m0, .inr (11, mf0_))]) hD hS hA [0] rfl
  refine va_callv (va_runI (As := []) (rest := [.ref m0]) ⟨hx, hb, hml, hown, ht⟩ (ct_X11_init l dC dI cA m0 _ ) (cwI 0 ht gc_X11_init rfl rfl rfl (ht _ kw_10) (ht _ kw_1423) (ht _ kw_1424) rfl (by decide +kernel) ⟨Nat.le_of_ble_eq_true rfl, Nat.le_of_ble_eq_true rfl⟩) ⟨ro_blind, fun U hU hW => ⟨rfl, by rw [hU], by rw [hU]; exact hPc, va_K.moved hW.alike hK, hDc.weaken (fun _ _ _ _ => trivial), ex_warm hW hE⟩⟩ rfl rfl hl.1 rfl (lv_room (Nat.le_of_ble_eq_true rfl)) (show decode cL_law 12 = .ok (.invokespecial 12, 3) by decide +kernel) ⟨Nat.le_of_ble_eq_true rfl, Nat.le_of_ble_eq_true rfl⟩) hS (fun q _ h => hFc q h) hFc (fun u t H1 locs ht1 hvm hw hB hz1 hk1 hS => ?_)
  obtain ⟨qf, hP1, hK1, hD1⟩ := hB
  rw [ht1] at hP1
  generalize hw1 : (m0, Sum.inr (11, fz_ qf mss_ 0 mf0_)) :: rz_ cA qf mss_ 0 = w1 at hP1 hD1
  obtain ⟨hP, hD⟩ := va_joinQ (X := [(m0, .inr (11, mf0_))]) (cx := [(m0, .inr (11, mf0_))]) (wr := []) (w1 := w1) (pl := w) hP hD [0] [] rfl rfl (by decide) (by decide) hk1 hFc hP1 hD1
  have hP : va_P (dC, dI) vwCl (w ++ w1) H1 := va_P.swap (a := []) (b := w1) (c := w) hP
  have hD : va_D (LA_ s) (w ++ w1) := va_D.swap (a := []) (b := w1) (c := w) hD
  clear hP1 hD1 hPc hDc hFc hk1
  refine W.widen (k := 137) (n := 78294) (Nat.le_of_ble_eq_true rfl) (Nat.le_of_ble_eq_true rfl) ?_
  refine lv_astore_n (lv' := [(2, .ref m0), (1, .ref h0), (0, .ref b)]) hx hb (show decode cL_law 15 = .ok (.astore_n 2, 1) by decide +kernel) rfl hl (by decide) rfl (fun ls hl => ?_)
  refine lv_iconst (v := 0) hx hb (show decode cL_law 16 = .ok (.iconst 0, 1) by decide +kernel) (by decide) ?_
  refine lv_istore_n (lv' := [(3, .int 0), (2, .ref m0), (1, .ref h0), (0, .ref b)]) hx hb (show decode cL_law 17 = .ok (.istore_n 3, 1) by decide +kernel) rfl hl (by decide) rfl (fun ls hl => ?_)
  obtain ⟨xa, x1, x2, x3⟩ := hst m0
  rw [x1, ← hw1, ← x2] at hP hD
  have hR : Rp_ (dC, dI) cA (sad_ ad0 xa qf) (Ts_ g) (LA_ s) H1 := st_rp hP hD
  have X : Cx_ zL p s m #[Value.ref b] meth c (dC, dI) cA ad0 (LA_ s) := ⟨hx, hb, hml, hr, hlocks, ht, hown, hK, hE, hA, hse, fun h => absurd h (by decide)⟩
  have a1 : sad_ ad0 xa qf 111 0 = m0 := x2
  have a2 : sad_ ad0 xa qf 110 0 = h0 := x3
  have a3 : Int32.ofInt ((7 * 0 : Nat) : Int) = 0 := by decide
  have a4 : LI_ ((0 : Nat) : Int) (Ts_ g) := by
    rw [show ((0 : Nat) : Int) = 0 from rfl]
    exact ts_li
  clear hP hD hw1
  refine lw_loop X hX hbl hL 513 0 (Ts_ g) (sad_ ad0 xa qf) H1 locs ls 137 78294 (by omega) (by omega) (by omega) hR hS (fun k i h => if_pos h) ts_ok a4 (by omega) ?_
  rw [a1, a2, a3]
  exact hl
