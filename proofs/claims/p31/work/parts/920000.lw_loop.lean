-- the law's loop
def R_law : String := "SportsHouseLaw"
def lw_P (b : Addr) (xs : List Int32) (args : Array Value) (s : State) : Prop := args = #[.ref b] ∧ s.IntsAt b xs ∧ xs.length ≤ 3584 ∧ (Jvm.Cond.and given_1 narrow_1).before args s = true
def lw_Q (_ : Array Value) (s : State) (o : Outcome) (t : State) : Prop := o = .returned (some (.int 1)) ∧ Framed s o t [] 600000 7302250
def lw_Z (below : List Frame) (a : Array Value) (s : State) : State → Prop := fun t => ∃ o, t.status = .running ∧ Ended t below o ∧ lw_Q a s o t
/-- the law's own end, with 1 on the stack -/
theorem lw_ret {p : Program} {l : Launch} {e : Env} {s : State} {m : MethodId} {below : List Frame} {meth : Method} {c : Code} {b : Nat} (hx : p.tables.exec = Jvm.exec) (hb : c.code = code) (hr : meth.sig.returnType = ret) (hlocks : meth.locks = false) {pc : Nat} {H : Heap} {ls : Array Slot} (hdg : decode code pc = .ok (.ireturn, 1)) : W p l e room_1 s m #[Value.ref b] below meth c H [] 600000 7302250 (lw_Z below #[Value.ref b] s) (F0 m pc ls [.int 1]) := by
  intro T hT X
  obtain ⟨fs, hret, hrun, hended, hW, hframe⟩ := X.leave (v := some (.int 1)) (hlocks := hlocks) (fun h => by rw [hr] at h; cases h)
  have hmeth' : T.vm.method? m = some meth := X.method'
  refine ⟨T.setFrames fs, ?_, .returned (some (.int 1)), hrun, hended, rfl, ⟨_, rfl⟩, hW, hframe⟩
  jvm_step X.here [X.here.top, hx, hb, hdg, hmeth', hr, ret, narrow_b1]
  (try refine ⟨rfl, ?_⟩); (try refine ⟨rfl, ?_⟩)
  first | (intro acts; rw [hret _ acts rfl rfl rfl]) | rw [hret _ _ rfl rfl rfl]
  exact Steps.refl _
theorem dL33 : decode cL_law 33 = .ok (.tableswitch 1594 0 42 #[187, 210, 223, 236, 249, 282, 315, 328, 381, 414, 437, 470, 503, 536, 569, 602, 625, 668, 711, 754, 777, 810, 873, 948, 981, 1024, 1057, 1100, 1153, 1196, 1239, 1272, 1295, 1308, 1341, 1374, 1407, 1420, 1453, 1502, 1525, 1548, 1571], 187) := by decide +kernel
theorem li_e {N : Int} {T : Zt} (h : LI_ N T) : LI_ (N + 1) T := ⟨ic_e h.1, h.2⟩
set_option maxHeartbeats 4000000 in
theorem lw_loop {p : Program} {l : Launch} {e : Env} {s : State} {m : MethodId} {below : List Frame} {meth : Method} {c : Code} {D : va_G} {cA : Nat → ClassId} {ad0 : Nat → Int → Nat} {b L : Nat} {xs : Nat → Int32} (X : Cx_ zL p s m #[Value.ref b] meth c D cA ad0 (LA_ s)) (hX : va_X b L xs s s.heap) (hbl : b < s.heap.size) (hL : L ≤ 3584) : ∀ (k N : Nat) (T : Zt) (ad : Nat → Int → Nat) (H : Heap) (locs : List Loc) (lsC : Array Slot) (cells slots : Nat), N + k = 513 → cells ≤ 1000 + 792 * N → slots ≤ 90000 + 12544 * N → Rp_ D cA ad T (LA_ s) H → va_S (LA_ s) s.heap H locs → (∀ (k : Nat) (i : Int), k < 100 → ad k i = ad0 k i) → ok_T T → LI_ (N : Int) T → N ≤ 512 → lv_has lsC 4 [(3, .int (Int32.ofInt ((7 * N : Nat) : Int))), (2, .ref (ad 111 0)), (1, .ref (ad 110 0)), (0, .ref b)] → W p l e room_1 s m #[Value.ref b] below meth c H locs cells slots (lw_Z below #[Value.ref b] s) (F0 m 18 lsC [])
  | 0, N, T, ad, H, locs, lsC, cells, slots, hk, _, _, _, _, _, _, _, hN5, _ => by omega
  | k + 1, N, T, ad, H, locs, lsC, cells, slots, hk, hce, hsl, hR, hS, hB, hT, hI, hN5, hl => by
    obtain ⟨hx, hb⟩ : p.tables.exec = Jvm.exec ∧ c.code = cL_law := ⟨X.1, X.2.1⟩
    refine lv_iload_n hx hb (show decode cL_law 18 = .ok (.iload_n 3, 1) by decide +kernel) rfl (lv_at hl 0 rfl) ?_
    refine lv_aload_n hx hb (show decode cL_law 19 = .ok (.aload_n 0, 1) by decide +kernel) rfl (lv_at hl 3 rfl) ?_
    refine va_slen hx hb hX hbl (Nat.not_le.mpr hbl) hS (show decode cL_law 20 = .ok (.arraylength, 1) by decide +kernel) ?_
    refine lv_bipush (v := 7) hx hb (show decode cL_law 21 = .ok (.bipush 7, 2) by decide +kernel) (by decide) ?_
    refine lv_isub hx hb (show decode cL_law 23 = .ok (.isub, 1) by decide +kernel) ?_
    have es : Int32.ofNat L - 7 = Int32.ofInt ((L : Int) - 7) := by
      rw [Int32.ofInt_sub]
      rfl
    rw [es]
    have t1 := i3_t (x := (L : Int) - 7) (by omega) (by omega)
    have t2 := i3_t (x := ((7 * N : Nat) : Int)) (by omega) (by omega)
    refine lv_icmp_gt (tgt := 1633) hx hb (show decode cL_law 24 = .ok (.if_icmp .gt 1609, 3) by decide +kernel) (by decide) (fun c1 => ?_) (fun c1 => ?_)
    · refine lv_iconst (v := 1) hx hb (show decode cL_law 1633 = .ok (.iconst 1, 1) by decide +kernel) (by decide) ?_
      refine va_forget (fun q h => hS.2.2 q h) ?_
      refine W.widen (k := 600000) (n := 7302250) (by omega) (by omega) ?_
      exact lw_ret hx hb X.2.2.2.1 X.2.2.2.2.1 (show decode cL_law 1634 = .ok (.ireturn, 1) by decide +kernel)
    have hi : 7 * N + 7 ≤ L := by
      refine Nat.le_of_not_lt (fun h => c1 (Int32.lt_iff_toInt_lt.mpr ?_))
      rw [t1, t2]
      omega
    have hN : 0 ≤ (N : Int) ∧ (N : Int) ≤ 511 := by omega
    have kk : LKo_ p l e s m below meth c b D cA ad0 (lw_Z below #[Value.ref b] s) lsC (Int32.ofInt ((7 * N : Nat) : Int)) cells slots (N : Int) := by
      intro T' ad' H' locs' cells' slots' q1 q2 hR' hS' hB' hT' hI' hl'
      refine lv_iinc (v := Int32.ofInt ((7 * (N + 1) : Nat) : Int)) (lv' := [(3, .int (Int32.ofInt ((7 * (N + 1) : Nat) : Int))), (2, .ref (ad' 111 0)), (1, .ref (ad' 110 0)), (0, .ref b)]) hx hb (show decode cL_law 1627 = .ok (.iinc 3 7, 3) by decide +kernel) hl' (k := 0) rfl (by rw [i3_add]; congr 1) (by decide) rfl (fun ls hl2 => ?_)
      refine lv_goto (tgt := 18) hx hb (show decode cL_law 1630 = .ok (.goto (-1612), 3) by decide +kernel) (by decide) ?_
      have e9 : ((N + 1 : Nat) : Int) = (N : Int) + 1 := by omega
      have hI9 : LI_ ((N + 1 : Nat) : Int) T' := by
        rw [e9]
        exact hI'
      have g1 : N + 1 + k = 513 := by omega
      have g2 : cells' ≤ 1000 + 792 * (N + 1) := by
        rw [Nat.mul_succ, ← Nat.add_assoc]
        exact Nat.le_trans q1 (Nat.add_le_add_right hce 792)
      have g3 : slots' ≤ 90000 + 12544 * (N + 1) := by
        rw [Nat.mul_succ, ← Nat.add_assoc]
        exact Nat.le_trans q2 (Nat.add_le_add_right hsl 12544)
      have g4 : N + 1 ≤ 512 := by omega
      exact lw_loop X hX hbl hL k (N + 1) T' ad' H' locs' ls cells' slots' g1 g2 g3 hR' hS' hB' hT' hI9 g4 hl2
    refine lv_aload_n hx hb (show decode cL_law 27 = .ok (.aload_n 0, 1) by decide +kernel) rfl (lv_at hl 3 rfl) ?_
    refine lv_iload_n hx hb (show decode cL_law 28 = .ok (.iload_n 3, 1) by decide +kernel) rfl (lv_at hl 0 rfl) ?_
    refine va_sld hx hb hX hbl (Nat.not_le.mpr hbl) hS (by have := i3_in (x := ((7 * N : Nat) : Int)) (n := (L : Int)) (by omega) (by omega) (by omega); simpa using this) (show decode cL_law 29 = .ok (.iaload, 1) by decide +kernel) ?_
    refine lv_bipush (v := 63) hx hb (show decode cL_law 30 = .ok (.bipush 63, 2) by decide +kernel) (by decide) ?_
    refine lv_iand hx hb (show decode cL_law 32 = .ok (.iand, 1) by decide +kernel) ?_
    refine lv_topi (fun sw esw => ?_)
    clear esw
    by_cases z0 : sw = 0
    · refine lv_tableIn (off := 187) (tgt := 220) hx hb dL33 (by rw [z0]; decide) (by rw [z0]; decide) (by rw [z0]; rfl) (by decide) ?_
      exact lw_c0 (i0 := 7 * N) X hX hbl hL hi hR hS hB hT hI hN hl (by omega) (by omega) kk
    by_cases z1 : sw = 1
    · refine lv_tableIn (off := 210) (tgt := 243) hx hb dL33 (by rw [z1]; decide) (by rw [z1]; decide) (by rw [z1]; rfl) (by decide) ?_
      exact lw_c1 (i0 := 7 * N) X hX hbl hL hi hR hS hB hT hI hN hl (by omega) (by omega) kk
    by_cases z2 : sw = 2
    · refine lv_tableIn (off := 223) (tgt := 256) hx hb dL33 (by rw [z2]; decide) (by rw [z2]; decide) (by rw [z2]; rfl) (by decide) ?_
      exact lw_c2 (i0 := 7 * N) X hX hbl hL hi hR hS hB hT hI hN hl (by omega) (by omega) kk
    by_cases z3 : sw = 3
    · refine lv_tableIn (off := 236) (tgt := 269) hx hb dL33 (by rw [z3]; decide) (by rw [z3]; decide) (by rw [z3]; rfl) (by decide) ?_
      exact lw_c3 (i0 := 7 * N) X hX hbl hL hi hR hS hB hT hI hN hl (by omega) (by omega) kk
    by_cases z4 : sw = 4
    · refine lv_tableIn (off := 249) (tgt := 282) hx hb dL33 (by rw [z4]; decide) (by rw [z4]; decide) (by rw [z4]; rfl) (by decide) ?_
      exact lw_c4 (i0 := 7 * N) X hX hbl hL hi hR hS hB hT hI hN hl (by omega) (by omega) kk
    by_cases z5 : sw = 5
    · refine lv_tableIn (off := 282) (tgt := 315) hx hb dL33 (by rw [z5]; decide) (by rw [z5]; decide) (by rw [z5]; rfl) (by decide) ?_
      exact lw_c5 (i0 := 7 * N) X hX hbl hL hi hR hS hB hT hI hN hl (by omega) (by omega) kk
    by_cases z6 : sw = 6
    · refine lv_tableIn (off := 315) (tgt := 348) hx hb dL33 (by rw [z6]; decide) (by rw [z6]; decide) (by rw [z6]; rfl) (by decide) ?_
      exact lw_c6 (i0 := 7 * N) X hX hbl hL hi hR hS hB hT hI hN hl (by omega) (by omega) kk
    by_cases z7 : sw = 7
    · refine lv_tableIn (off := 328) (tgt := 361) hx hb dL33 (by rw [z7]; decide) (by rw [z7]; decide) (by rw [z7]; rfl) (by decide) ?_
      exact lw_c7 (i0 := 7 * N) X hX hbl hL hi hR hS hB hT hI hN hl (by omega) (by omega) kk
    by_cases z8 : sw = 8
    · refine lv_tableIn (off := 381) (tgt := 414) hx hb dL33 (by rw [z8]; decide) (by rw [z8]; decide) (by rw [z8]; rfl) (by decide) ?_
      exact lw_c8 (i0 := 7 * N) X hX hbl hL hi hR hS hB hT hI hN hl (by omega) (by omega) kk
    by_cases z9 : sw = 9
    · refine lv_tableIn (off := 414) (tgt := 447) hx hb dL33 (by rw [z9]; decide) (by rw [z9]; decide) (by rw [z9]; rfl) (by decide) ?_
      exact lw_c9 (i0 := 7 * N) X hX hbl hL hi hR hS hB hT hI hN hl (by omega) (by omega) kk
    by_cases z10 : sw = 10
    · refine lv_tableIn (off := 437) (tgt := 470) hx hb dL33 (by rw [z10]; decide) (by rw [z10]; decide) (by rw [z10]; rfl) (by decide) ?_
      exact lw_c10 (i0 := 7 * N) X hX hbl hL hi hR hS hB hT hI hN hl (by omega) (by omega) kk
    by_cases z11 : sw = 11
    · refine lv_tableIn (off := 470) (tgt := 503) hx hb dL33 (by rw [z11]; decide) (by rw [z11]; decide) (by rw [z11]; rfl) (by decide) ?_
      exact lw_c11 (i0 := 7 * N) X hX hbl hL hi hR hS hB hT hI hN hl (by omega) (by omega) kk
    by_cases z12 : sw = 12
    · refine lv_tableIn (off := 503) (tgt := 536) hx hb dL33 (by rw [z12]; decide) (by rw [z12]; decide) (by rw [z12]; rfl) (by decide) ?_
      exact lw_c12 (i0 := 7 * N) X hX hbl hL hi hR hS hB hT hI hN hl (by omega) (by omega) kk
    by_cases z13 : sw = 13
    · refine lv_tableIn (off := 536) (tgt := 569) hx hb dL33 (by rw [z13]; decide) (by rw [z13]; decide) (by rw [z13]; rfl) (by decide) ?_
      exact lw_c13 (i0 := 7 * N) X hX hbl hL hi hR hS hB hT hI hN hl (by omega) (by omega) kk
    by_cases z14 : sw = 14
    · refine lv_tableIn (off := 569) (tgt := 602) hx hb dL33 (by rw [z14]; decide) (by rw [z14]; decide) (by rw [z14]; rfl) (by decide) ?_
      exact lw_c14 (i0 := 7 * N) X hX hbl hL hi hR hS hB hT hI hN hl (by omega) (by omega) kk
    by_cases z15 : sw = 15
    · refine lv_tableIn (off := 602) (tgt := 635) hx hb dL33 (by rw [z15]; decide) (by rw [z15]; decide) (by rw [z15]; rfl) (by decide) ?_
      exact lw_c15 (i0 := 7 * N) X hX hbl hL hi hR hS hB hT hI hN hl (by omega) (by omega) kk
    by_cases z16 : sw = 16
    · refine lv_tableIn (off := 625) (tgt := 658) hx hb dL33 (by rw [z16]; decide) (by rw [z16]; decide) (by rw [z16]; rfl) (by decide) ?_
      exact lw_c16 (i0 := 7 * N) X hX hbl hL hi hR hS hB hT hI hN hl (by omega) (by omega) kk
    by_cases z17 : sw = 17
    · refine lv_tableIn (off := 668) (tgt := 701) hx hb dL33 (by rw [z17]; decide) (by rw [z17]; decide) (by rw [z17]; rfl) (by decide) ?_
      exact lw_c17 (i0 := 7 * N) X hX hbl hL hi hR hS hB hT hI hN hl (by omega) (by omega) kk
    by_cases z18 : sw = 18
    · refine lv_tableIn (off := 711) (tgt := 744) hx hb dL33 (by rw [z18]; decide) (by rw [z18]; decide) (by rw [z18]; rfl) (by decide) ?_
      exact lw_c18 (i0 := 7 * N) X hX hbl hL hi hR hS hB hT hI hN hl (by omega) (by omega) kk
    by_cases z19 : sw = 19
    · refine lv_tableIn (off := 754) (tgt := 787) hx hb dL33 (by rw [z19]; decide) (by rw [z19]; decide) (by rw [z19]; rfl) (by decide) ?_
      exact lw_c19 (i0 := 7 * N) X hX hbl hL hi hR hS hB hT hI hN hl (by omega) (by omega) kk
    by_cases z20 : sw = 20
    · refine lv_tableIn (off := 777) (tgt := 810) hx hb dL33 (by rw [z20]; decide) (by rw [z20]; decide) (by rw [z20]; rfl) (by decide) ?_
      exact lw_c20 (i0 := 7 * N) X hX hbl hL hi hR hS hB hT hI hN hl (by omega) (by omega) kk
    by_cases z21 : sw = 21
    · refine lv_tableIn (off := 810) (tgt := 843) hx hb dL33 (by rw [z21]; decide) (by rw [z21]; decide) (by rw [z21]; rfl) (by decide) ?_
      exact lw_c21 (i0 := 7 * N) X hX hbl hL hi hR hS hB hT hI hN hl (by omega) (by omega) kk
    by_cases z22 : sw = 22
    · refine lv_tableIn (off := 873) (tgt := 906) hx hb dL33 (by rw [z22]; decide) (by rw [z22]; decide) (by rw [z22]; rfl) (by decide) ?_
      exact lw_c22 (i0 := 7 * N) X hX hbl hL hi hR hS hB hT hI hN hl (by omega) (by omega) kk
    by_cases z23 : sw = 23
    · refine lv_tableIn (off := 948) (tgt := 981) hx hb dL33 (by rw [z23]; decide) (by rw [z23]; decide) (by rw [z23]; rfl) (by decide) ?_
      exact lw_c23 (i0 := 7 * N) X hX hbl hL hi hR hS hB hT hI hN hl (by omega) (by omega) kk
    by_cases z24 : sw = 24
    · refine lv_tableIn (off := 981) (tgt := 1014) hx hb dL33 (by rw [z24]; decide) (by rw [z24]; decide) (by rw [z24]; rfl) (by decide) ?_
      exact lw_c24 (i0 := 7 * N) X hX hbl hL hi hR hS hB hT hI hN hl (by omega) (by omega) kk
    by_cases z25 : sw = 25
    · refine lv_tableIn (off := 1024) (tgt := 1057) hx hb dL33 (by rw [z25]; decide) (by rw [z25]; decide) (by rw [z25]; rfl) (by decide) ?_
      exact lw_c25 (i0 := 7 * N) X hX hbl hL hi hR hS hB hT hI hN hl (by omega) (by omega) kk
    by_cases z26 : sw = 26
    · refine lv_tableIn (off := 1057) (tgt := 1090) hx hb dL33 (by rw [z26]; decide) (by rw [z26]; decide) (by rw [z26]; rfl) (by decide) ?_
      exact lw_c26 (i0 := 7 * N) X hX hbl hL hi hR hS hB hT hI hN hl (by omega) (by omega) kk
    by_cases z27 : sw = 27
    · refine lv_tableIn (off := 1100) (tgt := 1133) hx hb dL33 (by rw [z27]; decide) (by rw [z27]; decide) (by rw [z27]; rfl) (by decide) ?_
      exact lw_c27 (i0 := 7 * N) X hX hbl hL hi hR hS hB hT hI hN hl (by omega) (by omega) kk
    by_cases z28 : sw = 28
    · refine lv_tableIn (off := 1153) (tgt := 1186) hx hb dL33 (by rw [z28]; decide) (by rw [z28]; decide) (by rw [z28]; rfl) (by decide) ?_
      exact lw_c28 (i0 := 7 * N) X hX hbl hL hi hR hS hB hT hI hN hl (by omega) (by omega) kk
    by_cases z29 : sw = 29
    · refine lv_tableIn (off := 1196) (tgt := 1229) hx hb dL33 (by rw [z29]; decide) (by rw [z29]; decide) (by rw [z29]; rfl) (by decide) ?_
      exact lw_c29 (i0 := 7 * N) X hX hbl hL hi hR hS hB hT hI hN hl (by omega) (by omega) kk
    by_cases z30 : sw = 30
    · refine lv_tableIn (off := 1239) (tgt := 1272) hx hb dL33 (by rw [z30]; decide) (by rw [z30]; decide) (by rw [z30]; rfl) (by decide) ?_
      exact lw_c30 (i0 := 7 * N) X hX hbl hL hi hR hS hB hT hI hN hl (by omega) (by omega) kk
    by_cases z31 : sw = 31
    · refine lv_tableIn (off := 1272) (tgt := 1305) hx hb dL33 (by rw [z31]; decide) (by rw [z31]; decide) (by rw [z31]; rfl) (by decide) ?_
      exact lw_c31 (i0 := 7 * N) X hX hbl hL hi hR hS hB hT hI hN hl (by omega) (by omega) kk
    by_cases z32 : sw = 32
    · refine lv_tableIn (off := 1295) (tgt := 1328) hx hb dL33 (by rw [z32]; decide) (by rw [z32]; decide) (by rw [z32]; rfl) (by decide) ?_
      exact lw_c32 (i0 := 7 * N) X hX hbl hL hi hR hS hB hT hI hN hl (by omega) (by omega) kk
    by_cases z33 : sw = 33
    · refine lv_tableIn (off := 1308) (tgt := 1341) hx hb dL33 (by rw [z33]; decide) (by rw [z33]; decide) (by rw [z33]; rfl) (by decide) ?_
      exact lw_c33 (i0 := 7 * N) X hX hbl hL hi hR hS hB hT hI hN hl (by omega) (by omega) kk
    by_cases z34 : sw = 34
    · refine lv_tableIn (off := 1341) (tgt := 1374) hx hb dL33 (by rw [z34]; decide) (by rw [z34]; decide) (by rw [z34]; rfl) (by decide) ?_
      exact lw_c34 (i0 := 7 * N) X hX hbl hL hi hR hS hB hT hI hN hl (by omega) (by omega) kk
    by_cases z35 : sw = 35
    · refine lv_tableIn (off := 1374) (tgt := 1407) hx hb dL33 (by rw [z35]; decide) (by rw [z35]; decide) (by rw [z35]; rfl) (by decide) ?_
      exact lw_c35 (i0 := 7 * N) X hX hbl hL hi hR hS hB hT hI hN hl (by omega) (by omega) kk
    by_cases z36 : sw = 36
    · refine lv_tableIn (off := 1407) (tgt := 1440) hx hb dL33 (by rw [z36]; decide) (by rw [z36]; decide) (by rw [z36]; rfl) (by decide) ?_
      exact lw_c36 (i0 := 7 * N) X hX hbl hL hi hR hS hB hT hI hN hl (by omega) (by omega) kk
    by_cases z37 : sw = 37
    · refine lv_tableIn (off := 1420) (tgt := 1453) hx hb dL33 (by rw [z37]; decide) (by rw [z37]; decide) (by rw [z37]; rfl) (by decide) ?_
      exact lw_c37 (i0 := 7 * N) X hX hbl hL hi hR hS hB hT hI hN hl (by omega) (by omega) kk
    by_cases z38 : sw = 38
    · refine lv_tableIn (off := 1453) (tgt := 1486) hx hb dL33 (by rw [z38]; decide) (by rw [z38]; decide) (by rw [z38]; rfl) (by decide) ?_
      exact lw_c38 (i0 := 7 * N) X hX hbl hL hi hR hS hB hT hI hN hl (by omega) (by omega) kk
    by_cases z39 : sw = 39
    · refine lv_tableIn (off := 1502) (tgt := 1535) hx hb dL33 (by rw [z39]; decide) (by rw [z39]; decide) (by rw [z39]; rfl) (by decide) ?_
      exact lw_c39 (i0 := 7 * N) X hX hbl hL hi hR hS hB hT hI hN hl (by omega) (by omega) kk
    by_cases z40 : sw = 40
    · refine lv_tableIn (off := 1525) (tgt := 1558) hx hb dL33 (by rw [z40]; decide) (by rw [z40]; decide) (by rw [z40]; rfl) (by decide) ?_
      exact lw_c40 (i0 := 7 * N) X hX hbl hL hi hR hS hB hT hI hN hl (by omega) (by omega) kk
    by_cases z41 : sw = 41
    · refine lv_tableIn (off := 1548) (tgt := 1581) hx hb dL33 (by rw [z41]; decide) (by rw [z41]; decide) (by rw [z41]; rfl) (by decide) ?_
      exact lw_c41 (i0 := 7 * N) X hX hbl hL hi hR hS hB hT hI hN hl (by omega) (by omega) kk
    by_cases z42 : sw = 42
    · refine lv_tableIn (off := 1571) (tgt := 1604) hx hb dL33 (by rw [z42]; decide) (by rw [z42]; decide) (by rw [z42]; rfl) (by decide) ?_
      exact lw_c42 (i0 := 7 * N) X hX hbl hL hi hR hS hB hT hI hN hl (by omega) (by omega) kk
    have zo : sw.toInt < 0 ∨ 42 < sw.toInt := by
      have t_0 := lv_neT (a := 0) z0 rfl
      have t_1 := lv_neT (a := 1) z1 rfl
      have t_2 := lv_neT (a := 2) z2 rfl
      have t_3 := lv_neT (a := 3) z3 rfl
      have t_4 := lv_neT (a := 4) z4 rfl
      have t_5 := lv_neT (a := 5) z5 rfl
      have t_6 := lv_neT (a := 6) z6 rfl
      have t_7 := lv_neT (a := 7) z7 rfl
      have t_8 := lv_neT (a := 8) z8 rfl
      have t_9 := lv_neT (a := 9) z9 rfl
      have t_10 := lv_neT (a := 10) z10 rfl
      have t_11 := lv_neT (a := 11) z11 rfl
      have t_12 := lv_neT (a := 12) z12 rfl
      have t_13 := lv_neT (a := 13) z13 rfl
      have t_14 := lv_neT (a := 14) z14 rfl
      have t_15 := lv_neT (a := 15) z15 rfl
      have t_16 := lv_neT (a := 16) z16 rfl
      have t_17 := lv_neT (a := 17) z17 rfl
      have t_18 := lv_neT (a := 18) z18 rfl
      have t_19 := lv_neT (a := 19) z19 rfl
      have t_20 := lv_neT (a := 20) z20 rfl
      have t_21 := lv_neT (a := 21) z21 rfl
      have t_22 := lv_neT (a := 22) z22 rfl
      have t_23 := lv_neT (a := 23) z23 rfl
      have t_24 := lv_neT (a := 24) z24 rfl
      have t_25 := lv_neT (a := 25) z25 rfl
      have t_26 := lv_neT (a := 26) z26 rfl
      have t_27 := lv_neT (a := 27) z27 rfl
      have t_28 := lv_neT (a := 28) z28 rfl
      have t_29 := lv_neT (a := 29) z29 rfl
      have t_30 := lv_neT (a := 30) z30 rfl
      have t_31 := lv_neT (a := 31) z31 rfl
      have t_32 := lv_neT (a := 32) z32 rfl
      have t_33 := lv_neT (a := 33) z33 rfl
      have t_34 := lv_neT (a := 34) z34 rfl
      have t_35 := lv_neT (a := 35) z35 rfl
      have t_36 := lv_neT (a := 36) z36 rfl
      have t_37 := lv_neT (a := 37) z37 rfl
      have t_38 := lv_neT (a := 38) z38 rfl
      have t_39 := lv_neT (a := 39) z39 rfl
      have t_40 := lv_neT (a := 40) z40 rfl
      have t_41 := lv_neT (a := 41) z41 rfl
      have t_42 := lv_neT (a := 42) z42 rfl
      omega
    refine lv_tableOut (tgt := 1627) hx hb dL33 zo (by decide) ?_
    exact kk T ad H locs cells slots (by omega) (by omega) hR hS hB hT (li_e hI) hl
