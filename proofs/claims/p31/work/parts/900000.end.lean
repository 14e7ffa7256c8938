-- the law, a case at a time
abbrev cL_law : ByteArray := code
def zL : Zm := (RL, cL_law, 4, some .boolean, room_1)
/-- what holds of both objects after N calls -/
def LI_ (N : Int) (T : Zt) : Prop := IC_ N T ∧ IR_ T ∧ RE_ T ∧ al_ T 109 0 ∧ al_ T 110 0 ∧ al_ T 111 0
abbrev LA_ (s : State) : Nat → Prop := fun q => s.heap.size ≤ q
/-- the arguments of a call: the row's places behind the call's own -/
def ag_ (cc : ByteArray) : Nat → Nat → Nat → Option Nat
  | 0, _, pc => some pc
  | k + 1, j, pc => if decode cc pc = .ok (.aload_n 0, 1) ∧ decode cc (pc + 1) = .ok (.iload_n 3, 1) then (match pu_ cc (pc + 1 + 1) (Int32.ofInt (j : Int)) with
    | 0 => none
    | a + 1 => if decode cc (pc + 1 + 1 + (a + 1)) = .ok (.iadd, 1) ∧ decode cc (pc + 1 + 1 + (a + 1) + 1) = .ok (.iaload, 1) then ag_ cc k (j + 1) (pc + 1 + 1 + (a + 1) + 1 + 1) else none) else none
def gt_ (cc : ByteArray) (pc : Nat) (t : Int) : Bool := match decode cc pc with
  | .ok (.goto off, k) => decide ((pc : Int) + off = t) && decide (k = 3)
  | _ => false
/-- a case of the law: both calls, both answers dropped -/
def ca_ (cc : ByteArray) (pc p1 p2 i1 i2 : Nat) : Bool := decide (decode cc pc = .ok (.aload_n 1, 1)) && (decide (decode cc p1 = .ok (.invokevirtual i1, 3)) && (decide (decode cc (p1 + 3) = .ok (.pop, 1)) && (decide (decode cc (p1 + 3 + 1) = .ok (.aload_n 2, 1)) && (decide (decode cc p2 = .ok (.invokevirtual i2, 3)) && (decide (decode cc (p2 + 3) = .ok (.pop, 1)) && gt_ cc (p2 + 3 + 1) 1627)))))
def ij_ (cc : ByteArray) (pc : Nat) (t : Int) : Bool := match decode cc pc with
  | .ok (.if_icmp .eq off, k) => decide ((pc : Int) + off = t) && decide (k = 3)
  | _ => false
/-- a case of the law: both calls, their answers compared -/
def cq_ (cc : ByteArray) (pc p1 p2 i1 i2 : Nat) : Bool := decide (decode cc pc = .ok (.aload_n 1, 1)) && (decide (decode cc p1 = .ok (.invokevirtual i1, 3)) && (decide (decode cc (p1 + 3) = .ok (.aload_n 2, 1)) && (decide (decode cc p2 = .ok (.invokevirtual i2, 3)) && ij_ cc (p2 + 3) 1627)))
noncomputable def ag2_ (cc : ByteArray) : Nat → Nat → Nat → Option Nat
  | 0, _, pc => some pc
  | k + 1, j, pc => if qdec_ cc pc = .ok (.aload_n 0, 1) ∧ qdec_ cc (pc + 1) = .ok (.iload_n 3, 1) then (match pu2_ cc (pc + 1 + 1) (Int32.ofInt (j : Int)) with
    | 0 => none
    | a + 1 => if qdec_ cc (pc + 1 + 1 + (a + 1)) = .ok (.iadd, 1) ∧ qdec_ cc (pc + 1 + 1 + (a + 1) + 1) = .ok (.iaload, 1) then ag2_ cc k (j + 1) (pc + 1 + 1 + (a + 1) + 1 + 1) else none) else none
theorem ag2_e (cc : ByteArray) : ∀ k j pc : Nat, ag2_ cc k j pc = ag_ cc k j pc
  | 0, _, _ => rfl
  | k + 1, j, pc => by
    simp only [ag2_, ag_, qdec_e, pu2_e, ag2_e cc k]
noncomputable def gt2_ (cc : ByteArray) (pc : Nat) (t : Int) : Bool := match qdec_ cc pc with
  | .ok (.goto off, k) => decide ((pc : Int) + off = t) && decide (k = 3)
  | _ => false
theorem gt2_e (cc : ByteArray) (pc : Nat) (t : Int) : gt2_ cc pc t = gt_ cc pc t := by
  unfold gt2_ gt_
  rw [qdec_e]
noncomputable def ca2_ (cc : ByteArray) (pc p1 p2 i1 i2 : Nat) : Bool := decide (qdec_ cc pc = .ok (.aload_n 1, 1)) && (decide (qdec_ cc p1 = .ok (.invokevirtual i1, 3)) && (decide (qdec_ cc (p1 + 3) = .ok (.pop, 1)) && (decide (qdec_ cc (p1 + 3 + 1) = .ok (.aload_n 2, 1)) && (decide (qdec_ cc p2 = .ok (.invokevirtual i2, 3)) && (decide (qdec_ cc (p2 + 3) = .ok (.pop, 1)) && gt2_ cc (p2 + 3 + 1) 1627)))))
theorem ca2_e (cc : ByteArray) (pc p1 p2 i1 i2 : Nat) : ca2_ cc pc p1 p2 i1 i2 = ca_ cc pc p1 p2 i1 i2 := by
  simp only [ca2_, ca_, qdec_e, gt2_e]
noncomputable def ij2_ (cc : ByteArray) (pc : Nat) (t : Int) : Bool := match qdec_ cc pc with
  | .ok (.if_icmp .eq off, k) => decide ((pc : Int) + off = t) && decide (k = 3)
  | _ => false
theorem ij2_e (cc : ByteArray) (pc : Nat) (t : Int) : ij2_ cc pc t = ij_ cc pc t := by
  unfold ij2_ ij_
  rw [qdec_e]
noncomputable def cq2_ (cc : ByteArray) (pc p1 p2 i1 i2 : Nat) : Bool := decide (qdec_ cc pc = .ok (.aload_n 1, 1)) && (decide (qdec_ cc p1 = .ok (.invokevirtual i1, 3)) && (decide (qdec_ cc (p1 + 3) = .ok (.aload_n 2, 1)) && (decide (qdec_ cc p2 = .ok (.invokevirtual i2, 3)) && ij2_ cc (p2 + 3) 1627)))
theorem cq2_e (cc : ByteArray) (pc p1 p2 i1 i2 : Nat) : cq2_ cc pc p1 p2 i1 i2 = cq_ cc pc p1 p2 i1 i2 := by
  simp only [cq2_, cq_, qdec_e, ij2_e]
section LAW
variable {p : Program} {l : Launch} {e : Env} {s : State} {m : MethodId} {args : Array Value} {below : List Frame} {meth : Method} {c : Code} {D : va_G} {cA : Nat → ClassId} {ad0 : Nat → Int → Nat} {A : Nat → Prop} {Y Yc : Zm} {y : MethodName} {Qp : Zt → Option Zv → Prop}
theorem lc_call {Q : State → Prop} (X : Cx_ Y p s m args meth c D cA ad0 A) {ad : Nat → Int → Nat} {T : Zt} {H : Heap} {locs : List Loc} {cells slots : Nat} {lsC : Array Slot} {lv : List (Nat × Value)} (hR : Rp_ D cA ad T A H) (hS : va_S A s.heap H locs) (hB : ∀ (k : Nat) (i : Int), k < 100 → ad k i = ad0 k i) (hT : ok_T T) (hl : lv_has lsC Y.2.2.1 lv) {idx ci n pc : Nat} {i : Int} (as : List Zv) (hC : Ct_ y Yc T (vR (100 + ci) i :: as) Qp) (hcv : cv_ Y.1 idx y Yc ci n) (hd : decode Y.2.1 pc = .ok (.invokevirtual idx, 3)) (hn : as.length = n) (hrm : rf_ Yc Y = true) (hmc : cells + Yc.2.2.2.2.cells ≤ Y.2.2.2.2.cells) (hms : slots + Yc.2.2.2.2.slots ≤ Y.2.2.2.2.slots) (hal : al_ T (100 + ci) i) (hok : ∀ v ∈ as, ok_v T v) {rest st0 : List Value} (hst : st0 = (as.map (en_v ad)).reverse ++ .ref (ad (100 + ci) i) :: rest) (hrs : (rest.map fun v => v.category).sum ≤ 8)
    (kk : ∀ (T' : Zt) (r : Option Zv) (ad' : Nat → Int → Nat) (H' : Heap) (locs' : List Loc), Qp T' r → ok_T T' → Rp_ D cA ad' T' A H' → va_S A s.heap H' locs' → (∀ k i, al_ T k i → al_ T' k i) → (∀ k i, k < 100 ∨ al_ T k i → ad' k i = ad k i) → W p l e Y.2.2.2.2 s m args below meth c H' locs' (cells + Yc.2.2.2.2.cells) (slots + Yc.2.2.2.2.slots) Q (F0 m (pc + 3) lsC ((r.map (en_v ad')).toList ++ rest))) :
    W p l e Y.2.2.2.2 s m args below meth c H locs cells slots Q (F0 m pc lsC st0) := by
  subst hst
  obtain ⟨hG, hdd, Tb, N, hcl⟩ := hcv
  simp only [rf_, Bool.and_eq_true, decide_eq_true_eq] at hrm
  obtain ⟨ids, q0, hq, hids, hP, hD⟩ := rp_at hR hal
  have hw := wd_get (cA := cA) (ad := ad) (T := T) hq
  rw [ce_ob (cl_lt hcl)] at hw
  have hAA : ∀ q, A_ ad T H.size q → A q := by
    rintro q (⟨k, i, ha, rfl⟩ | h)
    · exact Rp_in hR ha
    · exact X.2.2.2.2.2.2.2.2.2.1 q (Nat.le_trans hS.1 h)
  have hr := va_runV (l := l) (e := e) (below := below) (meth := meth) (H := H) (locs := locs) (cells := cells) (slots := slots) (g := F0 m pc lsC ((as.map (en_v ad)).reverse ++ .ref (ad (100 + ci) i) :: rest)) (As := as.map (en_v ad)) (rest := rest) (b := ad (100 + ci) i) ⟨X.1, X.2.1, X.2.2.1, X.2.2.2.2.2.2.1, X.2.2.2.2.2.1⟩ (hC l D cA ad H.size) (cwV n X.2.2.2.2.2.1 hG rfl rfl rfl ⟨rfl, hdd⟩ hrm) ⟨pc_blind, va_recv X.2.2.2.2.2.2.2.1 hP hcl hw, fun U hU hW => ⟨rfl, by rw [hU], by rw [hU]; exact Rp_A hR (fun _ _ _ _ => trivial), va_K.moved hW.alike X.2.2.2.2.2.2.2.1, ex_warm hW X.2.2.2.2.2.2.2.2.1, se_call X.2.2.2.2.2.2.2.2.2.2.1 hS hAA hU hW hB, hT, fun v hv => by
      rcases List.mem_cons.mp hv with rfl | h
      · exact Or.inr hal
      · exact hok v h⟩⟩ rfl (by rw [List.length_map]; exact hn) (hl.1) rfl (lv_room hrs) hd ⟨hmc, hms⟩
  intro T2 hT2 X2
  obtain ⟨v, st₀, t, T', L, h0, X', hLo, e1, e2, ⟨⟨T1, ad1, r, hv, hq, hok1, hrv, hR1, hB1⟩, hz, hk⟩, st⟩ := hr T2 hT2 X2
  rw [h0] at hz hk
  have hv2 : v = r.map (en_v ad1) := by
    cases hv
    rfl
  have k2 := kk T1 r ad1 T'.heap (locs ++ L) hq hok1 (by rw [e1]; exact Rp_A hR1 (fun k i _ h => hAA _ h)) ⟨Nat.le_trans hS.1 (by rw [e1]; exact hz), fun q h1 h2 => by rw [e1, hk q (Nat.lt_of_lt_of_le h1 hS.1) (fun z => h2 (hAA q z))]; exact hS.2.1 q h1 h2, fun q hq => by
      rcases List.mem_append.mp hq with h | h
      · exact hS.2.2 q h
      · exact hAA _ (hLo q h)⟩ hB1.1 hB1.2
  rw [← hv2] at k2
  obtain ⟨t2, a1, b1⟩ := k2 T' rfl X'
  exact ⟨t2, st t2 a1, b1⟩
theorem gt_s {cc : ByteArray} {pc : Nat} {t : Int} (h : gt_ cc pc t = true) : ∃ off : Int, decode cc pc = .ok (.goto off, 3) ∧ (pc : Int) + off = t := by
  unfold gt_ at h
  split at h
  · rename_i off k hd
    simp only [Bool.and_eq_true, decide_eq_true_eq] at h
    obtain ⟨h1, rfl⟩ := h
    exact ⟨off, hd, h1⟩
  · cases h
variable {b L : Nat} {xs : Nat → Int32} {R : Room} {Q : State → Prop} {lsC : Array Slot} {lv : List (Nat × Value)} {i0 : Nat} {cc : ByteArray}
theorem i3_add (x y : Int) : Int32.ofInt x + Int32.ofInt y = Int32.ofInt (x + y) := (Int32.ofInt_add x y).symm
/-- the arguments are loaded -/
theorem ag_w (hx : p.tables.exec = Jvm.exec) (hb : c.code = cc) (hX : va_X b L xs s s.heap) (hbl : b < s.heap.size) (hL : L ≤ 3584) (h0 : lsC[0]? = some (.val (.ref b))) (h3 : lsC[3]? = some (.val (.int (Int32.ofInt (i0 : Int))))) {H : Heap} {locs : List Loc} {cells slots : Nat} (hS : va_S (LA_ s) s.heap H locs) : ∀ (k j pc pe : Nat) (st : List Value), ag_ cc k j pc = some pe → i0 + j + k ≤ L → W p l e R s m args below meth c H locs cells slots Q (F0 m pe lsC (((List.range' j k).map fun t => Value.int (xs (i0 + t))).reverse ++ st)) → W p l e R s m args below meth c H locs cells slots Q (F0 m pc lsC st)
  | 0, j, pc, pe, st, h, _, kk => by
    have : pc = pe := Option.some.inj h
    subst this
    exact kk
  | k + 1, j, pc, pe, st, h, hj, kk => by
    unfold ag_ at h
    split at h
    · rename_i g1
      split at h
      · cases h
      · rename_i a ha
        split at h
        · rename_i g2
          refine lv_aload_n hx hb g1.1 rfl h0 ?_
          refine lv_iload_n hx hb g1.2 rfl h3 ?_
          refine pu_w hx hb ha ?_
          refine lv_iadd hx hb g2.1 ?_
          rw [i3_add]
          refine va_sld hx hb hX hbl (Nat.not_le.mpr hbl) hS (by have := i3_in (x := (i0 : Int) + (j : Int)) (n := (L : Int)) (by omega) (by omega) (by omega); simpa using this) g2.2 ?_
          have ec : (Int32.ofInt ((i0 : Int) + (j : Int))).toNatClampNeg = i0 + j := by have := i3_cl (x := (i0 : Int) + (j : Int)) (by omega) (by omega); omega
          rw [ec]
          refine ag_w hx hb hX hbl hL h0 h3 hS k (j + 1) _ pe _ h (by omega) ?_
          have es : ((List.range' j (k + 1)).map fun t => Value.int (xs (i0 + t))).reverse ++ st = ((List.range' (j + 1) k).map fun t => Value.int (xs (i0 + t))).reverse ++ (Value.int (xs (i0 + j)) :: st) := by
            rw [List.range'_succ, List.map_cons, List.reverse_cons, List.append_assoc]
            rfl
          rw [← es]
          exact kk
        · cases h
    · cases h
theorem en_is (vs : List Int32) (ad : Nat → Int → Nat) : (vs.map fun x => vI x.toInt).map (en_v ad) = vs.map Value.int := by
  rw [List.map_map]
  refine List.map_congr_left (fun x _ => ?_)
  show Value.int (Int32.ofInt x.toInt) = Value.int x
  rw [Int32.ofInt_toInt]
theorem ok_is {T : Zt} (vs : List Int32) : ∀ v ∈ (vs.map fun x => (vI x.toInt : Zv)), ok_v T v := fun v hv => by
  obtain ⟨x, -, rfl⟩ := List.mem_map.mp hv
  have h1 := x.le_toInt
  have h2 := x.toInt_lt
  show -2147483648 ≤ x.toInt ∧ x.toInt ≤ 2147483647
  omega
/-- one case of the law, both answers dropped -/
theorem lw_pop (X : Cx_ zL p s m #[Value.ref b] meth c D cA ad0 (LA_ s)) {N : Int} {T : Zt} {ad : Nat → Int → Nat} {H : Heap} {locs : List Loc} {cells slots : Nat} {iv : Int32} (hR : Rp_ D cA ad T (LA_ s) H) (hS : va_S (LA_ s) s.heap H locs) (hB : ∀ (k : Nat) (i : Int), k < 100 → ad k i = ad0 k i) (hT : ok_T T) (hI : LI_ N T) (hl : lv_has lsC 4 [(3, .int iv), (2, .ref (ad 111 0)), (1, .ref (ad 110 0)), (0, .ref b)]) (vs : List Int32) {pc p1 p2 i1 i2 n : Nat} {y1 y2 : MethodName} {Y1 Y2 : Zm} (hn : vs.length = n) (hck : ca_ cL_law pc p1 p2 i1 i2 = true)
    (run1 : ∀ (H : Heap) (locs : List Loc) (cells slots : Nat) (st : List Value), va_S (LA_ s) s.heap H locs → W p l e room_1 s m #[Value.ref b] below meth c H locs cells slots Q (F0 m p1 lsC ((vs.map Value.int).reverse ++ st)) → W p l e room_1 s m #[Value.ref b] below meth c H locs cells slots Q (F0 m (pc + 1) lsC st))
    (run2 : ∀ (H : Heap) (locs : List Loc) (cells slots : Nat) (st : List Value), va_S (LA_ s) s.heap H locs → W p l e room_1 s m #[Value.ref b] below meth c H locs cells slots Q (F0 m p2 lsC ((vs.map Value.int).reverse ++ st)) → W p l e room_1 s m #[Value.ref b] below meth c H locs cells slots Q (F0 m (p1 + 3 + 1 + 1) lsC st))
    (hv1 : cv_ RL i1 y1 Y1 10 n) (hv2 : cv_ RL i2 y2 Y2 11 n) (hr1 : rf_ Y1 zL = true) (hr2 : rf_ Y2 zL = true) (hc1 : Y1.2.2.2.2.cells ≤ 792 ∧ Y1.2.2.2.2.slots ≤ 12544 ∧ Y2.2.2.2.2.cells = 0 ∧ Y2.2.2.2.2.slots = 0) (hce : cells + 792 ≤ 600000) (hsl : slots + 12544 ≤ 7302250) {P1 : Zt → Option Zv → Prop} {P2 : Zt → Zt → Option Zv → Prop}
    (k1 : Cw_ y1 Y1 T (vR 110 0 :: vs.map fun x => vI x.toInt) P1) (k2 : ∀ T1 r1, ok_T T1 → P1 T1 r1 → Cw_ y2 Y2 T1 (vR 111 0 :: vs.map fun x => vI x.toInt) (P2 T1)) (ka : ∀ T1 r1, P1 T1 r1 → ∃ x : Int, r1 = some (vI x)) (kr : ∀ T1 r1 T2 r2, RE_ T → P1 T1 r1 → P2 T1 T2 r2 → LBo_ N T2 r1 r2)
    (kk : ∀ (T' : Zt) (ad' : Nat → Int → Nat) (H' : Heap) (locs' : List Loc) (cells' slots' : Nat), cells' ≤ cells + 792 → slots' ≤ slots + 12544 → Rp_ D cA ad' T' (LA_ s) H' → va_S (LA_ s) s.heap H' locs' → (∀ (k : Nat) (i : Int), k < 100 → ad' k i = ad0 k i) → ok_T T' → LI_ (N + 1) T' → lv_has lsC 4 [(3, .int iv), (2, .ref (ad' 111 0)), (1, .ref (ad' 110 0)), (0, .ref b)] → W p l e room_1 s m #[Value.ref b] below meth c H' locs' cells' slots' Q (F0 m 1627 lsC [])) :
    W p l e room_1 s m #[Value.ref b] below meth c H locs cells slots Q (F0 m pc lsC []) := by
  simp only [ca_, Bool.and_eq_true, decide_eq_true_eq] at hck
  obtain ⟨d0, d1, d2, d3, d4, d5, d6⟩ := hck
  obtain ⟨off, d6, d7⟩ := gt_s d6
  obtain ⟨hx, hb⟩ : p.tables.exec = Jvm.exec ∧ c.code = cL_law := ⟨X.1, X.2.1⟩
  obtain ⟨hIC, hIR, hcnt, a9, a10, a11⟩ := hI
  obtain ⟨Q1, C1, f1⟩ := k1
  refine lv_aload_n hx hb d0 rfl (lv_at hl 2 rfl) ?_
  refine run1 H locs cells slots _ hS ?_
  refine lc_call (Y := zL) (lv := [(3, .int iv), (2, .ref (ad 111 0)), (1, .ref (ad 110 0)), (0, .ref b)]) (rest := []) X hR hS hB hT hl (ci := 10) (i := 0) (vs.map fun x => vI x.toInt) C1 hv1 d1 (by rw [List.length_map]; exact hn) hr1 (show cells + Y1.2.2.2.2.cells ≤ 600000 by omega) (show slots + Y1.2.2.2.2.slots ≤ 7302250 by omega) a10 (ok_is vs) (by rw [en_is]) (by simp) (fun T1 r1 ad1 H1 locs1 q1 hT1 hR1 hS1 u1 v1 => ?_)
  have g1 := f1 T1 r1 q1
  obtain ⟨x1, rfl⟩ := ka T1 r1 g1
  refine lv_pop hx hb d2 rfl ?_
  refine lv_aload_n hx hb d3 rfl (lv_at hl 1 rfl) ?_
  refine run2 H1 locs1 _ _ _ hS1 ?_
  obtain ⟨Q2, C2, f2⟩ := k2 T1 _ hT1 g1
  have e11 : ad1 111 0 = ad 111 0 := v1 111 0 (Or.inr a11)
  have e10 : ad1 110 0 = ad 110 0 := v1 110 0 (Or.inr a10)
  refine lc_call (Y := zL) (lv := [(3, .int iv), (2, .ref (ad 111 0)), (1, .ref (ad 110 0)), (0, .ref b)]) (rest := []) X hR1 hS1 (fun k i h => (v1 k i (Or.inl h)).trans (hB k i h)) hT1 hl (ci := 11) (i := 0) (vs.map fun x => vI x.toInt) C2 hv2 d4 (by rw [List.length_map]; exact hn) hr2 (show cells + Y1.2.2.2.2.cells + Y2.2.2.2.2.cells ≤ 600000 by omega) (show slots + Y1.2.2.2.2.slots + Y2.2.2.2.2.slots ≤ 7302250 by omega) (u1 111 0 a11) (ok_is vs) (by rw [en_is]; show _ = _ ++ (Value.ref (ad1 111 0) :: []); rw [e11]; rfl) (by simp [Value.category]) (fun T2 r2 ad2 H2 locs2 q2 hT2 hR2 hS2 u2 v2 => ?_)
  obtain ⟨x1', x2, ex, rfl, w1, w2, w3⟩ := kr T1 _ T2 r2 hcnt g1 (f2 T2 r2 q2)
  refine lv_pop hx hb d5 rfl ?_
  refine lv_goto (tgt := 1627) hx hb d6 d7 ?_
  have e11b : ad2 111 0 = ad 111 0 := (v2 111 0 (Or.inr (u1 111 0 a11))).trans e11
  have e10b : ad2 110 0 = ad 110 0 := (v2 110 0 (Or.inr (u1 110 0 a10))).trans e10
  refine kk T2 ad2 H2 locs2 _ _ (by omega) (by omega) hR2 hS2 (fun k i h => (v2 k i (Or.inl h)).trans ((v1 k i (Or.inl h)).trans (hB k i h))) hT2 ⟨w1, w2, w3, u2 _ _ (u1 _ _ a9), u2 _ _ (u1 _ _ a10), u2 _ _ (u1 _ _ a11)⟩ (by rw [e11b, e10b]; exact hl)
theorem ij_s {cc : ByteArray} {pc : Nat} {t : Int} (h : ij_ cc pc t = true) : ∃ off : Int, decode cc pc = .ok (.if_icmp .eq off, 3) ∧ (pc : Int) + off = t := by
  unfold ij_ at h
  split at h
  · rename_i off k hd
    simp only [Bool.and_eq_true, decide_eq_true_eq] at h
    obtain ⟨h1, rfl⟩ := h
    exact ⟨off, hd, h1⟩
  · cases h
/-- one case of the law, both answers compared -/
theorem lw_cmp (X : Cx_ zL p s m #[Value.ref b] meth c D cA ad0 (LA_ s)) {N : Int} {T : Zt} {ad : Nat → Int → Nat} {H : Heap} {locs : List Loc} {cells slots : Nat} {iv : Int32} (hR : Rp_ D cA ad T (LA_ s) H) (hS : va_S (LA_ s) s.heap H locs) (hB : ∀ (k : Nat) (i : Int), k < 100 → ad k i = ad0 k i) (hT : ok_T T) (hI : LI_ N T) (hl : lv_has lsC 4 [(3, .int iv), (2, .ref (ad 111 0)), (1, .ref (ad 110 0)), (0, .ref b)]) (vs : List Int32) {pc p1 p2 i1 i2 n : Nat} {y1 y2 : MethodName} {Y1 Y2 : Zm} (hn : vs.length = n) (hck : cq_ cL_law pc p1 p2 i1 i2 = true)
    (run1 : ∀ (H : Heap) (locs : List Loc) (cells slots : Nat) (st : List Value), va_S (LA_ s) s.heap H locs → W p l e room_1 s m #[Value.ref b] below meth c H locs cells slots Q (F0 m p1 lsC ((vs.map Value.int).reverse ++ st)) → W p l e room_1 s m #[Value.ref b] below meth c H locs cells slots Q (F0 m (pc + 1) lsC st))
    (run2 : ∀ (H : Heap) (locs : List Loc) (cells slots : Nat) (st : List Value), va_S (LA_ s) s.heap H locs → W p l e room_1 s m #[Value.ref b] below meth c H locs cells slots Q (F0 m p2 lsC ((vs.map Value.int).reverse ++ st)) → W p l e room_1 s m #[Value.ref b] below meth c H locs cells slots Q (F0 m (p1 + 3 + 1) lsC st))
    (hv1 : cv_ RL i1 y1 Y1 10 n) (hv2 : cv_ RL i2 y2 Y2 11 n) (hr1 : rf_ Y1 zL = true) (hr2 : rf_ Y2 zL = true) (hc1 : Y1.2.2.2.2.cells ≤ 792 ∧ Y1.2.2.2.2.slots ≤ 12544 ∧ Y2.2.2.2.2.cells = 0 ∧ Y2.2.2.2.2.slots = 0) (hce : cells + 792 ≤ 600000) (hsl : slots + 12544 ≤ 7302250) {P1 : Zt → Option Zv → Prop} {P2 : Zt → Zt → Option Zv → Prop}
    (k1 : Cw_ y1 Y1 T (vR 110 0 :: vs.map fun x => vI x.toInt) P1) (k2 : ∀ T1 r1, ok_T T1 → P1 T1 r1 → Cw_ y2 Y2 T1 (vR 111 0 :: vs.map fun x => vI x.toInt) (P2 T1)) (ka : ∀ T1 r1, P1 T1 r1 → ∃ x : Int, r1 = some (vI x)) (kr : ∀ T1 r1 T2 r2, RE_ T → P1 T1 r1 → P2 T1 T2 r2 → LQo_ N T2 r1 r2)
    (kk : ∀ (T' : Zt) (ad' : Nat → Int → Nat) (H' : Heap) (locs' : List Loc) (cells' slots' : Nat), cells' ≤ cells + 792 → slots' ≤ slots + 12544 → Rp_ D cA ad' T' (LA_ s) H' → va_S (LA_ s) s.heap H' locs' → (∀ (k : Nat) (i : Int), k < 100 → ad' k i = ad0 k i) → ok_T T' → LI_ (N + 1) T' → lv_has lsC 4 [(3, .int iv), (2, .ref (ad' 111 0)), (1, .ref (ad' 110 0)), (0, .ref b)] → W p l e room_1 s m #[Value.ref b] below meth c H' locs' cells' slots' Q (F0 m 1627 lsC [])) :
    W p l e room_1 s m #[Value.ref b] below meth c H locs cells slots Q (F0 m pc lsC []) := by
  simp only [cq_, Bool.and_eq_true, decide_eq_true_eq] at hck
  obtain ⟨d0, d1, d3, d4, d5⟩ := hck
  obtain ⟨off, d6, d7⟩ := ij_s d5
  obtain ⟨hx, hb⟩ : p.tables.exec = Jvm.exec ∧ c.code = cL_law := ⟨X.1, X.2.1⟩
  obtain ⟨hIC, hIR, hcnt, a9, a10, a11⟩ := hI
  obtain ⟨Q1, C1, f1⟩ := k1
  refine lv_aload_n hx hb d0 rfl (lv_at hl 2 rfl) ?_
  refine run1 H locs cells slots _ hS ?_
  refine lc_call (Y := zL) (lv := [(3, .int iv), (2, .ref (ad 111 0)), (1, .ref (ad 110 0)), (0, .ref b)]) (rest := []) X hR hS hB hT hl (ci := 10) (i := 0) (vs.map fun x => vI x.toInt) C1 hv1 d1 (by rw [List.length_map]; exact hn) hr1 (show cells + Y1.2.2.2.2.cells ≤ 600000 by omega) (show slots + Y1.2.2.2.2.slots ≤ 7302250 by omega) a10 (ok_is vs) (by rw [en_is]) (by simp) (fun T1 r1 ad1 H1 locs1 q1 hT1 hR1 hS1 u1 v1 => ?_)
  have g1 := f1 T1 r1 q1
  obtain ⟨x1, rfl⟩ := ka T1 r1 g1
  refine lv_aload_n hx hb d3 rfl (lv_at hl 1 rfl) ?_
  refine run2 H1 locs1 _ _ _ hS1 ?_
  obtain ⟨Q2, C2, f2⟩ := k2 T1 _ hT1 g1
  have e11 : ad1 111 0 = ad 111 0 := v1 111 0 (Or.inr a11)
  have e10 : ad1 110 0 = ad 110 0 := v1 110 0 (Or.inr a10)
  refine lc_call (Y := zL) (lv := [(3, .int iv), (2, .ref (ad 111 0)), (1, .ref (ad 110 0)), (0, .ref b)]) (rest := [.int (Int32.ofInt x1)]) X hR1 hS1 (fun k i h => (v1 k i (Or.inl h)).trans (hB k i h)) hT1 hl (ci := 11) (i := 0) (vs.map fun x => vI x.toInt) C2 hv2 d4 (by rw [List.length_map]; exact hn) hr2 (show cells + Y1.2.2.2.2.cells + Y2.2.2.2.2.cells ≤ 600000 by omega) (show slots + Y1.2.2.2.2.slots + Y2.2.2.2.2.slots ≤ 7302250 by omega) (u1 111 0 a11) (ok_is vs) (by rw [en_is]; show _ = _ ++ (Value.ref (ad1 111 0) :: [.int (Int32.ofInt x1)]); rw [e11]; rfl) (by simp [Value.category]) (fun T2 r2 ad2 H2 locs2 q2 hT2 hR2 hS2 u2 v2 => ?_)
  obtain ⟨x2, ex, rfl, w1, w2, w3⟩ := kr T1 _ T2 r2 hcnt g1 (f2 T2 r2 q2)
  obtain rfl : x1 = x2 := Sum.inl.inj (Option.some.inj ex)
  refine lv_icmp_eq (tgt := 1627) hx hb d6 d7 (fun _ => ?_) (fun h => absurd rfl h)
  have e11b : ad2 111 0 = ad 111 0 := (v2 111 0 (Or.inr (u1 111 0 a11))).trans e11
  have e10b : ad2 110 0 = ad 110 0 := (v2 110 0 (Or.inr (u1 110 0 a10))).trans e10
  refine kk T2 ad2 H2 locs2 _ _ (by omega) (by omega) hR2 hS2 (fun k i h => (v2 k i (Or.inl h)).trans ((v1 k i (Or.inl h)).trans (hB k i h))) hT2 ⟨w1, w2, w3, u2 _ _ (u1 _ _ a9), u2 _ _ (u1 _ _ a10), u2 _ _ (u1 _ _ a11)⟩ (by rw [e11b, e10b]; exact hl)
end LAW
