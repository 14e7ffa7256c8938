-- numbers
theorem i3_t {x : Int} (h1 : -2147483648 ≤ x) (h2 : x ≤ 2147483647) : (Int32.ofInt x).toInt = x := Int32.toInt_ofInt_of_le (by omega) (by omega)
theorem i6_t {x : Int} (h1 : -9223372036854775808 ≤ x) (h2 : x ≤ 9223372036854775807) : (Int64.ofInt x).toInt = x := Int64.toInt_ofInt_of_le (by omega) (by omega)
theorem i3_eq {x y : Int} (h1 : -2147483648 ≤ x ∧ x ≤ 2147483647) (h2 : -2147483648 ≤ y ∧ y ≤ 2147483647) : Int32.ofInt x = Int32.ofInt y ↔ x = y := ⟨fun h => by have := congrArg Int32.toInt h; rwa [i3_t h1.1 h1.2, i3_t h2.1 h2.2] at this, fun h => by rw [h]⟩
theorem i3_le {x y : Int} (h1 : -2147483648 ≤ x ∧ x ≤ 2147483647) (h2 : -2147483648 ≤ y ∧ y ≤ 2147483647) : Int32.ofInt x ≤ Int32.ofInt y ↔ x ≤ y := by rw [Int32.le_iff_toInt_le, i3_t h1.1 h1.2, i3_t h2.1 h2.2]
theorem i3_lt {x y : Int} (h1 : -2147483648 ≤ x ∧ x ≤ 2147483647) (h2 : -2147483648 ≤ y ∧ y ≤ 2147483647) : Int32.ofInt x < Int32.ofInt y ↔ x < y := by rw [Int32.lt_iff_toInt_lt, i3_t h1.1 h1.2, i3_t h2.1 h2.2]
theorem i3_in {x n : Int} (h1 : 0 ≤ x) (h2 : x < n) (h3 : x ≤ 2147483647) : vp_in (Int32.ofInt x) n.toNat := vp_in_iff.mpr (by rw [i3_t (by omega) h3]; omega)
theorem i3_cl {x : Int} (h1 : 0 ≤ x) (h3 : x ≤ 2147483647) : ((Int32.ofInt x).toNatClampNeg : Int) = x := by
  show (((Int32.ofInt x).toInt.toNat : Nat) : Int) = x
  rw [i3_t (by omega) h3]; omega
theorem i3_r (v : Int32) : -2147483648 ≤ v.toInt ∧ v.toInt ≤ 2147483647 := ⟨Int32.le_toInt v, by have := Int32.toInt_lt v; omega⟩
theorem i3_div {x y : Int} (h1 : 0 ≤ x) (h2 : x ≤ 2147483647) (h3 : 0 < y) (h4 : y ≤ 2147483647) : Int32.ofInt x / Int32.ofInt y = Int32.ofInt (x / y) := by
  obtain ⟨a, rfl⟩ := Int.eq_ofNat_of_zero_le h1
  obtain ⟨b, rfl⟩ := Int.eq_ofNat_of_zero_le (Int.le_of_lt h3)
  exact pk_div (a := a) (d := b) (by omega) (by omega) (by omega)
theorem i3_rem {x y : Int} (h1 : 0 ≤ x) (h2 : x ≤ 2147483647) (h3 : 0 < y) (h4 : y ≤ 2147483647) : Int32.ofInt x - Int32.ofInt x / Int32.ofInt y * Int32.ofInt y = Int32.ofInt (x % y) := by
  obtain ⟨a, rfl⟩ := Int.eq_ofNat_of_zero_le h1
  obtain ⟨b, rfl⟩ := Int.eq_ofNat_of_zero_le (Int.le_of_lt h3)
  exact pk_rem (a := a) (d := b) (by omega) (by omega) (by omega)
theorem i6_rem {x y : Int} (h1 : 0 ≤ x) (h2 : x ≤ 9223372036854775807) (h3 : 0 < y) (h4 : y ≤ 9223372036854775807) : Int64.ofInt x - Int64.ofInt x / Int64.ofInt y * Int64.ofInt y = Int64.ofInt (x % y) := by
  obtain ⟨a, rfl⟩ := Int.eq_ofNat_of_zero_le h1
  obtain ⟨b, rfl⟩ := Int.eq_ofNat_of_zero_le (Int.le_of_lt h3)
  exact pk_lRem (a := a) (b := b) (by omega) (by omega) (by omega)
theorem i3_ne {y : Int} (h3 : 0 < y) (h4 : y ≤ 2147483647) : ¬ Int32.ofInt y = 0 := fun h => by
  have := congrArg Int32.toInt h
  rw [i3_t (by omega) h4] at this
  have e : (0 : Int32).toInt = 0 := rfl
  omega
theorem i6_ne {y : Int} (h3 : 0 < y) (h4 : y ≤ 9223372036854775807) : ¬ Int64.ofInt y = 0 := fun h => by
  have := congrArg Int64.toInt h
  rw [i6_t (by omega) h4] at this
  have e : (0 : Int64).toInt = 0 := rfl
  omega
theorem wr_ofInt (z : Int) : Int32.ofInt (wr_ z) = Int32.ofInt z := by
  apply Int32.toInt_inj.mp
  rw [Int32.toInt_ofInt, Int32.toInt_ofInt]
  simp only [wr_, Int.bmod_def, Int32.size]
  omega
theorem wq_ofInt (z : Int) : Int64.ofInt (wq_ z) = Int64.ofInt z := by
  apply Int64.toInt_inj.mp
  rw [Int64.toInt_ofInt, Int64.toInt_ofInt]
  simp only [wq_, Int.bmod_def, Int64.size]
  omega
theorem wq_r (z : Int) : -9223372036854775808 ≤ wq_ z ∧ wq_ z ≤ 9223372036854775807 := by unfold wq_; omega
theorem wr_r (z : Int) : -2147483648 ≤ wr_ z ∧ wr_ z ≤ 2147483647 := by unfold wr_; omega
theorem i3_l {x : Int} (h : -2147483648 ≤ x ∧ x ≤ 2147483647) : (Int32.ofInt x).toInt64 = Int64.ofInt x := by
  apply Int64.toInt_inj.mp
  rw [Int32.toInt_toInt64, i3_t h.1 h.2, i6_t (by omega) (by omega)]
theorem i6_i {x : Int} (h : -2147483648 ≤ x ∧ x ≤ 2147483647) : (Int64.ofInt x).toInt32 = Int32.ofInt x := by
  apply Int32.toInt_inj.mp
  rw [Int64.toInt_toInt32, i6_t (by omega) (by omega), i3_t h.1 h.2]
  simp only [Int.bmod_def]
  omega
theorem i6_cmp {x y : Int} (h1 : -9223372036854775808 ≤ x ∧ x ≤ 9223372036854775807) (h2 : -9223372036854775808 ≤ y ∧ y ≤ 9223372036854775807) : lg_cmp (Int64.ofInt x) (Int64.ofInt y) = Int32.ofInt (if x < y then -1 else if x = y then 0 else 1) := by
  have e1 : Int64.ofInt y < Int64.ofInt x ↔ y < x := by rw [Int64.lt_iff_toInt_lt, i6_t h1.1 h1.2, i6_t h2.1 h2.2]
  have e2 : Int64.ofInt x = Int64.ofInt y ↔ x = y := ⟨fun h => by have := congrArg Int64.toInt h; rwa [i6_t h1.1 h1.2, i6_t h2.1 h2.2] at this, fun h => by rw [h]⟩
  unfold lg_cmp
  simp only [e1, e2]
  by_cases a : x < y
  · have b : ¬ y < x := by omega
    have c : ¬ x = y := by omega
    simp [a, b, c]
  · by_cases b : x = y
    · subst b
      simp
    · have c : y < x := by omega
      simp [a, b, c]
section JR
variable {Y : Zm} {T0 T : Zt} {P : Zt → Option Zv → Prop} {bc bs : Nat} {pc : Int} {ls : Zl} {st : List Zv}
/-- an instruction that changes the operand stack alone -/
theorem j_pure {n : Nat} {st' : List Zv} (hp : 0 ≤ pc) (hok : ok_l T ls st → ok_l T ls st')
    (hw : ∀ (p : Program) (l : Launch) (e : Env) (R : Room) (s : State) (m : MethodId) (args : Array Value) (below : List Frame) (meth : Method) (c : Code) (H : Heap) (locs : List Loc) (cells slots : Nat) (Q : State → Prop) (lsC : Array Slot) (ad : Nat → Int → Nat), p.tables.exec = Jvm.exec → c.code = Y.2.1 → (∀ w ∈ lw_g, w.before args s = true) → s.vm.findClass Y.1 = some m.cls → ok_l T ls st → lv_has lsC Y.2.2.1 (lp_ ad 0 ls) → W p l e R s m args below meth c H locs cells slots Q (F0 m (pc.toNat + n) lsC (st'.map (en_v ad))) → W p l e R s m args below meth c H locs cells slots Q (F0 m pc.toNat lsC (st.map (en_v ad))))
    (k : J_ Y T0 P bc bs (pc + n) ls st' T) : J_ Y T0 P bc bs pc ls st T := by
  intro l p e s m args below meth c D cA ad0 A X ad H locs cells slots lsC hc hs hR hS hB hT hL hl hn
  have h1 := k l p e s m args below meth c D cA ad0 A X ad H locs cells slots lsC hc hs hR hS hB hT (hok hL) hl hn
  rw [show (pc + n).toNat = pc.toNat + n by omega] at h1
  exact hw _ _ _ _ _ _ _ _ _ _ _ _ _ _ _ _ _ X.1 X.2.1 X.2.2.2.2.2.1 X.2.2.2.2.2.2.1 hL hl h1
/-- a jump -/
theorem j_jump {tgt : Int} (hp : 0 ≤ pc) (ht : 0 ≤ tgt) {off : Int} (e : pc + off = tgt) (hd : decode Y.2.1 pc.toNat = .ok (.goto off, 3)) (k : J_ Y T0 P bc bs tgt ls st T) : J_ Y T0 P bc bs pc ls st T := by
  intro l p e' s m args below meth c D cA ad0 A X ad H locs cells slots lsC hc hs hR hS hB hT hL hl hn
  exact lv_goto (tgt := tgt.toNat) X.1 X.2.1 hd (by omega) (k l p e' s m args below meth c D cA ad0 A X ad H locs cells slots lsC hc hs hR hS hB hT hL hl hn)
theorem ok_push {v : Zv} (hv : ok_v T v) (h : ok_l T ls st) : ok_l T ls (v :: st) := ⟨h.1, fun w hw => (List.mem_cons.mp hw).elim (fun q => q ▸ hv) (h.2 w)⟩
theorem ok_head {v : Zv} (h : ok_l T ls (v :: st)) : ok_v T v := h.2 v List.mem_cons_self
theorem ok_tail {v : Zv} (h : ok_l T ls (v :: st)) : ok_l T ls st := ⟨h.1, fun w hw => h.2 w (List.mem_cons_of_mem _ hw)⟩
theorem ok_set {k : Nat} {v : Option Zv} (hv : ∀ w, v = some w → ok_v T w) (h : ok_l T ls st) : ok_l T (ls.set k v) st := by
  refine ⟨fun j w hj => ?_, h.2⟩
  rw [List.getElem?_set] at hj
  by_cases a : k = j
  · rw [if_pos a] at hj
    by_cases b : k < ls.length
    · rw [if_pos b] at hj
      exact hv w (by simpa using hj)
    · rw [if_neg b] at hj
      simp at hj
  · rw [if_neg a] at hj
    exact h.1 j w hj
theorem j_iconst {n : Int} (h1 : -2147483648 ≤ n) (h2 : n ≤ 2147483647) (hd : decode Y.2.1 pc.toNat = .ok (.iconst n, 1)) (hp : 0 ≤ pc) (k : J_ Y T0 P bc bs (pc + 1) ls (vI n :: st) T) : J_ Y T0 P bc bs pc ls (st) T :=
  j_pure (n := 1) (st' := vI n :: st) hp (fun h => ok_push (show ok_v T (vI n) from ⟨h1, h2⟩) h) (fun p l e R s m args below meth c H locs cells slots Q lsC ad hx hb ht ho hL hl k => lv_iconst hx hb hd rfl k) (by simpa using k)
theorem j_bipush {n : Int} (h1 : -128 ≤ n) (h2 : n ≤ 127) (hd : decode Y.2.1 pc.toNat = .ok (.bipush n, 2)) (hp : 0 ≤ pc) (k : J_ Y T0 P bc bs (pc + 2) ls (vI n :: st) T) : J_ Y T0 P bc bs pc ls (st) T :=
  j_pure (n := 2) (st' := vI n :: st) hp (fun h => ok_push (show ok_v T (vI n) from ⟨by omega, by omega⟩) h) (fun p l e R s m args below meth c H locs cells slots Q lsC ad hx hb ht ho hL hl k => lv_bipush hx hb hd (by apply Int32.toInt_inj.mp; rw [Int8.toInt_toInt32, Int8.toInt_ofInt_of_le (by omega) (by omega), i3_t (by omega) (by omega)]) k) (by simpa using k)
theorem j_sipush {n : Int} (h1 : -32768 ≤ n) (h2 : n ≤ 32767) (hd : decode Y.2.1 pc.toNat = .ok (.sipush n, 3)) (hp : 0 ≤ pc) (k : J_ Y T0 P bc bs (pc + 3) ls (vI n :: st) T) : J_ Y T0 P bc bs pc ls (st) T :=
  j_pure (n := 3) (st' := vI n :: st) hp (fun h => ok_push (show ok_v T (vI n) from ⟨by omega, by omega⟩) h) (fun p l e R s m args below meth c H locs cells slots Q lsC ad hx hb ht ho hL hl k => lv_sipush hx hb hd (by apply Int32.toInt_inj.mp; rw [Int16.toInt_toInt32, Int16.toInt_ofInt_of_le (by omega) (by omega), i3_t (by omega) (by omega)]) k) (by simpa using k)
theorem j_ldc {n : Int} {idx : Nat} (h1 : -2147483648 ≤ n) (h2 : n ≤ 2147483647) (hc : Cond.constant Y.1 idx (Int32.ofInt n) ∈ lw_g) (hd : decode Y.2.1 pc.toNat = .ok (.ldc idx, 2)) (hp : 0 ≤ pc) (k : J_ Y T0 P bc bs (pc + 2) ls (vI n :: st) T) : J_ Y T0 P bc bs pc ls (st) T :=
  j_pure (n := 2) (st' := vI n :: st) hp (fun h => ok_push (show ok_v T (vI n) from ⟨h1, h2⟩) h) (fun p l e R s m args below meth c H locs cells slots Q lsC ad hx hb ht ho hL hl k => lv_ldc hx hb ho (ht _ hc) hd k) (by simpa using k)
theorem j_ldcw {n : Int} {idx : Nat} (h1 : -2147483648 ≤ n) (h2 : n ≤ 2147483647) (hc : Cond.constant Y.1 idx (Int32.ofInt n) ∈ lw_g) (hd : decode Y.2.1 pc.toNat = .ok (.ldc_w idx, 3)) (hp : 0 ≤ pc) (k : J_ Y T0 P bc bs (pc + 3) ls (vI n :: st) T) : J_ Y T0 P bc bs pc ls (st) T :=
  j_pure (n := 3) (st' := vI n :: st) hp (fun h => ok_push (show ok_v T (vI n) from ⟨h1, h2⟩) h) (fun p l e R s m args below meth c H locs cells slots Q lsC ad hx hb ht ho hL hl k => lv_ldcw hx hb ho (ht _ hc) hd k) (by simpa using k)
theorem j_ldc2 {n : Int} {idx : Nat} (h1 : -9223372036854775808 ≤ n) (h2 : n ≤ 9223372036854775807) (hc : Cond.constantLong Y.1 idx (Int64.ofInt n) ∈ lw_g) (hd : decode Y.2.1 pc.toNat = .ok (.ldc2_w idx, 3)) (hp : 0 ≤ pc) (k : J_ Y T0 P bc bs (pc + 3) ls (vL n :: st) T) : J_ Y T0 P bc bs pc ls (st) T :=
  j_pure (n := 3) (st' := vL n :: st) hp (fun h => ok_push (show ok_v T (vL n) from ⟨h1, h2⟩) h) (fun p l e R s m args below meth c H locs cells slots Q lsC ad hx hb ht ho hL hl k => lv_ldc2 hx hb ho (ht _ hc) hd k) (by simpa using k)
theorem j_lconst {n : Fin 2} (hd : decode Y.2.1 pc.toNat = .ok (.lconst n, 1)) (hp : 0 ≤ pc) (k : J_ Y T0 P bc bs (pc + 1) ls (vL ((n : Nat) : Int) :: st) T) : J_ Y T0 P bc bs pc ls (st) T :=
  j_pure (n := 1) (st' := vL ((n : Nat) : Int) :: st) hp (fun h => ok_push (show ok_v T (vL ((n : Nat) : Int)) from ⟨by have := n.isLt; omega, by have := n.isLt; omega⟩) h) (fun p l e R s m args below meth c H locs cells slots Q lsC ad hx hb ht ho hL hl k => lv_lconst (v := Int64.ofInt ((n : Nat) : Int)) hx hb hd (by rw [Int64.ofInt_eq_ofNat]) k) (by simpa using k)
theorem j_iload {i : Nat} {x : Int} (hi : ls[i]? = some (some (vI x))) (hd : decode Y.2.1 pc.toNat = .ok (.iload i, 2)) (hp : 0 ≤ pc) (k : J_ Y T0 P bc bs (pc + 2) ls (vI x :: st) T) : J_ Y T0 P bc bs pc ls (st) T :=
  j_pure (n := 2) (st' := vI x :: st) hp (fun h => ok_push (h.1 _ _ hi) h) (fun p l e R s m args below meth c H locs cells slots Q lsC ad hx hb ht ho hL hl k => lv_iload hx hb hd (lp_read hl hi) k) (by simpa using k)
theorem j_iload_n {i : Fin 4} {x : Int} (hi : ls[(i : Nat)]? = some (some (vI x))) (hd : decode Y.2.1 pc.toNat = .ok (.iload_n i, 1)) (hp : 0 ≤ pc) (k : J_ Y T0 P bc bs (pc + 1) ls (vI x :: st) T) : J_ Y T0 P bc bs pc ls (st) T :=
  j_pure (n := 1) (st' := vI x :: st) hp (fun h => ok_push (h.1 _ _ hi) h) (fun p l e R s m args below meth c H locs cells slots Q lsC ad hx hb ht ho hL hl k => lv_iload_n hx hb hd rfl (lp_read hl hi) k) (by simpa using k)
theorem j_lload {i : Nat} {x : Int} (hi : ls[i]? = some (some (vL x))) (hd : decode Y.2.1 pc.toNat = .ok (.lload i, 2)) (hp : 0 ≤ pc) (k : J_ Y T0 P bc bs (pc + 2) ls (vL x :: st) T) : J_ Y T0 P bc bs pc ls (st) T :=
  j_pure (n := 2) (st' := vL x :: st) hp (fun h => ok_push (h.1 _ _ hi) h) (fun p l e R s m args below meth c H locs cells slots Q lsC ad hx hb ht ho hL hl k => lv_lload hx hb hd (lp_read hl hi) k) (by simpa using k)
theorem j_lload_n {i : Fin 4} {x : Int} (hi : ls[(i : Nat)]? = some (some (vL x))) (hd : decode Y.2.1 pc.toNat = .ok (.lload_n i, 1)) (hp : 0 ≤ pc) (k : J_ Y T0 P bc bs (pc + 1) ls (vL x :: st) T) : J_ Y T0 P bc bs pc ls (st) T :=
  j_pure (n := 1) (st' := vL x :: st) hp (fun h => ok_push (h.1 _ _ hi) h) (fun p l e R s m args below meth c H locs cells slots Q lsC ad hx hb ht ho hL hl k => lv_lload_n hx hb hd rfl (lp_read hl hi) k) (by simpa using k)
theorem j_aload {i : Nat} {q : Option (Nat × Int)} (hi : ls[i]? = some (some (.inr (.inr q)))) (hd : decode Y.2.1 pc.toNat = .ok (.aload i, 2)) (hp : 0 ≤ pc) (k : J_ Y T0 P bc bs (pc + 2) ls (.inr (.inr q) :: st) T) : J_ Y T0 P bc bs pc ls (st) T :=
  j_pure (n := 2) (st' := .inr (.inr q) :: st) hp (fun h => ok_push (h.1 _ _ hi) h) (fun p l e R s m args below meth c H locs cells slots Q lsC ad hx hb ht ho hL hl k => by
    rcases q with _ | ⟨kk, ii⟩
    · exact lv_aloadN hx hb hd (lp_read hl hi) k
    · exact lv_aload hx hb hd (lp_read hl hi) k) (by simpa using k)
theorem j_aload_n {i : Fin 4} {q : Option (Nat × Int)} (hi : ls[(i : Nat)]? = some (some (.inr (.inr q)))) (hd : decode Y.2.1 pc.toNat = .ok (.aload_n i, 1)) (hp : 0 ≤ pc) (k : J_ Y T0 P bc bs (pc + 1) ls (.inr (.inr q) :: st) T) : J_ Y T0 P bc bs pc ls (st) T :=
  j_pure (n := 1) (st' := .inr (.inr q) :: st) hp (fun h => ok_push (h.1 _ _ hi) h) (fun p l e R s m args below meth c H locs cells slots Q lsC ad hx hb ht ho hL hl k => by
    rcases q with _ | ⟨kk, ii⟩
    · exact lv_aload_nN hx hb hd rfl (lp_read hl hi) k
    · exact lv_aload_n hx hb hd rfl (lp_read hl hi) k) (by simpa using k)
theorem j_iadd {x y : Int} (h1 : -2147483648 ≤ x + y) (h2 : x + y ≤ 2147483647) (hd : decode Y.2.1 pc.toNat = .ok (.iadd, 1)) (hp : 0 ≤ pc) (k : J_ Y T0 P bc bs (pc + 1) ls (vI (x + y) :: st) T) : J_ Y T0 P bc bs pc ls (vI y :: vI x :: st) T :=
  j_pure (n := 1) (st' := vI (x + y) :: st) hp (fun h => ok_push (show ok_v T (vI (x + y)) from ⟨h1, h2⟩) (ok_tail (ok_tail h))) (fun p l e R s m args below meth c H locs cells slots Q lsC ad hx hb ht ho hL hl k => lv_iadd hx hb hd (by simpa [en_v, Int32.ofInt_add] using k)) (by simpa using k)
theorem j_iaddw {x y : Int} (hd : decode Y.2.1 pc.toNat = .ok (.iadd, 1)) (hp : 0 ≤ pc) (k : J_ Y T0 P bc bs (pc + 1) ls (vI (wr_ (x + y)) :: st) T) : J_ Y T0 P bc bs pc ls (vI y :: vI x :: st) T :=
  j_pure (n := 1) (st' := vI (wr_ (x + y)) :: st) hp (fun h => ok_push (show ok_v T (vI (wr_ (x + y))) from wr_r _) (ok_tail (ok_tail h))) (fun p l e R s m args below meth c H locs cells slots Q lsC ad hx hb ht ho hL hl k => lv_iadd hx hb hd (by simpa [en_v, wr_ofInt, Int32.ofInt_add] using k)) (by simpa using k)
theorem j_isub {x y : Int} (h1 : -2147483648 ≤ x - y) (h2 : x - y ≤ 2147483647) (hd : decode Y.2.1 pc.toNat = .ok (.isub, 1)) (hp : 0 ≤ pc) (k : J_ Y T0 P bc bs (pc + 1) ls (vI (x - y) :: st) T) : J_ Y T0 P bc bs pc ls (vI y :: vI x :: st) T :=
  j_pure (n := 1) (st' := vI (x - y) :: st) hp (fun h => ok_push (show ok_v T (vI (x - y)) from ⟨h1, h2⟩) (ok_tail (ok_tail h))) (fun p l e R s m args below meth c H locs cells slots Q lsC ad hx hb ht ho hL hl k => lv_isub hx hb hd (by simpa [en_v, Int32.ofInt_sub] using k)) (by simpa using k)
theorem j_isubw {x y : Int} (hd : decode Y.2.1 pc.toNat = .ok (.isub, 1)) (hp : 0 ≤ pc) (k : J_ Y T0 P bc bs (pc + 1) ls (vI (wr_ (x - y)) :: st) T) : J_ Y T0 P bc bs pc ls (vI y :: vI x :: st) T :=
  j_pure (n := 1) (st' := vI (wr_ (x - y)) :: st) hp (fun h => ok_push (show ok_v T (vI (wr_ (x - y))) from wr_r _) (ok_tail (ok_tail h))) (fun p l e R s m args below meth c H locs cells slots Q lsC ad hx hb ht ho hL hl k => lv_isub hx hb hd (by simpa [en_v, wr_ofInt, Int32.ofInt_sub] using k)) (by simpa using k)
theorem j_imul {x y : Int} (h1 : -2147483648 ≤ x * y) (h2 : x * y ≤ 2147483647) (hd : decode Y.2.1 pc.toNat = .ok (.imul, 1)) (hp : 0 ≤ pc) (k : J_ Y T0 P bc bs (pc + 1) ls (vI (x * y) :: st) T) : J_ Y T0 P bc bs pc ls (vI y :: vI x :: st) T :=
  j_pure (n := 1) (st' := vI (x * y) :: st) hp (fun h => ok_push (show ok_v T (vI (x * y)) from ⟨h1, h2⟩) (ok_tail (ok_tail h))) (fun p l e R s m args below meth c H locs cells slots Q lsC ad hx hb ht ho hL hl k => lv_imul hx hb hd (by simpa [en_v, Int32.ofInt_mul] using k)) (by simpa using k)
theorem j_imulw {x y : Int} (hd : decode Y.2.1 pc.toNat = .ok (.imul, 1)) (hp : 0 ≤ pc) (k : J_ Y T0 P bc bs (pc + 1) ls (vI (wr_ (x * y)) :: st) T) : J_ Y T0 P bc bs pc ls (vI y :: vI x :: st) T :=
  j_pure (n := 1) (st' := vI (wr_ (x * y)) :: st) hp (fun h => ok_push (show ok_v T (vI (wr_ (x * y))) from wr_r _) (ok_tail (ok_tail h))) (fun p l e R s m args below meth c H locs cells slots Q lsC ad hx hb ht ho hL hl k => lv_imul hx hb hd (by simpa [en_v, wr_ofInt, Int32.ofInt_mul] using k)) (by simpa using k)
theorem j_ineg {x : Int} (h1 : -2147483648 ≤ -x) (h2 : -x ≤ 2147483647) (hd : decode Y.2.1 pc.toNat = .ok (.ineg, 1)) (hp : 0 ≤ pc) (k : J_ Y T0 P bc bs (pc + 1) ls (vI (-x) :: st) T) : J_ Y T0 P bc bs pc ls (vI x :: st) T :=
  j_pure (n := 1) (st' := vI (-x) :: st) hp (fun h => ok_push (show ok_v T (vI (-x)) from ⟨h1, h2⟩) (ok_tail h)) (fun p l e R s m args below meth c H locs cells slots Q lsC ad hx hb ht ho hL hl k => lv_ineg hx hb hd (by simpa [en_v, Int32.ofInt_neg] using k)) (by simpa using k)
theorem j_inegw {x : Int} (hd : decode Y.2.1 pc.toNat = .ok (.ineg, 1)) (hp : 0 ≤ pc) (k : J_ Y T0 P bc bs (pc + 1) ls (vI (wr_ (-x)) :: st) T) : J_ Y T0 P bc bs pc ls (vI x :: st) T :=
  j_pure (n := 1) (st' := vI (wr_ (-x)) :: st) hp (fun h => ok_push (show ok_v T (vI (wr_ (-x))) from wr_r _) (ok_tail h)) (fun p l e R s m args below meth c H locs cells slots Q lsC ad hx hb ht ho hL hl k => lv_ineg hx hb hd (by simpa [en_v, wr_ofInt, Int32.ofInt_neg] using k)) (by simpa using k)
theorem dv_r {x y : Int} (h1 : 0 ≤ x) (h2 : 0 < y) : 0 ≤ x / y ∧ x / y ≤ x := ⟨Int.ediv_nonneg h1 (Int.le_of_lt h2), Int.ediv_le_self _ h1⟩
theorem rm_r {x y : Int} (h1 : 0 ≤ x) (h2 : 0 < y) : 0 ≤ x % y ∧ x % y ≤ x ∧ x % y < y := ⟨Int.emod_nonneg _ (by omega), by have := Int.ediv_mul_add_emod x y; have h := Int.mul_nonneg (Int.ediv_nonneg h1 (Int.le_of_lt h2)) (Int.le_of_lt h2); omega, Int.emod_lt_of_pos _ h2⟩
theorem j_idiv {x y : Int} (h1 : 0 ≤ x) (h2 : 0 < y) (hd : decode Y.2.1 pc.toNat = .ok (.idiv, 1)) (hp : 0 ≤ pc) (k : J_ Y T0 P bc bs (pc + 1) ls (vI (x / y) :: st) T) : J_ Y T0 P bc bs pc ls (vI y :: vI x :: st) T :=
  j_pure (n := 1) (st' := vI (x / y) :: st) hp (fun h => ok_push (show ok_v T (vI (x / y)) from by have a : -2147483648 ≤ x ∧ x ≤ 2147483647 := ok_head (ok_tail h); have b := dv_r h1 h2; exact ⟨by omega, by omega⟩) (ok_tail (ok_tail h))) (fun p l e R s m args below meth c H locs cells slots Q lsC ad hx hb ht ho hL hl k => by
    have a : -2147483648 ≤ x ∧ x ≤ 2147483647 := ok_head (ok_tail hL)
    have b : -2147483648 ≤ y ∧ y ≤ 2147483647 := ok_head hL
    exact lv_idiv hx hb hd (i3_ne h2 b.2) (by simpa [en_v, i3_div h1 a.2 h2 b.2] using k)) (by simpa using k)
theorem j_iremq {x y : Int} (h2 : 0 < y) (hd : decode Y.2.1 pc.toNat = .ok (.irem, 1)) (hp : 0 ≤ pc) (k : J_ Y T0 P bc bs (pc + 1) ls (vI (dr_ x y) :: st) T) : J_ Y T0 P bc bs pc ls (vI y :: vI x :: st) T :=
  j_pure (n := 1) (st' := vI (dr_ x y) :: st) hp (fun h => ok_push (show ok_v T (vI (dr_ x y)) from i3_r _) (ok_tail (ok_tail h))) (fun p l e R s m args below meth c H locs cells slots Q lsC ad hx hb ht ho hL hl k => by
    have b : -2147483648 ≤ y ∧ y ≤ 2147483647 := ok_head hL
    exact lv_irem hx hb hd (i3_ne h2 b.2) (by simpa only [en_v, dr_, List.map_cons, Int32.ofInt_toInt] using k)) (by simpa using k)
theorem j_idivq {x y : Int} (h2 : 0 < y) (hd : decode Y.2.1 pc.toNat = .ok (.idiv, 1)) (hp : 0 ≤ pc) (k : J_ Y T0 P bc bs (pc + 1) ls (vI (dq_ x y) :: st) T) : J_ Y T0 P bc bs pc ls (vI y :: vI x :: st) T :=
  j_pure (n := 1) (st' := vI (dq_ x y) :: st) hp (fun h => ok_push (show ok_v T (vI (dq_ x y)) from i3_r _) (ok_tail (ok_tail h))) (fun p l e R s m args below meth c H locs cells slots Q lsC ad hx hb ht ho hL hl k => by
    have b : -2147483648 ≤ y ∧ y ≤ 2147483647 := ok_head hL
    exact lv_idiv hx hb hd (i3_ne h2 b.2) (by simpa only [en_v, dq_, List.map_cons, Int32.ofInt_toInt] using k)) (by simpa using k)
theorem j_irem {x y : Int} (h1 : 0 ≤ x) (h2 : 0 < y) (hd : decode Y.2.1 pc.toNat = .ok (.irem, 1)) (hp : 0 ≤ pc) (k : J_ Y T0 P bc bs (pc + 1) ls (vI (x % y) :: st) T) : J_ Y T0 P bc bs pc ls (vI y :: vI x :: st) T :=
  j_pure (n := 1) (st' := vI (x % y) :: st) hp (fun h => ok_push (show ok_v T (vI (x % y)) from by have a : -2147483648 ≤ x ∧ x ≤ 2147483647 := ok_head (ok_tail h); have b := rm_r h1 h2; exact ⟨by omega, by omega⟩) (ok_tail (ok_tail h))) (fun p l e R s m args below meth c H locs cells slots Q lsC ad hx hb ht ho hL hl k => by
    have a : -2147483648 ≤ x ∧ x ≤ 2147483647 := ok_head (ok_tail hL)
    have b : -2147483648 ≤ y ∧ y ≤ 2147483647 := ok_head hL
    exact lv_irem hx hb hd (i3_ne h2 b.2) (by simpa [en_v, i3_rem h1 a.2 h2 b.2] using k)) (by simpa using k)
theorem j_iand {x y : Int} (hd : decode Y.2.1 pc.toNat = .ok (.iand, 1)) (hp : 0 ≤ pc) (k : J_ Y T0 P bc bs (pc + 1) ls (vI (an_ x y) :: st) T) : J_ Y T0 P bc bs pc ls (vI y :: vI x :: st) T :=
  j_pure (n := 1) (st' := vI (an_ x y) :: st) hp (fun h => ok_push (show ok_v T (vI (an_ x y)) from i3_r _) (ok_tail (ok_tail h))) (fun p l e R s m args below meth c H locs cells slots Q lsC ad hx hb ht ho hL hl k => lv_iand hx hb hd (by simpa [en_v, an_] using k)) (by simpa using k)
theorem j_ior {x y : Int} (hd : decode Y.2.1 pc.toNat = .ok (.ior, 1)) (hp : 0 ≤ pc) (k : J_ Y T0 P bc bs (pc + 1) ls (vI (or_ x y) :: st) T) : J_ Y T0 P bc bs pc ls (vI y :: vI x :: st) T :=
  j_pure (n := 1) (st' := vI (or_ x y) :: st) hp (fun h => ok_push (show ok_v T (vI (or_ x y)) from i3_r _) (ok_tail (ok_tail h))) (fun p l e R s m args below meth c H locs cells slots Q lsC ad hx hb ht ho hL hl k => lv_ior hx hb hd (by simpa [en_v, or_] using k)) (by simpa using k)
theorem j_ixor {x y : Int} (hd : decode Y.2.1 pc.toNat = .ok (.ixor, 1)) (hp : 0 ≤ pc) (k : J_ Y T0 P bc bs (pc + 1) ls (vI (xo_ x y) :: st) T) : J_ Y T0 P bc bs pc ls (vI y :: vI x :: st) T :=
  j_pure (n := 1) (st' := vI (xo_ x y) :: st) hp (fun h => ok_push (show ok_v T (vI (xo_ x y)) from i3_r _) (ok_tail (ok_tail h))) (fun p l e R s m args below meth c H locs cells slots Q lsC ad hx hb ht ho hL hl k => lv_ixor hx hb hd (by simpa [en_v, xo_] using k)) (by simpa using k)
theorem j_ishl {x y : Int} (hd : decode Y.2.1 pc.toNat = .ok (.ishl, 1)) (hp : 0 ≤ pc) (k : J_ Y T0 P bc bs (pc + 1) ls (vI (sl_ x y) :: st) T) : J_ Y T0 P bc bs pc ls (vI y :: vI x :: st) T :=
  j_pure (n := 1) (st' := vI (sl_ x y) :: st) hp (fun h => ok_push (show ok_v T (vI (sl_ x y)) from i3_r _) (ok_tail (ok_tail h))) (fun p l e R s m args below meth c H locs cells slots Q lsC ad hx hb ht ho hL hl k => lv_ishl hx hb hd (by simpa [en_v, sl_] using k)) (by simpa using k)
theorem j_ishr {x y : Int} (hd : decode Y.2.1 pc.toNat = .ok (.ishr, 1)) (hp : 0 ≤ pc) (k : J_ Y T0 P bc bs (pc + 1) ls (vI (sr_ x y) :: st) T) : J_ Y T0 P bc bs pc ls (vI y :: vI x :: st) T :=
  j_pure (n := 1) (st' := vI (sr_ x y) :: st) hp (fun h => ok_push (show ok_v T (vI (sr_ x y)) from i3_r _) (ok_tail (ok_tail h))) (fun p l e R s m args below meth c H locs cells slots Q lsC ad hx hb ht ho hL hl k => lv_ishr hx hb hd (by simpa [en_v, sr_] using k)) (by simpa using k)
theorem j_iushr {x y : Int} (hd : decode Y.2.1 pc.toNat = .ok (.iushr, 1)) (hp : 0 ≤ pc) (k : J_ Y T0 P bc bs (pc + 1) ls (vI (us_ x y) :: st) T) : J_ Y T0 P bc bs pc ls (vI y :: vI x :: st) T :=
  j_pure (n := 1) (st' := vI (us_ x y) :: st) hp (fun h => ok_push (show ok_v T (vI (us_ x y)) from i3_r _) (ok_tail (ok_tail h))) (fun p l e R s m args below meth c H locs cells slots Q lsC ad hx hb ht ho hL hl k => lv_iushr hx hb hd rfl (by simpa only [en_v, us_, List.map_cons, Int32.ofInt_toInt] using k)) (by simpa using k)
theorem j_i2l {x : Int} (hd : decode Y.2.1 pc.toNat = .ok (.i2l, 1)) (hp : 0 ≤ pc) (k : J_ Y T0 P bc bs (pc + 1) ls (vL x :: st) T) : J_ Y T0 P bc bs pc ls (vI x :: st) T :=
  j_pure (n := 1) (st' := vL x :: st) hp (fun h => ok_push (show ok_v T (vL x) from by have a : -2147483648 ≤ x ∧ x ≤ 2147483647 := ok_head h; exact ⟨by omega, by omega⟩) (ok_tail h)) (fun p l e R s m args below meth c H locs cells slots Q lsC ad hx hb ht ho hL hl k => lv_i2l hx hb hd (i3_l (ok_head hL)) k) (by simpa using k)
theorem j_l2i {x : Int} (h1 : -2147483648 ≤ x) (h2 : x ≤ 2147483647) (hd : decode Y.2.1 pc.toNat = .ok (.l2i, 1)) (hp : 0 ≤ pc) (k : J_ Y T0 P bc bs (pc + 1) ls (vI x :: st) T) : J_ Y T0 P bc bs pc ls (vL x :: st) T :=
  j_pure (n := 1) (st' := vI x :: st) hp (fun h => ok_push (show ok_v T (vI x) from ⟨h1, h2⟩) (ok_tail h)) (fun p l e R s m args below meth c H locs cells slots Q lsC ad hx hb ht ho hL hl k => lv_l2i hx hb hd (i6_i ⟨h1, h2⟩) k) (by simpa using k)
theorem j_laddw {x y : Int} (hd : decode Y.2.1 pc.toNat = .ok (.ladd, 1)) (hp : 0 ≤ pc) (k : J_ Y T0 P bc bs (pc + 1) ls (vL (wq_ (x + y)) :: st) T) : J_ Y T0 P bc bs pc ls (vL y :: vL x :: st) T :=
  j_pure (n := 1) (st' := vL (wq_ (x + y)) :: st) hp (fun h => ok_push (show ok_v T (vL (wq_ (x + y))) from wq_r _) (ok_tail (ok_tail h))) (fun p l e R s m args below meth c H locs cells slots Q lsC ad hx hb ht ho hL hl k => lv_ladd hx hb hd (by simpa [en_v, wq_ofInt, Int64.ofInt_add] using k)) (by simpa using k)
theorem j_ladd {x y : Int} (h1 : -9223372036854775808 ≤ x + y) (h2 : x + y ≤ 9223372036854775807) (hd : decode Y.2.1 pc.toNat = .ok (.ladd, 1)) (hp : 0 ≤ pc) (k : J_ Y T0 P bc bs (pc + 1) ls (vL (x + y) :: st) T) : J_ Y T0 P bc bs pc ls (vL y :: vL x :: st) T :=
  j_pure (n := 1) (st' := vL (x + y) :: st) hp (fun h => ok_push (show ok_v T (vL (x + y)) from ⟨h1, h2⟩) (ok_tail (ok_tail h))) (fun p l e R s m args below meth c H locs cells slots Q lsC ad hx hb ht ho hL hl k => lv_ladd hx hb hd (by simpa [en_v, Int64.ofInt_add] using k)) (by simpa using k)
theorem j_lsubw {x y : Int} (hd : decode Y.2.1 pc.toNat = .ok (.lsub, 1)) (hp : 0 ≤ pc) (k : J_ Y T0 P bc bs (pc + 1) ls (vL (wq_ (x - y)) :: st) T) : J_ Y T0 P bc bs pc ls (vL y :: vL x :: st) T :=
  j_pure (n := 1) (st' := vL (wq_ (x - y)) :: st) hp (fun h => ok_push (show ok_v T (vL (wq_ (x - y))) from wq_r _) (ok_tail (ok_tail h))) (fun p l e R s m args below meth c H locs cells slots Q lsC ad hx hb ht ho hL hl k => lv_lsub hx hb hd (by simpa [en_v, wq_ofInt, Int64.ofInt_sub] using k)) (by simpa using k)
theorem j_lsub {x y : Int} (h1 : -9223372036854775808 ≤ x - y) (h2 : x - y ≤ 9223372036854775807) (hd : decode Y.2.1 pc.toNat = .ok (.lsub, 1)) (hp : 0 ≤ pc) (k : J_ Y T0 P bc bs (pc + 1) ls (vL (x - y) :: st) T) : J_ Y T0 P bc bs pc ls (vL y :: vL x :: st) T :=
  j_pure (n := 1) (st' := vL (x - y) :: st) hp (fun h => ok_push (show ok_v T (vL (x - y)) from ⟨h1, h2⟩) (ok_tail (ok_tail h))) (fun p l e R s m args below meth c H locs cells slots Q lsC ad hx hb ht ho hL hl k => lv_lsub hx hb hd (by simpa [en_v, Int64.ofInt_sub] using k)) (by simpa using k)
theorem j_lmulw {x y : Int} (hd : decode Y.2.1 pc.toNat = .ok (.lmul, 1)) (hp : 0 ≤ pc) (k : J_ Y T0 P bc bs (pc + 1) ls (vL (wq_ (x * y)) :: st) T) : J_ Y T0 P bc bs pc ls (vL y :: vL x :: st) T :=
  j_pure (n := 1) (st' := vL (wq_ (x * y)) :: st) hp (fun h => ok_push (show ok_v T (vL (wq_ (x * y))) from wq_r _) (ok_tail (ok_tail h))) (fun p l e R s m args below meth c H locs cells slots Q lsC ad hx hb ht ho hL hl k => lv_lmul hx hb hd (by simpa [en_v, wq_ofInt, Int64.ofInt_mul] using k)) (by simpa using k)
theorem j_lmul {x y : Int} (h1 : -9223372036854775808 ≤ x * y) (h2 : x * y ≤ 9223372036854775807) (hd : decode Y.2.1 pc.toNat = .ok (.lmul, 1)) (hp : 0 ≤ pc) (k : J_ Y T0 P bc bs (pc + 1) ls (vL (x * y) :: st) T) : J_ Y T0 P bc bs pc ls (vL y :: vL x :: st) T :=
  j_pure (n := 1) (st' := vL (x * y) :: st) hp (fun h => ok_push (show ok_v T (vL (x * y)) from ⟨h1, h2⟩) (ok_tail (ok_tail h))) (fun p l e R s m args below meth c H locs cells slots Q lsC ad hx hb ht ho hL hl k => lv_lmul hx hb hd (by simpa [en_v, Int64.ofInt_mul] using k)) (by simpa using k)
theorem j_lrem {x y : Int} (h1 : 0 ≤ x) (h2 : 0 < y) (hd : decode Y.2.1 pc.toNat = .ok (.lrem, 1)) (hp : 0 ≤ pc) (k : J_ Y T0 P bc bs (pc + 1) ls (vL (x % y) :: st) T) : J_ Y T0 P bc bs pc ls (vL y :: vL x :: st) T :=
  j_pure (n := 1) (st' := vL (x % y) :: st) hp (fun h => ok_push (show ok_v T (vL (x % y)) from by have a : -9223372036854775808 ≤ x ∧ x ≤ 9223372036854775807 := ok_head (ok_tail h); have b := rm_r h1 h2; exact ⟨by omega, by omega⟩) (ok_tail (ok_tail h))) (fun p l e R s m args below meth c H locs cells slots Q lsC ad hx hb ht ho hL hl k => by
    have a : -9223372036854775808 ≤ x ∧ x ≤ 9223372036854775807 := ok_head (ok_tail hL)
    have b : -9223372036854775808 ≤ y ∧ y ≤ 9223372036854775807 := ok_head hL
    exact lv_lrem hx hb hd (i6_ne h2 b.2) (by simpa [en_v, i6_rem h1 a.2 h2 b.2] using k)) (by simpa using k)
theorem j_lcmp {x y : Int} (hd : decode Y.2.1 pc.toNat = .ok (.lcmp, 1)) (hp : 0 ≤ pc) (k : J_ Y T0 P bc bs (pc + 1) ls (vI (if x < y then -1 else if x = y then 0 else 1) :: st) T) : J_ Y T0 P bc bs pc ls (vL y :: vL x :: st) T :=
  j_pure (n := 1) (st' := vI (if x < y then -1 else if x = y then 0 else 1) :: st) hp (fun h => ok_push (show ok_v T (vI _) from ⟨by split <;> (try split) <;> omega, by split <;> (try split) <;> omega⟩) (ok_tail (ok_tail h))) (fun p l e R s m args below meth c H locs cells slots Q lsC ad hx hb ht ho hL hl k => W.lcmp hx hb hd (by rw [i6_cmp (ok_head (ok_tail hL)) (ok_head hL)]; exact k)) (by simpa using k)
theorem j_dupi {x : Int} (hd : decode Y.2.1 pc.toNat = .ok (.dup, 1)) (hp : 0 ≤ pc) (k : J_ Y T0 P bc bs (pc + 1) ls (vI x :: vI x :: st) T) : J_ Y T0 P bc bs pc ls (vI x :: st) T :=
  j_pure (n := 1) (st' := vI x :: vI x :: st) hp (fun h => ok_push (ok_head h) h) (fun p l e R s m args below meth c H locs cells slots Q lsC ad hx hb ht ho hL hl k => lv_dup hx hb hd rfl k) (by simpa using k)
theorem j_dupr {q : Option (Nat × Int)} (hd : decode Y.2.1 pc.toNat = .ok (.dup, 1)) (hp : 0 ≤ pc) (k : J_ Y T0 P bc bs (pc + 1) ls (.inr (.inr q) :: .inr (.inr q) :: st) T) : J_ Y T0 P bc bs pc ls (.inr (.inr q) :: st) T :=
  j_pure (n := 1) (st' := .inr (.inr q) :: .inr (.inr q) :: st) hp (fun h => ok_push (ok_head h) h) (fun p l e R s m args below meth c H locs cells slots Q lsC ad hx hb ht ho hL hl k => lv_dup hx hb hd (by rcases q with _ | ⟨kk, ii⟩ <;> rfl) k) (by simpa using k)
theorem j_dup2 {y : Int} {q : Option (Nat × Int)} (hd : decode Y.2.1 pc.toNat = .ok (.dup2, 1)) (hp : 0 ≤ pc) (k : J_ Y T0 P bc bs (pc + 1) ls (vI y :: .inr (.inr q) :: vI y :: .inr (.inr q) :: st) T) : J_ Y T0 P bc bs pc ls (vI y :: .inr (.inr q) :: st) T :=
  j_pure (n := 1) (st' := vI y :: .inr (.inr q) :: vI y :: .inr (.inr q) :: st) hp (fun h => ok_push (ok_head h) (ok_push (ok_head (ok_tail h)) h)) (fun p l e R s m args below meth c H locs cells slots Q lsC ad hx hb ht ho hL hl k => lv_dup2_11 hx hb hd rfl (by rcases q with _ | ⟨kk, ii⟩ <;> rfl) k) (by simpa using k)
theorem j_popi {x : Int} (hd : decode Y.2.1 pc.toNat = .ok (.pop, 1)) (hp : 0 ≤ pc) (k : J_ Y T0 P bc bs (pc + 1) ls (st) T) : J_ Y T0 P bc bs pc ls (vI x :: st) T :=
  j_pure (n := 1) (st' := st) hp (fun h => ok_tail h) (fun p l e R s m args below meth c H locs cells slots Q lsC ad hx hb ht ho hL hl k => lv_pop hx hb hd rfl k) (by simpa using k)
theorem j_popr {q : Option (Nat × Int)} (hd : decode Y.2.1 pc.toNat = .ok (.pop, 1)) (hp : 0 ≤ pc) (k : J_ Y T0 P bc bs (pc + 1) ls (st) T) : J_ Y T0 P bc bs pc ls (.inr (.inr q) :: st) T :=
  j_pure (n := 1) (st' := st) hp (fun h => ok_tail h) (fun p l e R s m args below meth c H locs cells slots Q lsC ad hx hb ht ho hL hl k => lv_pop hx hb hd (by rcases q with _ | ⟨kk, ii⟩ <;> rfl) k) (by simpa using k)
end JR
