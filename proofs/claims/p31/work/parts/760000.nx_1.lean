def tz2 (a : Nat) : Bool := Nat.beq a 0 || ((List.range 12).any fun x => Nat.beq ((a ^^^ 4294967295) &&& (a - 1)) (2 ^ x - 1) && Nat.testBit a x)
theorem tz_a : ∀ i, i < 64 → ∀ j, j < 64 → tz2 (64 * i + j) = true := by decide +kernel
theorem tz_0 {a : Int} (h : 1 ≤ a) : Nat.beq a.toNat 0 = false := by
  cases z : Nat.beq a.toNat 0
  · rfl
  · have := Nat.eq_of_beq_eq_true z
    omega
theorem tz_x {a : Int} (h : 1 ≤ a ∧ a ≤ 4095) : an_ (xo_ a (-1)) (a - 1) = (((a.toNat ^^^ 4294967295) &&& (a.toNat - 1) : Nat) : Int) := by
  have m1 : (Int32.ofInt (-1)).toBitVec.toNat = 4294967295 := by decide +kernel
  have m2 : (a - 1).toNat = a.toNat - 1 := by omega
  have e : (((Int32.ofInt a).toBitVec ^^^ (Int32.ofInt (-1)).toBitVec) &&& (Int32.ofInt (a - 1)).toBitVec).toNat = (a.toNat ^^^ 4294967295) &&& (a.toNat - 1) := by
    rw [BitVec.toNat_and, BitVec.toNat_xor, i3_n (x := a) ⟨by omega, by omega⟩, i3_n (x := a - 1) ⟨by omega, by omega⟩, m1, m2]
  have l : (a.toNat ^^^ 4294967295) &&& (a.toNat - 1) ≤ a.toNat - 1 := Nat.and_le_right
  show (Int32.ofInt ((Int32.ofInt a ^^^ Int32.ofInt (-1)).toInt) &&& Int32.ofInt (a - 1)).toInt = _
  rw [Int32.ofInt_toInt]
  show (((Int32.ofInt a).toBitVec ^^^ (Int32.ofInt (-1)).toBitVec) &&& (Int32.ofInt (a - 1)).toBitVec).toInt = _
  rw [bv_i (by rw [e]; exact Nat.lt_of_le_of_lt l (by omega)), e]
theorem us_m9 {v k : Int} {m : Nat} (h : 0 ≤ v ∧ v ≤ 2047) (hk : ((Int32.ofInt k).toUInt32 &&& Int32.toUInt32 31).toNat % 32 = m) : us_ v k = ((v.toNat >>> m : Nat) : Int) := by
  have h0 : (Int32.ofInt v).toUInt32.toNat = v.toNat := i3_n ⟨h.1, by omega⟩
  have e : ((Int32.ofInt v).toUInt32 >>> ((Int32.ofInt k).toUInt32 &&& Int32.toUInt32 31)).toNat = v.toNat >>> m := by
    rw [UInt32.toNat_shiftRight, h0, hk]
  have l : v.toNat >>> m ≤ v.toNat := by rw [Nat.shiftRight_eq_div_pow]; exact Nat.div_le_self _ _
  have e2 : ((Int32.ofInt v).toUInt32 >>> ((Int32.ofInt k).toUInt32 &&& Int32.toUInt32 31)).toBitVec.toNat = v.toNat >>> m := e
  show ((Int32.ofInt v).toUInt32 >>> ((Int32.ofInt k).toUInt32 &&& Int32.toUInt32 31)).toBitVec.toInt = _
  rw [bv_i (by rw [e2]; exact Nat.lt_of_le_of_lt l (by omega)), e2]
def ne2 (d : Nat) : Bool := Nat.beq d 0 || !(Nat.beq ((4294967296 - d) &&& d) 0)
theorem ne_a : ∀ i, i < 64 → ∀ j, j < 64 → ne2 (64 * i + j) = true := by decide +kernel
theorem us_q {v : Int} (h : 0 ≤ v ∧ v ≤ 2047) : us_ v 8 = v / 256 ∧ us_ v 4 = v / 16 ∧ us_ v 2 = v / 4 ∧ us_ v 1 = v / 2 := by
  refine ⟨(us_m9 (m := 8) h (by decide +kernel)).trans ?_, (us_m9 (m := 4) h (by decide +kernel)).trans ?_, (us_m9 (m := 2) h (by decide +kernel)).trans ?_, (us_m9 (m := 1) h (by decide +kernel)).trans ?_⟩
  · rw [Nat.shiftRight_eq_div_pow]
    show ((v.toNat / 256 : Nat) : Int) = v / 256
    omega
  · rw [Nat.shiftRight_eq_div_pow]
    show ((v.toNat / 16 : Nat) : Int) = v / 16
    omega
  · rw [Nat.shiftRight_eq_div_pow]
    show ((v.toNat / 4 : Nat) : Int) = v / 4
    omega
  · rw [Nat.shiftRight_eq_div_pow]
    show ((v.toNat / 2 : Nat) : Int) = v / 2
    omega
/-- the zeros behind a number: its lowest bit -/
theorem tz_q {a : Int} (h : 1 ≤ a ∧ a ≤ 4095) : ∃ x : Nat, x < 12 ∧ an_ (xo_ a (-1)) (a - 1) = ((2 ^ x : Nat) : Int) - 1 ∧ an_ (sr_ a (x : Int)) 1 = 1 := by
  have h1 := tz_a (a.toNat / 64) (by omega) (a.toNat % 64) (by omega)
  rw [Nat.div_add_mod] at h1
  unfold tz2 at h1
  rw [tz_0 h.1, Bool.false_or, List.any_eq_true] at h1
  obtain ⟨x, a1, a2⟩ := h1
  simp only [Bool.and_eq_true] at a2
  have e1 := Nat.eq_of_beq_eq_true a2.1
  have a3 : x < 12 := List.mem_range.mp a1
  refine ⟨x, a3, ?_, ?_⟩
  · rw [tz_x h, e1]
    have q : ∀ y : Nat, 0 < y → ((y - 1 : Nat) : Int) = (y : Int) - 1 := fun y hy => by omega
    exact q _ (Nat.two_pow_pos x)
  · rw [bt_n (x := a) (k := (x : Int)) ⟨by omega, by omega⟩ ⟨by omega, by omega⟩]
    unfold bt_
    rw [show ((x : Nat) : Int).toNat = x by omega, if_pos a2.2]
theorem ne_q {d : Int} (h : 1 ≤ d ∧ d ≤ 4095) : an_ (-d) d ≠ 0 := by
  have h1 := ne_a (d.toNat / 64) (by omega) (d.toNat % 64) (by omega)
  rw [Nat.div_add_mod] at h1
  have m1 : (Int32.ofInt (-d)).toBitVec.toNat = 4294967296 - d.toNat := by
    show (BitVec.ofInt 32 (-d)).toNat = _
    rw [BitVec.toNat_ofInt]; omega
  have e : ((Int32.ofInt (-d)).toBitVec &&& (Int32.ofInt d).toBitVec).toNat = (4294967296 - d.toNat) &&& d.toNat := by
    rw [BitVec.toNat_and, m1, i3_n (x := d) ⟨by omega, by omega⟩]
  have l : (4294967296 - d.toNat) &&& d.toNat ≤ d.toNat := Nat.and_le_right
  have e2 : an_ (-d) d = (((4294967296 - d.toNat) &&& d.toNat : Nat) : Int) := by
    show ((Int32.ofInt (-d)).toBitVec &&& (Int32.ofInt d).toBitVec).toInt = _
    rw [bv_i (by rw [e]; exact Nat.lt_of_le_of_lt l (by omega)), e]
  rw [e2]
  intro z
  have q : ∀ y : Nat, (y : Int) = 0 → y = 0 := fun y hy => by omega
  have z1 := q _ z
  unfold ne2 at h1
  rw [tz_0 h.1, z1] at h1
  exact absurd h1 (by decide)
theorem pb_and (x y : Nat) : (x &&& y) % 2 = 1 ↔ x % 2 = 1 ∧ y % 2 = 1 := by
  have h := Nat.testBit_and x y 0
  simp only [Nat.testBit_zero] at h
  have e : decide ((x &&& y) % 2 = 1) = true ↔ (decide (x % 2 = 1) && decide (y % 2 = 1)) = true := by rw [h]
  rw [decide_eq_true_iff, Bool.and_eq_true, decide_eq_true_iff, decide_eq_true_iff] at e
  exact e
theorem nb_sub (o : Nat) : ∀ s, s &&& o = s → s ≤ o ∧ (o - s) &&& o = o - s := by
  induction o using Nat.strongRecOn with
  | _ o ih =>
    intro s h
    by_cases z : o = 0
    · subst z
      have : s = 0 := by rw [Nat.and_zero] at h; exact h.symm
      subst this
      exact ⟨Nat.le_refl _, rfl⟩
    · have hd : (s / 2) &&& (o / 2) = s / 2 := by rw [← Nat.and_div_two, h]
      have hp : s % 2 = 1 → o % 2 = 1 := fun q => ((pb_and s o).mp (by rw [h]; exact q)).2
      obtain ⟨h1, h2⟩ := ih (o / 2) (by omega) (s / 2) hd
      have e1 : (o - s) / 2 = o / 2 - s / 2 := by omega
      have a1 : ((o - s) &&& o) / 2 = (o - s) / 2 := by rw [Nat.and_div_two, e1]; exact h2
      have a2 : ((o - s) &&& o) % 2 = 1 ↔ (o - s) % 2 = 1 := by
        rw [pb_and]
        omega
      exact ⟨by omega, by omega⟩
theorem an_le {x o : Int} (ho : 0 ≤ o ∧ o ≤ 4095) : 0 ≤ an_ x o ∧ an_ x o ≤ 4095 := by
  have h0 : (Int32.ofInt o).toBitVec.toNat = o.toNat := i3_n (by omega)
  have h : ((Int32.ofInt x).toBitVec &&& (Int32.ofInt o).toBitVec).toNat ≤ o.toNat := by
    rw [BitVec.toNat_and, h0]; exact Nat.and_le_right
  show 0 ≤ ((Int32.ofInt x).toBitVec &&& (Int32.ofInt o).toBitVec).toInt ∧ ((Int32.ofInt x).toBitVec &&& (Int32.ofInt o).toBitVec).toInt ≤ 4095
  rw [BitVec.toInt_eq_toNat_cond]
  split <;> omega
theorem i3_b (v : Int32) : Int32.ofInt v.toInt = v := Int32.ofInt_toInt v
theorem an_id (x o : Int) : an_ (an_ x o) o = an_ x o := by
  unfold an_
  rw [i3_b, Int32.and_assoc, Int32.and_self]
/-- the next set below another: it is not empty -/
theorem nx_1 {s o : Int} (ho : 0 ≤ o ∧ o ≤ 4095) (hs : 0 ≤ s ∧ s < 4096) (h : an_ s o = s) (hne : s ≠ o) : 1 ≤ an_ (s - o) o ∧ an_ (s - o) o ≤ 4095 ∧ an_ (an_ (s - o) o) o = an_ (s - o) o := by
  have hb := an_le (x := s - o) ho
  refine ⟨?_, hb.2, an_id _ _⟩
  by_cases z : an_ (s - o) o = 0
  · exfalso
    obtain ⟨h1, h2⟩ := nb_sub o.toNat s.toNat ((an_z ho hs).mp h)
    have hd : an_ (o - s) o = o - s := by
      refine (an_z ho (by omega)).mpr ?_
      rw [show (o - s).toNat = o.toNat - s.toNat by omega]
      exact h2
    refine ne_q (d := o - s) (by omega) ?_
    have e1 : Int32.ofInt (o - s) = Int32.ofInt o &&& Int32.ofInt (o - s) := by
      have := congrArg Int32.ofInt hd
      unfold an_ at this
      rw [i3_b, Int32.and_comm] at this
      exact this.symm
    have e2 : Int32.ofInt (s - o) &&& Int32.ofInt o = 0 := by
      have := congrArg Int32.ofInt z
      unfold an_ at this
      rw [i3_b] at this
      exact this
    unfold an_
    rw [show -(o - s) = s - o by omega, e1, ← Int32.and_assoc, e2, Int32.zero_and]
    rfl
  · omega
