theorem us_1 {x : Int} (h : -2147483648 ≤ x ∧ x ≤ 2147483647) : us_ x 1 = x % 4294967296 / 2 := by
  have a : ((Int32.ofInt x).toUInt32.toBitVec).toNat = (x % 4294967296).toNat := by
    show (BitVec.ofInt 32 x).toNat = _
    rw [BitVec.toNat_ofInt]; rfl
  have s : ((Int32.ofInt 1).toUInt32 &&& Int32.toUInt32 31) = 1 := by decide
  unfold us_
  rw [s]
  have b : (((Int32.ofInt x).toUInt32 >>> (1 : UInt32)).toBitVec).toNat = (x % 4294967296).toNat / 2 := by
    show ((Int32.ofInt x).toUInt32.toBitVec >>> (1 : BitVec 32)).toNat = _
    rw [BitVec.ushiftRight_eq', BitVec.toNat_ushiftRight, a]
    show (x % 4294967296).toNat >>> 1 = _
    rw [Nat.shiftRight_eq_div_pow]
  show (((Int32.ofInt x).toUInt32 >>> (1 : UInt32)).toBitVec).toInt = _
  rw [BitVec.toInt_eq_toNat_cond, b]
  split <;> omega
theorem tk_d : ∀ a : Fin 216, ∀ b : Fin 128, (4294967296 * 1664525 + 1013904223 - (128 * a.val + b.val + 1) * 1664525) % 4294967296 / 2 < 2147469824 := by decide +kernel
theorem tk_2 {s : Int} (h : -2147483648 ≤ s ∧ s ≤ 2147483647) (t : 2147469824 ≤ us_ s 1) : us_ (wr_ (wr_ (s * 1664525) + 1013904223)) 1 < 2147469824 := by
  rw [us_1 h] at t
  obtain ⟨n, hn, e⟩ : ∃ n : Nat, n < 27648 ∧ s = -((n : Int) + 1) := ⟨(-s - 1).toNat, by omega, by omega⟩
  have k := tk_d ⟨n / 128, by omega⟩ ⟨n % 128, by omega⟩
  have k' : (4294967296 * 1664525 + 1013904223 - (n + 1) * 1664525) % 4294967296 / 2 < 2147469824 := by
    have e2 : 128 * (n / 128) + n % 128 + 1 = n + 1 := by omega
    simp only [e2] at k
    exact k
  have w : wr_ (wr_ (s * 1664525) + 1013904223) = wr_ (s * 1664525 + 1013904223) := by unfold wr_; omega
  rw [w, us_1 (by unfold wr_; omega)]
  have m : wr_ (s * 1664525 + 1013904223) % 4294967296 = (s * 1664525 + 1013904223) % 4294967296 := by unfold wr_; omega
  rw [m, e]
  generalize hX : 4294967296 * 1664525 + 1013904223 - (n + 1) * 1664525 = X at k'
  have q : -((n : Int) + 1) * 1664525 + 1013904223 = (X : Int) + 4294967296 * (-1664525) := by omega
  rw [q, Int.add_mul_emod_self_left]
  omega
/-- there is a club of pot p, below k, without a group -/
def EL_ (T : Zt) (p k : Int) : Prop := (0 ≤ p ∧ p ≤ 2) ∧ ∃ j, 0 ≤ j ∧ j < k ∧ T 301 0 j = p ∧ T 302 0 j = -1
theorem el_m {T : Zt} {p k : Int} (h : EL_ T p k) : EL_ T p (k + 1) := by
  obtain ⟨a, j, b, c, d⟩ := h
  exact ⟨a, j, b, by omega, d⟩
theorem el_n {T : Zt} {p k : Int} (hk : 0 ≤ k) (hp : 0 ≤ p ∧ p ≤ 2) (h : T 301 0 k = p) (g : T 302 0 k = -1) : EL_ T p (k + 1) := ⟨hp, k, hk, by omega, h, g⟩
/-- how many clubs of pot p, below k, have no group -/
def cen_ (T : Zt) (p : Int) : Nat → Int
  | 0 => 0
  | k + 1 => cen_ T p k + (if T 301 0 (k : Int) = p ∧ T 302 0 (k : Int) = -1 then 1 else 0)
def cel_ (T : Zt) (p k : Int) : Int := cen_ T p k.toNat
theorem cel_t {T : Zt} {p k : Int} (hk : 0 ≤ k) (c : T 301 0 k = p ∧ T 302 0 k = -1) : cel_ T p (k + 1) = cel_ T p k + 1 := by
  unfold cel_
  rw [show (k + 1).toNat = k.toNat + 1 by omega]
  show _ + _ = _
  rw [show ((k.toNat : Nat) : Int) = k by omega, if_pos c]
theorem cel_f {T : Zt} {p k : Int} (hk : 0 ≤ k) (c : ¬ (T 301 0 k = p ∧ T 302 0 k = -1)) : cel_ T p (k + 1) = cel_ T p k := by
  unfold cel_
  rw [show (k + 1).toNat = k.toNat + 1 by omega]
  show _ + _ = _
  rw [show ((k.toNat : Nat) : Int) = k by omega, if_neg c, Int.add_zero]
theorem cen_b (T : Zt) (p : Int) : ∀ k : Nat, 0 ≤ cen_ T p k ∧ cen_ T p k ≤ k
  | 0 => by simp [cen_]
  | k + 1 => by
      have i := cen_b T p k
      unfold cen_
      split <;> omega
theorem cel_b {T : Zt} {p k : Int} (hk : 0 ≤ k) : 0 ≤ cel_ T p k ∧ cel_ T p k ≤ k := by
  have := cen_b T p k.toNat
  unfold cel_; omega
theorem cen_p {T : Zt} {p j : Int} (h0 : 0 ≤ j) (c : T 301 0 j = p ∧ T 302 0 j = -1) : ∀ k : Nat, j < k → 0 < cen_ T p k
  | 0, h => by omega
  | k + 1, h => by
      have b := cen_b T p k
      unfold cen_
      by_cases z : j = k
      · rw [← z, if_pos c]; omega
      · have := cen_p h0 c k (by omega)
        split <;> omega
theorem cel_p {T : Zt} {p k : Int} (h : EL_ T p k) : 0 < cel_ T p k := by
  obtain ⟨_, j, a, b, c⟩ := h
  exact cen_p a c _ (by omega)
/-- the ways with the club in one of the groups up to g -/
noncomputable def sgm_ (T : Zt) (c g : Int) : Int := (if 0 ≤ g then (nw_ (drw_ T) c 0 (ll_ T) (gf_ T) : Int) else 0) + (if 1 ≤ g then (nw_ (drw_ T) c 1 (ll_ T) (gf_ T) : Int) else 0) + (if 2 ≤ g then (nw_ (drw_ T) c 2 (ll_ T) (gf_ T) : Int) else 0) + (if 3 ≤ g then (nw_ (drw_ T) c 3 (ll_ T) (gf_ T) : Int) else 0)
theorem sgm_s {T : Zt} {c g : Int} (h : -1 ≤ g ∧ g < 3) : sgm_ T c (g + 1) = sgm_ T c g + (nw_ (drw_ T) c (g + 1) (ll_ T) (gf_ T) : Int) := by
  unfold sgm_
  rcases (by omega : g = -1 ∨ g = 0 ∨ g = 1 ∨ g = 2) with z | z | z | z <;> subst z <;> simp <;> omega
theorem sgm_3 {T : Zt} {c : Int} (h0 : 0 ≤ T 111 0 12) (hc : 0 ≤ c ∧ c < T 111 0 12) (hg : T 302 0 c = -1) (hp : 0 ≤ T 301 0 c ∧ T 301 0 c ≤ 2) : sgm_ T c 3 = (nw_ (drw_ T) (-1) (-1) (ll_ T) (gf_ T) : Int) := by
  have k := nw_s (d := drw_ T) (c := c) (by omega) (ll_ T) (gf_ T) (ll_i hc.1 hc.2 hg hp.1 hp.2) (ll_d T) (fun x hx => by have := ll_m h0 hx; omega)
  unfold sgm_
  simp
  omega
theorem sgm_0 {T : Zt} {c : Int} : sgm_ T c (-1) = 0 := by unfold sgm_; simp
abbrev cX11_ways : ByteArray := prog_13_method_116_code
def yX11_ways : MethodName := ⟨RX11, "ways", "()I"⟩
def zX11_ways : Zm := (RX11, cX11_ways, 1, (some .int), { frames := 2, cells := 0, slots := 0, locals := 52 })
set_option maxRecDepth 100000 in
theorem cl_X11_591 : cv_ RX11 591 yX11_countWays zX11_countWays 11 2 := ⟨gi_V (lw_b10 55 (by decide +kernel) rfl : Cond.methodLink RX11 591 yX11_countWays ∈ lw_g) (lw_b10 57 (by decide +kernel) rfl : Cond.instanceMethod yX11_countWays ∈ lw_g) (lw_sel 14 rfl : Cond.selects yX11_countWays.cls yX11_countWays yX11_countWays ∈ lw_g) (lw_b1 10 (by decide +kernel) rfl : Cond.initialized yX11_countWays.cls ∈ lw_g) (lw_b10 58 rfl rfl : Cond.code yX11_countWays cX11_countWays 8 (some .int) ∈ lw_g), ⟨by decide, by decide, by decide +kernel⟩, ⟨_, _, rfl⟩⟩
abbrev po_X11_ways (T : Zt) : Zt → Option Zv → Prop := fun T' r => ∃ x : Int, r = some (vI x) ∧ fr_ [(304, []), (305, []), (302, [])] T T' ∧ (x = x)
abbrev cX11_chanceOf : ByteArray := prog_13_method_117_code
def yX11_chanceOf : MethodName := ⟨RX11, "chanceOf", "(II)I"⟩
def zX11_chanceOf : Zm := (RX11, cX11_chanceOf, 3, (some .int), { frames := 2, cells := 0, slots := 0, locals := 52 })
abbrev cX11_chance : ByteArray := prog_13_method_118_code
def yX11_chance : MethodName := ⟨RX11, "chance", "(II)I"⟩
def zX11_chance : Zm := (RX11, cX11_chance, 3, (some .int), { frames := 3, cells := 0, slots := 0, locals := 74 })
set_option maxRecDepth 100000 in
theorem cl_X11_594 : cv_ RX11 594 yX11_chanceOf zX11_chanceOf 11 2 := ⟨gi_V (lw_b10 67 (by decide +kernel) rfl : Cond.methodLink RX11 594 yX11_chanceOf ∈ lw_g) (lw_b10 69 (by decide +kernel) rfl : Cond.instanceMethod yX11_chanceOf ∈ lw_g) (lw_sel 10 rfl : Cond.selects yX11_chanceOf.cls yX11_chanceOf yX11_chanceOf ∈ lw_g) (lw_b1 10 (by decide +kernel) rfl : Cond.initialized yX11_chanceOf.cls ∈ lw_g) (lw_b10 70 rfl rfl : Cond.code yX11_chanceOf cX11_chanceOf 3 (some .int) ∈ lw_g), ⟨by decide, by decide, by decide +kernel⟩, ⟨_, _, rfl⟩⟩
abbrev po_X11_chance (T : Zt) (cl g : Int) : Zt → Option Zv → Prop := fun T' r => ∃ x : Int, r = some (vI x) ∧ fr_ [(304, []), (305, []), (302, [])] T T' ∧ (x = x)
abbrev cX11_takenBelow : ByteArray := prog_13_method_119_code
def yX11_takenBelow : MethodName := ⟨RX11, "takenBelow", "(I)I"⟩
def zX11_takenBelow : Zm := (RX11, cX11_takenBelow, 5, (some .int), { frames := 0, cells := 0, slots := 0, locals := 0 })
abbrev cX11_ball : ByteArray := prog_13_method_120_code
def yX11_ball : MethodName := ⟨RX11, "ball", "(IZ)I"⟩
def zX11_ball : Zm := (RX11, cX11_ball, 12, (some .int), { frames := 2, cells := 0, slots := 0, locals := 52 })
set_option maxRecDepth 100000 in
theorem cl_X11_604 : cv_ RX11 604 yX11_takenBelow zX11_takenBelow 11 1 := ⟨gi_V (lw_b10 75 (by decide +kernel) rfl : Cond.methodLink RX11 604 yX11_takenBelow ∈ lw_g) (lw_b10 77 (by decide +kernel) rfl : Cond.instanceMethod yX11_takenBelow ∈ lw_g) (lw_sel 73 rfl : Cond.selects yX11_takenBelow.cls yX11_takenBelow yX11_takenBelow ∈ lw_g) (lw_b1 10 (by decide +kernel) rfl : Cond.initialized yX11_takenBelow.cls ∈ lw_g) (lw_b10 78 rfl rfl : Cond.code yX11_takenBelow cX11_takenBelow 5 (some .int) ∈ lw_g), ⟨by decide, by decide, by decide +kernel⟩, ⟨_, _, rfl⟩⟩
abbrev po_X11_ball (T : Zt) (ta fi : Int) : Zt → Option Zv → Prop := fun T' r => ∃ x : Int, r = some (vI x) ∧ fr_ [(304, []), (305, []), (302, []), (111, [103])] T T' ∧ (x = x)
