theorem us_1 {x : Int} (h : -2147483648 ≤ x ∧ x ≤ 2147483647) : us_ x 1 = x % 4294967296 / 2 := by
  have a : ((Int32.ofInt x).toUInt32.toBitVec).toNat = (x % 4294967296).toNat := by
    show (BitVec.ofInt 32 x).toNat = _
    rw [BitVec.toNat_ofInt]; rfl
  have s : ((Int32.ofInt 1).toUInt32 &&& Int32.toUInt32 31) = 1 := by decide
  unfold us_
  rw [s]
  have b : (((Int32.ofInt x).toUInt32 >>> (1 : UInt32)).toBitVec).toNat = (x % 4294967296).toNat / 2 := by
    show ((Int32.ofInt x).toUInt32.toBitVec >>> (1 : BitVec 32)).toNat = _
    rw [BitVec.ushiftRight_eq', BitVec.toNat_ushiftRight, a]
    show (x % 4294967296).toNat >>> 1 = _
    rw [Nat.shiftRight_eq_div_pow]
  show (((Int32.ofInt x).toUInt32 >>> (1 : UInt32)).toBitVec).toInt = _
  rw [BitVec.toInt_eq_toNat_cond, b]
  split <;> omega
theorem tk_d : ∀ a : Fin 216, ∀ b : Fin 128, (4294967296 * 1664525 + 1013904223 - (128 * a.val + b.val + 1) * 1664525) % 4294967296 / 2 < 2147469824 := by decide +kernel
theorem tk_2 {s : Int} (h : -2147483648 ≤ s ∧ s ≤ 2147483647) (t : 2147469824 ≤ us_ s 1) : us_ (wr_ (wr_ (s * 1664525) + 1013904223)) 1 < 2147469824 := by
  rw [us_1 h] at t
  obtain ⟨n, hn, e⟩ : ∃ n : Nat, n < 27648 ∧ s = -((n : Int) + 1) := ⟨(-s - 1).toNat, by omega, by omega⟩
  have k := tk_d ⟨n / 128, by omega⟩ ⟨n % 128, by omega⟩
  have k' : (4294967296 * 1664525 + 1013904223 - (n + 1) * 1664525) % 4294967296 / 2 < 2147469824 := by
    have e2 : 128 * (n / 128) + n % 128 + 1 = n + 1 := by omega
    simp only [e2] at k
    exact k
  have w : wr_ (wr_ (s * 1664525) + 1013904223) = wr_ (s * 1664525 + 1013904223) := by unfold wr_; omega
  rw [w, us_1 (by unfold wr_; omega)]
  have m : wr_ (s * 1664525 + 1013904223) % 4294967296 = (s * 1664525 + 1013904223) % 4294967296 := by unfold wr_; omega
  rw [m, e]
  generalize hX : 4294967296 * 1664525 + 1013904223 - (n + 1) * 1664525 = X at k'
  have q : -((n : Int) + 1) * 1664525 + 1013904223 = (X : Int) + 4294967296 * (-1664525) := by omega
  rw [q, Int.add_mul_emod_self_left]
  omega
/-- there is a club of pot p, below k, without a group -/
def EL_ (T : Zt) (p k : Int) : Prop := (0 ≤ p ∧ p ≤ 2) ∧ ∃ j, 0 ≤ j ∧ j < k ∧ T 301 0 j = p ∧ T 302 0 j = -1
theorem el_m {T : Zt} {p k : Int} (h : EL_ T p k) : EL_ T p (k + 1) := by
  obtain ⟨a, j, b, c, d⟩ := h
  exact ⟨a, j, b, by omega, d⟩
theorem el_n {T : Zt} {p k : Int} (hk : 0 ≤ k) (hp : 0 ≤ p ∧ p ≤ 2) (h : T 301 0 k = p) (g : T 302 0 k = -1) : EL_ T p (k + 1) := ⟨hp, k, hk, by omega, h, g⟩
/-- how many clubs of pot p, below k, have no group -/
def cen_ (T : Zt) (p : Int) : Nat → Int
  | 0 => 0
  | k + 1 => cen_ T p k + (if T 301 0 (k : Int) = p ∧ T 302 0 (k : Int) = -1 then 1 else 0)
def cel_ (T : Zt) (p k : Int) : Int := cen_ T p k.toNat
theorem cel_t {T : Zt} {p k : Int} (hk : 0 ≤ k) (c : T 301 0 k = p ∧ T 302 0 k = -1) : cel_ T p (k + 1) = cel_ T p k + 1 := by
  unfold cel_
  rw [show (k + 1).toNat = k.toNat + 1 by omega]
  show _ + _ = _
  rw [show ((k.toNat : Nat) : Int) = k by omega, if_pos c]
theorem cel_f {T : Zt} {p k : Int} (hk : 0 ≤ k) (c : ¬ (T 301 0 k = p ∧ T 302 0 k = -1)) : cel_ T p (k + 1) = cel_ T p k := by
  unfold cel_
  rw [show (k + 1).toNat = k.toNat + 1 by omega]
  show _ + _ = _
  rw [show ((k.toNat : Nat) : Int) = k by omega, if_neg c, Int.add_zero]
theorem cen_b (T : Zt) (p : Int) : ∀ k : Nat, 0 ≤ cen_ T p k ∧ cen_ T p k ≤ k
  | 0 => by simp [cen_]
  | k + 1 => by
      have i := cen_b T p k
      unfold cen_
      split <;> omega
theorem cel_b {T : Zt} {p k : Int} (hk : 0 ≤ k) : 0 ≤ cel_ T p k ∧ cel_ T p k ≤ k := by
  have := cen_b T p k.toNat
  unfold cel_; omega
theorem cen_p {T : Zt} {p j : Int} (h0 : 0 ≤ j) (c : T 301 0 j = p ∧ T 302 0 j = -1) : ∀ k : Nat, j < k → 0 < cen_ T p k
  | 0, h => by omega
  | k + 1, h => by
      have b := cen_b T p k
      unfold cen_
      by_cases z : j = k
      · rw [← z, if_pos c]; omega
      · have := cen_p h0 c k (by omega)
        split <;> omega
theorem cel_p {T : Zt} {p k : Int} (h : EL_ T p k) : 0 < cel_ T p k := by
  obtain ⟨_, j, a, b, c⟩ := h
  exact cen_p a c _ (by omega)
/-- the ways with the club in one of the groups up to g -/
noncomputable def sgm_ (T : Zt) (c g : Int) : Int := (if 0 ≤ g then (nw_ (drw_ T) c 0 (ll_ T) (gf_ T) : Int) else 0) + (if 1 ≤ g then (nw_ (drw_ T) c 1 (ll_ T) (gf_ T) : Int) else 0) + (if 2 ≤ g then (nw_ (drw_ T) c 2 (ll_ T) (gf_ T) : Int) else 0) + (if 3 ≤ g then (nw_ (drw_ T) c 3 (ll_ T) (gf_ T) : Int) else 0)
theorem sgm_s {T : Zt} {c g : Int} (h : -1 ≤ g ∧ g < 3) : sgm_ T c (g + 1) = sgm_ T c g + (nw_ (drw_ T) c (g + 1) (ll_ T) (gf_ T) : Int) := by
  unfold sgm_
  rcases (by omega : g = -1 ∨ g = 0 ∨ g = 1 ∨ g = 2) with z | z | z | z <;> subst z <;> simp <;> omega
theorem sgm_3 {T : Zt} {c : Int} (h0 : 0 ≤ T 111 0 12) (hc : 0 ≤ c ∧ c < T 111 0 12) (hg : T 302 0 c = -1) (hp : 0 ≤ T 301 0 c ∧ T 301 0 c ≤ 2) : sgm_ T c 3 = (nw_ (drw_ T) (-1) (-1) (ll_ T) (gf_ T) : Int) := by
  have k := nw_s (d := drw_ T) (c := c) (by omega) (ll_ T) (gf_ T) (ll_i hc.1 hc.2 hg hp.1 hp.2) (ll_d T) (fun x hx => by have := ll_m h0 hx; omega)
  unfold sgm_
  simp
  omega
theorem sgm_0 {T : Zt} {c : Int} : sgm_ T c (-1) = 0 := by unfold sgm_; simp
abbrev cX11_ways : ByteArray := prog_13_method_116_code
def yX11_ways : MethodName := ⟨RX11, "ways", "()I"⟩
def zX11_ways : Zm := (RX11, cX11_ways, 1, (some .int), { frames := 2, cells := 0, slots := 0, locals := 52 })
set_option maxRecDepth 100000 in
theorem cl_X11_591 : cv_ RX11 591 yX11_countWays zX11_countWays 11 2 := ⟨gi_V (lwq_10 (dqc_m (dqa_m (dqa_m (List.mem_of_getElem? (i := 7) rfl)))) rfl : Cond.methodLink RX11 591 yX11_countWays ∈ lw_g) (lwq_10 (dqc_m (dqa_m (dqa_m (dqa_m (List.mem_of_getElem? (i := 1) rfl))))) rfl : Cond.instanceMethod yX11_countWays ∈ lw_g) (lw_sel 14 rfl : Cond.selects yX11_countWays.cls yX11_countWays yX11_countWays ∈ lw_g) (lwq_1 (dqa_m (List.mem_of_getElem? (i := 2) rfl)) rfl : Cond.initialized yX11_countWays.cls ∈ lw_g) (lwq_10 (dqc_m (dqa_m (dqa_m (dqa_m (List.mem_of_getElem? (i := 2) rfl))))) rfl : Cond.code yX11_countWays cX11_countWays 8 (some .int) ∈ lw_g), ⟨nmh_1.1, nmh_1.2, pdq_4⟩, ⟨_, _, rfl⟩⟩
abbrev po_X11_ways (T : Zt) : Zt → Option Zv → Prop := fun T' r => ∃ x : Int, r = some (vI x) ∧ fr_ [(304, []), (305, []), (302, [])] T T' ∧ (x = x)
abbrev cX11_chanceOf : ByteArray := prog_13_method_117_code
def yX11_chanceOf : MethodName := ⟨RX11, "chanceOf", "(II)I"⟩
def zX11_chanceOf : Zm := (RX11, cX11_chanceOf, 3, (some .int), { frames := 2, cells := 0, slots := 0, locals := 52 })
abbrev cX11_chance : ByteArray := prog_13_method_118_code
def yX11_chance : MethodName := ⟨RX11, "chance", "(II)I"⟩
def zX11_chance : Zm := (RX11, cX11_chance, 3, (some .int), { frames := 3, cells := 0, slots := 0, locals := 74 })
set_option maxRecDepth 100000 in
theorem cl_X11_594 : cv_ RX11 594 yX11_chanceOf zX11_chanceOf 11 2 := ⟨gi_V (lwq_10 (dqc_m (dqc_m (List.mem_of_getElem? (i := 3) rfl))) rfl : Cond.methodLink RX11 594 yX11_chanceOf ∈ lw_g) (lwq_10 (dqc_m (dqc_m (List.mem_of_getElem? (i := 5) rfl))) rfl : Cond.instanceMethod yX11_chanceOf ∈ lw_g) (lw_sel 10 rfl : Cond.selects yX11_chanceOf.cls yX11_chanceOf yX11_chanceOf ∈ lw_g) (lwq_1 (dqa_m (List.mem_of_getElem? (i := 2) rfl)) rfl : Cond.initialized yX11_chanceOf.cls ∈ lw_g) (lwq_10 (dqc_m (dqc_m (List.mem_of_getElem? (i := 6) rfl))) rfl : Cond.code yX11_chanceOf cX11_chanceOf 3 (some .int) ∈ lw_g), ⟨nmh_1.1, nmh_1.2, pdq_4⟩, ⟨_, _, rfl⟩⟩
abbrev po_X11_chance (T : Zt) (cl g : Int) : Zt → Option Zv → Prop := fun T' r => ∃ x : Int, r = some (vI x) ∧ fr_ [(304, []), (305, []), (302, [])] T T' ∧ (x = x)
abbrev cX11_takenBelow : ByteArray := prog_13_method_119_code
def yX11_takenBelow : MethodName := ⟨RX11, "takenBelow", "(I)I"⟩
def zX11_takenBelow : Zm := (RX11, cX11_takenBelow, 5, (some .int), { frames := 0, cells := 0, slots := 0, locals := 0 })
abbrev cX11_ball : ByteArray := prog_13_method_120_code
def yX11_ball : MethodName := ⟨RX11, "ball", "(IZ)I"⟩
def zX11_ball : Zm := (RX11, cX11_ball, 12, (some .int), { frames := 2, cells := 0, slots := 0, locals := 52 })
set_option maxRecDepth 100000 in
theorem cl_X11_604 : cv_ RX11 604 yX11_takenBelow zX11_takenBelow 11 1 := ⟨gi_V (lwq_10 (dqc_m (dqc_m (dqa_m (List.mem_of_getElem? (i := 3) rfl)))) rfl : Cond.methodLink RX11 604 yX11_takenBelow ∈ lw_g) (lwq_10 (dqc_m (dqc_m (dqa_m (List.mem_of_getElem? (i := 5) rfl)))) rfl : Cond.instanceMethod yX11_takenBelow ∈ lw_g) (lw_sel 73 rfl : Cond.selects yX11_takenBelow.cls yX11_takenBelow yX11_takenBelow ∈ lw_g) (lwq_1 (dqa_m (List.mem_of_getElem? (i := 2) rfl)) rfl : Cond.initialized yX11_takenBelow.cls ∈ lw_g) (lwq_10 (dqc_m (dqc_m (dqa_m (List.mem_of_getElem? (i := 6) rfl)))) rfl : Cond.code yX11_takenBelow cX11_takenBelow 5 (some .int) ∈ lw_g), ⟨nmh_1.1, nmh_1.2, pdq_15⟩, ⟨_, _, rfl⟩⟩
abbrev po_X11_ball (T : Zt) (ta fi : Int) : Zt → Option Zv → Prop := fun T' r => ∃ x : Int, r = some (vI x) ∧ fr_ [(304, []), (305, []), (302, []), (111, [103])] T T' ∧ (x = x)
/-- officials and the matches of a day: how far, who may, how many officials, from which match to which -/
abbrev Of_ : Type := (Int → Int → Int) × (Int → Int → Prop) × Int × Int × Int
def Of_.d (F : Of_) : Int → Int → Int := F.1
def Of_.A (F : Of_) : Int → Int → Prop := F.2.1
def Of_.n (F : Of_) : Int := F.2.2.1
def Of_.f (F : Of_) : Int := F.2.2.2.1
def Of_.e (F : Of_) : Int := F.2.2.2.2
def of_d (F : Of_) : Prop := ∀ i o, F.f ≤ i → i < F.e → 0 ≤ o → o < F.n → 0 ≤ F.d i o ∧ F.d i o ≤ 11
/-- the cost at which a match can pass its official on; -1 where there is none -/
def bs_ (F : Of_) (ho far : Int → Int) (i : Int) : Int := if ho i = -1 then 10000 else if far (ho i) < 0 then -1 else far (ho i) - F.d i (ho i)
/-- potentials: no way back is shorter than nothing -/
def po_ (F : Of_) (ho pi : Int → Int) : Prop := (∀ o, 0 ≤ o → o < F.n → 10000 ≤ pi o) ∧ (∀ i, F.f ≤ i → i < F.e → -1 ≤ ho i ∧ ho i < F.n) ∧
  (∀ i o, F.f ≤ i → i < F.e → 0 ≤ o → o < F.n → F.A i o → ho i ≠ o → (ho i = -1 → pi o ≤ 10000 + F.d i o) ∧ (ho i ≠ -1 → pi o ≤ pi (ho i) + F.d i o - F.d i (ho i)))
/-- what the search for ways has: each length stands over the potential, and over that of the official before -/
def fi_ (F : Of_) (ho pi far cb : Int → Int) (st : Int → Nat) (o : Int) : Prop := far o < 0 ∨ (pi o ≤ far o ∧ (F.f ≤ cb o ∧ cb o < F.e) ∧ F.A (cb o) o ∧ ho (cb o) ≠ o ∧
  ((ho (cb o) = -1 ∧ 10000 + F.d (cb o) o ≤ far o) ∨ (ho (cb o) ≠ -1 ∧ 0 ≤ far (ho (cb o)) ∧ far (ho (cb o)) - F.d (cb o) (ho (cb o)) + F.d (cb o) o ≤ far o ∧ (far (ho (cb o)) - F.d (cb o) (ho (cb o)) + F.d (cb o) o = far o → st (ho (cb o)) < st o))))
def fsn_ (f : Int → Nat) (x : Int) (g : Nat) : Int → Nat := fun k => if k = x then g else f k
theorem fsn_s (f : Int → Nat) (x : Int) (g : Nat) : fsn_ f x g x = g := if_pos rfl
theorem fsn_n {f : Int → Nat} {x k : Int} {g : Nat} (h : k ≠ x) : fsn_ f x g k = f k := if_neg h
/-- an official is reached, on a shorter way -/
theorem fi_u {F : Of_} {ho pi far cb : Int → Int} {st : Int → Nat} {c : Nat} {i o : Int} (P : po_ F ho pi) (H : ∀ q, 0 ≤ q → q < F.n → fi_ F ho pi far cb st q) (hc : ∀ q, st q ≤ c)
    (hi : F.f ≤ i ∧ i < F.e) (hA : F.A i o) (hn : ho i ≠ o) (ho0 : 0 ≤ o ∧ o < F.n) (hb : bs_ F ho far i ≠ -1) (hs : far o < 0 ∨ bs_ F ho far i + F.d i o < far o) :
    10000 ≤ bs_ F ho far i + F.d i o ∧ ∀ q, 0 ≤ q → q < F.n → fi_ F ho pi (fu_ far o (bs_ F ho far i + F.d i o)) (fu_ cb o i) (fsn_ st o (c + 1)) q := by
  have pe := P.2.2 i o hi.1 hi.2 ho0.1 ho0.2 hA hn
  have hr := P.2.1 i hi.1 hi.2
  have p0 := P.1 o ho0.1 ho0.2
  have hlen : pi o ≤ bs_ F ho far i + F.d i o ∧ ((ho i = -1 ∧ bs_ F ho far i = 10000) ∨ (ho i ≠ -1 ∧ 0 ≤ far (ho i) ∧ bs_ F ho far i = far (ho i) - F.d i (ho i))) := by
    unfold bs_ at hb ⊢
    by_cases z : ho i = -1
    · rw [if_pos z] at hb ⊢
      exact ⟨by have := pe.1 z; omega, Or.inl ⟨z, rfl⟩⟩
    · rw [if_neg z] at hb ⊢
      by_cases y : far (ho i) < 0
      · rw [if_pos y] at hb; exact absurd rfl hb
      · rw [if_neg y] at hb ⊢
        have q := pe.2 z
        rcases H (ho i) (by omega) (by omega) with w | w
        · exact absurd w y
        · exact ⟨by have := w.1; omega, Or.inr ⟨z, by omega, rfl⟩⟩
  refine ⟨by omega, fun q q0 q1 => ?_⟩
  by_cases z : q = o
  · subst z
    right
    rw [fu_s, fu_s, fsn_s]
    refine ⟨hlen.1, hi, hA, hn, ?_⟩
    rcases hlen.2 with w | w
    · exact Or.inl ⟨w.1, by omega⟩
    · refine Or.inr ⟨w.1, ?_, ?_, fun _ => ?_⟩
      · rw [fu_n hn]; exact w.2.1
      · rw [fu_n hn]; omega
      · rw [fsn_n hn]; have := hc (ho i); omega
  · rcases H q q0 q1 with w | ⟨w1, w2, w3, w4, w5⟩
    · left; rw [fu_n z]; exact w
    · right
      rw [fu_n z, fu_n z, fsn_n z]
      refine ⟨w1, w2, w3, w4, ?_⟩
      rcases w5 with y | ⟨y1, y2, y3, y4⟩
      · exact Or.inl y
      · by_cases x : ho (cb q) = o
        · rw [x] at y1 y2 y3 y4 ⊢
          rw [fu_s, fsn_s]
          refine Or.inr ⟨y1, by omega, by omega, fun h => by omega⟩
        · exact Or.inr ⟨y1, by rw [fu_n x]; exact y2, by rw [fu_n x]; exact y3, by rw [fu_n x, fsn_n x]; exact y4⟩
/-- nothing is left to shorten -/
def rx9_ (F : Of_) (ho far : Int → Int) (i o : Int) : Prop := F.A i o → ho i ≠ o → bs_ F ho far i ≠ -1 → 0 ≤ far o ∧ far o ≤ bs_ F ho far i + F.d i o
/-- all that the search leaves -/
def fx_ (F : Of_) (ho pi far cb : Int → Int) (st : Int → Nat) : Prop := po_ F ho pi ∧ (∀ q, 0 ≤ q → q < F.n → fi_ F ho pi far cb st q) ∧ ∀ i o, F.f ≤ i → i < F.e → 0 ≤ o → o < F.n → rx9_ F ho far i o
theorem bs_n {F : Of_} {ho far pi cb : Int → Int} {st : Int → Nat} (D : of_d F) (P : po_ F ho pi) (H : ∀ q, 0 ≤ q → q < F.n → fi_ F ho pi far cb st q) {i : Int} (hi : F.f ≤ i ∧ i < F.e) : bs_ F ho far i ≠ -1 ↔ (ho i = -1 ∨ 0 ≤ far (ho i)) := by
  have hr := P.2.1 i hi.1 hi.2
  unfold bs_
  by_cases z : ho i = -1
  · rw [if_pos z]; simp [z]
  · rw [if_neg z]
    by_cases y : far (ho i) < 0
    · rw [if_pos y]; constructor
      · intro h; exact absurd rfl h
      · intro h; omega
    · rw [if_neg y]
      rcases H (ho i) (by omega) (by omega) with w | w
      · exact absurd w y
      · have a := P.1 (ho i) (by omega) (by omega)
        have b := D i (ho i) hi.1 hi.2 (by omega) (by omega)
        have c := w.1
        constructor
        · intro _; right; omega
        · intro _; omega
theorem bs_l {F : Of_} {ho far pi cb : Int → Int} {st : Int → Nat} (D : of_d F) (P : po_ F ho pi) (H : ∀ q, 0 ≤ q → q < F.n → fi_ F ho pi far cb st q) {i : Int} (hi : F.f ≤ i ∧ i < F.e) (h : bs_ F ho far i ≠ -1) : 9989 ≤ bs_ F ho far i := by
  have hr := P.2.1 i hi.1 hi.2
  unfold bs_ at h ⊢
  by_cases z : ho i = -1
  · rw [if_pos z]; decide
  · rw [if_neg z] at h ⊢
    by_cases y : far (ho i) < 0
    · rw [if_pos y] at h; exact absurd rfl h
    · rw [if_neg y]
      rcases H (ho i) (by omega) (by omega) with w | w
      · exact absurd w y
      · have a := P.1 (ho i) (by omega) (by omega)
        have b := D i (ho i) hi.1 hi.2 (by omega) (by omega)
        have c := w.1
        omega
/-- an official that is reached: the way by which -/
theorem fx_t {F : Of_} {ho far pi cb : Int → Int} {st : Int → Nat} (D : of_d F) (X : fx_ F ho pi far cb st) {o : Int} (h : 0 ≤ o ∧ o < F.n) (hr : 0 ≤ far o) :
    pi o ≤ far o ∧ (F.f ≤ cb o ∧ cb o < F.e) ∧ F.A (cb o) o ∧ ho (cb o) ≠ o ∧ ((ho (cb o) = -1 ∧ far o = 10000 + F.d (cb o) o) ∨ ((0 ≤ ho (cb o) ∧ ho (cb o) < F.n) ∧ 0 ≤ far (ho (cb o)) ∧ far o = far (ho (cb o)) - F.d (cb o) (ho (cb o)) + F.d (cb o) o ∧ st (ho (cb o)) < st o)) := by
  obtain ⟨P, H, R⟩ := X
  rcases H o h.1 h.2 with w | ⟨w1, w2, w3, w4, w5⟩
  · omega
  · have hh := P.2.1 (cb o) w2.1 w2.2
    refine ⟨w1, w2, w3, w4, ?_⟩
    have r := R (cb o) o w2.1 w2.2 h.1 h.2 w3 w4
    rcases w5 with y | ⟨y1, y2, y3, y4⟩
    · have := r ((bs_n D P H w2).mpr (Or.inl y.1))
      unfold bs_ at this
      rw [if_pos y.1] at this
      exact Or.inl ⟨y.1, by omega⟩
    · have := r ((bs_n D P H w2).mpr (Or.inr y2))
      unfold bs_ at this
      rw [if_neg y1, if_neg (by omega)] at this
      exact Or.inr ⟨by omega, y2, by omega, y4 (by omega)⟩
/-- the new potentials -/
def pn_ (pi far : Int → Int) (D : Int) : Int → Int := fun o => if far o < 0 then pi o + D else if far o ≤ pi o + D then far o else pi o + D
/-- a match that got another official on the way -/
def chg_ (F : Of_) (ho h1 pi far : Int → Int) (D i : Int) : Prop := (0 ≤ h1 i ∧ h1 i < F.n) ∧ 0 ≤ far (h1 i) ∧ far (h1 i) ≤ pi (h1 i) + D ∧
  ((ho i = -1 ∧ far (h1 i) = 10000 + F.d i (h1 i)) ∨ (0 ≤ ho i ∧ 0 ≤ far (ho i) ∧ far (ho i) ≤ pi (ho i) + D ∧ far (h1 i) = far (ho i) - F.d i (ho i) + F.d i (h1 i)))
/-- the state while a way is gone back: o is the official still to be placed -/
def wy_ (F : Of_) (ho h1 pi far : Int → Int) (st : Int → Nat) (D o : Int) : Prop := (o = -1 ∨ ((0 ≤ o ∧ o < F.n) ∧ 0 ≤ far o ∧ far o ≤ pi o + D)) ∧
  ∀ i, F.f ≤ i → i < F.e → h1 i = ho i ∨ (chg_ F ho h1 pi far D i ∧ (o ≠ -1 → ho i ≠ -1 ∧ st o ≤ st (ho i)))
theorem wy_s {F : Of_} {ho h1 far pi cb : Int → Int} {st : Int → Nat} {D o : Int} (Q : of_d F) (X : fx_ F ho pi far cb st) (W : wy_ F ho h1 pi far st D o) (h : o ≠ -1) :
    (F.f ≤ cb o ∧ cb o < F.e) ∧ h1 (cb o) = ho (cb o) ∧ wy_ F ho (fu_ h1 (cb o) o) pi far st D (h1 (cb o)) ∧ (h1 (cb o) = -1 ∨ st (h1 (cb o)) < st o) := by
  obtain ⟨W1, W2⟩ := W
  obtain ⟨ho0, hf, hd⟩ := W1.resolve_left h
  obtain ⟨t1, t2, t3, t4, t5⟩ := fx_t Q X ho0 hf
  have e1 : h1 (cb o) = ho (cb o) := by
    rcases W2 (cb o) t2.1 t2.2 with w | ⟨_, w⟩
    · exact w
    · have := w h
      rcases t5 with y | y
      · exact absurd y.1 this.1
      · omega
  have pe := X.1.2.2 (cb o) o t2.1 t2.2 ho0.1 ho0.2 t3 t4
  refine ⟨t2, e1, ⟨?_, fun i a b => ?_⟩, ?_⟩
  · rw [e1]
    rcases t5 with y | y
    · exact Or.inl y.1
    · have := pe.2 (by omega)
      exact Or.inr ⟨y.1, y.2.1, by omega⟩
  · by_cases z : i = cb o
    · subst z
      right
      refine ⟨?_, fun q => ?_⟩
      · unfold chg_
        rw [fu_s]
        refine ⟨ho0, hf, hd, ?_⟩
        rcases t5 with y | y
        · exact Or.inl y
        · have := pe.2 (by omega)
          exact Or.inr ⟨y.1.1, y.2.1, by omega, y.2.2.1⟩
      · rw [e1] at q ⊢; exact ⟨q, Nat.le_refl _⟩
    · rcases W2 i a b with w | ⟨w1, w2⟩
      · left; rw [fu_n z]; exact w
      · right
        refine ⟨?_, fun q => ?_⟩
        · unfold chg_ at w1 ⊢
          rw [fu_n z]; exact w1
        · have k := w2 h
          refine ⟨k.1, ?_⟩
          rw [e1]
          rcases t5 with y | y
          · rw [e1] at q; exact absurd y.1 q
          · omega
  · rw [e1]
    rcases t5 with y | y
    · exact Or.inl y.1
    · exact Or.inr y.2.2.2
/-- the way is gone back: the new potentials hold -/
theorem wy_e {F : Of_} {ho h1 far pi cb : Int → Int} {st : Int → Nat} {D : Int} (Q : of_d F) (X : fx_ F ho pi far cb st) (hD : 0 ≤ D) (W : wy_ F ho h1 pi far st D (-1)) : po_ F h1 (pn_ pi far D) := by
  obtain ⟨P, H, R⟩ := X
  have pf : ∀ o, 0 ≤ far o → far o ≤ pi o + D → pn_ pi far D o = far o := fun o a b => by unfold pn_; rw [if_neg (by omega), if_pos b]
  have pl : ∀ o, pn_ pi far D o ≤ pi o + D ∧ (0 ≤ far o → pn_ pi far D o ≤ far o) := fun o => by
    unfold pn_
    split
    · exact ⟨by omega, fun h => by omega⟩
    · split <;> exact ⟨by omega, fun h => by omega⟩
  have pg : ∀ o, 0 ≤ o → o < F.n → pi o ≤ pn_ pi far D o := fun o a b => by
    unfold pn_
    split
    · omega
    · split
      · rcases H o a b with w | w
        · omega
        · exact w.1
      · omega
  -- the old way of passing on, under the new potentials
  have old : ∀ i o, F.f ≤ i → i < F.e → 0 ≤ o → o < F.n → F.A i o → ho i ≠ o → (ho i = -1 → pn_ pi far D o ≤ 10000 + F.d i o) ∧ (ho i ≠ -1 → pn_ pi far D o ≤ pn_ pi far D (ho i) + F.d i o - F.d i (ho i)) := fun i o a b c d hA hn => by
    have hr := P.2.1 i a b
    have pe := P.2.2 i o a b c d hA hn
    have r := R i o a b c d hA hn
    constructor
    · intro z
      have k := r ((bs_n Q P H ⟨a, b⟩).mpr (Or.inl z))
      unfold bs_ at k
      rw [if_pos z] at k
      have := (pl o).2 k.1
      omega
    · intro z
      have pe2 := pe.2 z
      have po := pl o
      by_cases y : far (ho i) < 0
      · have e : pn_ pi far D (ho i) = pi (ho i) + D := by unfold pn_; rw [if_pos y]
        rw [e]; omega
      · have k := r ((bs_n Q P H ⟨a, b⟩).mpr (Or.inr (by omega)))
        unfold bs_ at k
        rw [if_neg z, if_neg y] at k
        have po2 := po.2 k.1
        by_cases x : far (ho i) ≤ pi (ho i) + D
        · rw [pf (ho i) (by omega) x]; omega
        · have e : pn_ pi far D (ho i) = pi (ho i) + D := by unfold pn_; rw [if_neg y, if_neg x]
          rw [e]; omega
  refine ⟨fun o a b => Int.le_trans (P.1 o a b) (pg o a b), fun i a b => ?_, fun i o a b c d hA hn => ?_⟩
  · rcases W.2 i a b with w | ⟨w, _⟩
    · rw [w]; exact P.2.1 i a b
    · have := w.1; omega
  · rcases W.2 i a b with w | ⟨⟨w1, w2, w3, w4⟩, _⟩
    · rw [w] at hn ⊢; exact old i o a b c d hA hn
    · refine ⟨fun z => by omega, fun _ => ?_⟩
      rw [pf (h1 i) w2 w3]
      rcases w4 with y | y
      · have := (old i o a b c d hA (by omega)).1 y.1
        omega
      · by_cases x : ho i = o
        · rw [← x, pf (ho i) y.2.1 y.2.2.1]; omega
        · have := (old i o a b c d hA x).2 (by omega)
          rw [pf (ho i) y.2.1 y.2.2.1] at this
          omega
/-- lengths, summed; what is not reached counts 20000 -/
def m1_ (v : Int) : Int := if v < 0 then 20000 else v
def mu8_ (f : Int → Int) : Int := m1_ (f 0) + m1_ (f 1) + m1_ (f 2) + m1_ (f 3) + m1_ (f 4) + m1_ (f 5) + m1_ (f 6) + m1_ (f 7)
def r1_ (v : Int) : Int := if v < 0 then 0 else 1
def rc8_ (f : Int → Int) : Int := r1_ (f 0) + r1_ (f 1) + r1_ (f 2) + r1_ (f 3) + r1_ (f 4) + r1_ (f 5) + r1_ (f 6) + r1_ (f 7)
theorem m1_n (v : Int) : 0 ≤ m1_ v := by unfold m1_; split <;> omega
theorem r1_n (v : Int) : 0 ≤ r1_ v ∧ r1_ v ≤ 1 := by unfold r1_; split <;> omega
theorem mu8_n (f : Int → Int) : 0 ≤ mu8_ f := by
  have a0 := m1_n (f 0); have a1 := m1_n (f 1); have a2 := m1_n (f 2); have a3 := m1_n (f 3); have a4 := m1_n (f 4); have a5 := m1_n (f 5); have a6 := m1_n (f 6); have a7 := m1_n (f 7)
  unfold mu8_; omega
theorem rc8_n (f : Int → Int) : 0 ≤ rc8_ f ∧ rc8_ f ≤ 8 := by
  have a0 := r1_n (f 0); have a1 := r1_n (f 1); have a2 := r1_n (f 2); have a3 := r1_n (f 3); have a4 := r1_n (f 4); have a5 := r1_n (f 5); have a6 := r1_n (f 6); have a7 := r1_n (f 7)
  unfold rc8_; omega
theorem mu8_u {f : Int → Int} {o v : Int} (h : 0 ≤ o ∧ o < 8) : mu8_ (fu_ f o v) = mu8_ f - m1_ (f o) + m1_ v ∧ rc8_ (fu_ f o v) = rc8_ f - r1_ (f o) + r1_ v := by
  unfold mu8_ rc8_ fu_
  rcases (by omega : o = 0 ∨ o = 1 ∨ o = 2 ∨ o = 3 ∨ o = 4 ∨ o = 5 ∨ o = 6 ∨ o = 7) with z | z | z | z | z | z | z | z <;> subst z <;> simp <;> omega
/-- the lengths are within what their number allows -/
def fb_ (n : Int) (f : Int → Int) : Prop := ∀ o, 0 ≤ o → o < n → f o ≤ 10000 + 11 * rc8_ f
theorem fb_u {n : Int} {f : Int → Int} {o v : Int} (h : fb_ n f) (hn : n ≤ 8) (ho : 0 ≤ o ∧ o < n) (hs : f o < 0 ∨ v < f o) (h0 : 0 ≤ v) (hv : v ≤ 10011 + 11 * rc8_ f) : fb_ n (fu_ f o v) ∧ mu8_ (fu_ f o v) < mu8_ f := by
  have k := mu8_u (f := f) (o := o) (v := v) (by omega)
  have r0 := rc8_n f
  have hb := h o ho.1 ho.2
  have e1 : m1_ v = v ∧ r1_ v = 1 := by unfold m1_ r1_; rw [if_neg (by omega), if_neg (by omega)]; exact ⟨rfl, rfl⟩
  by_cases z : f o < 0
  · have e2 : m1_ (f o) = 20000 ∧ r1_ (f o) = 0 := by unfold m1_ r1_; rw [if_pos z, if_pos z]; exact ⟨rfl, rfl⟩
    refine ⟨fun q a b => ?_, by omega⟩
    by_cases y : q = o
    · rw [y, fu_s]; omega
    · rw [fu_n y]; have := h q a b; omega
  · have e2 : m1_ (f o) = f o ∧ r1_ (f o) = 1 := by unfold m1_ r1_; rw [if_neg z, if_neg z]; exact ⟨rfl, rfl⟩
    refine ⟨fun q a b => ?_, by omega⟩
    by_cases y : q = o
    · rw [y, fu_s]; omega
    · rw [fu_n y]; have := h q a b; omega
def fm9_ (mr mu : Int) : Nat := if mr = 0 then 0 else (mu + 1).toNat
theorem fm9_l {mr mr' mu mu' : Int} (h : mr ≠ 0) (h0 : 0 ≤ mu) (h1 : 0 ≤ mu') (k : mr' = 0 ∨ mu' < mu) : fm9_ mr' mu' < fm9_ mr mu := by
  unfold fm9_
  rw [if_neg h]
  split <;> omega
/-- how many hold no match -/
def nh_ (f : Int → Int) : Int := r1_ (-1 - f 0) + r1_ (-1 - f 1) + r1_ (-1 - f 2) + r1_ (-1 - f 3) + r1_ (-1 - f 4) + r1_ (-1 - f 5) + r1_ (-1 - f 6) + r1_ (-1 - f 7)
theorem nh_n (f : Int → Int) : 0 ≤ nh_ f := by
  have a0 := r1_n (-1 - f 0); have a1 := r1_n (-1 - f 1); have a2 := r1_n (-1 - f 2); have a3 := r1_n (-1 - f 3); have a4 := r1_n (-1 - f 4); have a5 := r1_n (-1 - f 5); have a6 := r1_n (-1 - f 6); have a7 := r1_n (-1 - f 7)
  unfold nh_; omega
theorem nh_l {f g : Int → Int} {o : Int} (ho : 0 ≤ o ∧ o < 8) (h : ∀ k, 0 ≤ k → k < 8 → -1 ≤ g k ∧ (f k ≠ -1 → g k ≠ -1)) (hf : ∀ k, 0 ≤ k → k < 8 → -1 ≤ f k) (h1 : f o = -1) (h2 : g o ≠ -1) : nh_ g < nh_ f := by
  have k : ∀ q, 0 ≤ q → q < 8 → r1_ (-1 - g q) + (if q = o then 1 else 0) ≤ r1_ (-1 - f q) := fun q a b => by
    have p := h q a b
    have p2 := hf q a b
    unfold r1_
    by_cases z : q = o
    · subst z
      rw [if_pos (by omega), if_pos rfl, if_neg (by omega)]; decide
    · rw [if_neg z]
      by_cases y : f q = -1
      · rw [if_neg (show ¬ (-1 - f q < 0) by omega)]; split <;> omega
      · rw [if_pos (show -1 - g q < 0 by omega), if_pos (show -1 - f q < 0 by omega)]; decide
  have k0 := k 0 (by decide) (by decide); have k1 := k 1 (by decide) (by decide); have k2 := k 2 (by decide) (by decide); have k3 := k 3 (by decide) (by decide); have k4 := k 4 (by decide) (by decide); have k5 := k 5 (by decide) (by decide); have k6 := k 6 (by decide) (by decide); have k7 := k 7 (by decide) (by decide)
  unfold nh_
  have s : (if (0 : Int) = o then (1 : Int) else 0) + (if (1 : Int) = o then 1 else 0) + (if (2 : Int) = o then 1 else 0) + (if (3 : Int) = o then 1 else 0) + (if (4 : Int) = o then 1 else 0) + (if (5 : Int) = o then 1 else 0) + (if (6 : Int) = o then 1 else 0) + (if (7 : Int) = o then 1 else 0) = 1 := by
    rcases (by omega : o = 0 ∨ o = 1 ∨ o = 2 ∨ o = 3 ∨ o = 4 ∨ o = 5 ∨ o = 6 ∨ o = 7) with z | z | z | z | z | z | z | z <;> subst z <;> decide
  omega
def di_ (T : Zt) (m o : Int) : Int := if (T 222 0 o - T 213 0 (T 232 0 m)) < 0 then -(T 222 0 o - T 213 0 (T 232 0 m)) else (T 222 0 o - T 213 0 (T 232 0 m))
def ld_ (T : Zt) (m o : Int) : Prop := T 223 0 o ≠ T 214 0 (T 232 0 m) ∧ T 223 0 o ≠ T 214 0 (T 233 0 m)
abbrev cX11_mayLead : ByteArray := prog_13_method_122_code
def yX11_mayLead : MethodName := ⟨RX11, "mayLead", "(II)Z"⟩
def zX11_mayLead : Zm := (RX11, cX11_mayLead, 3, (some .boolean), { frames := 0, cells := 0, slots := 0, locals := 0 })
theorem bk_X11_mayLead_0 : ck_ fX11 (some .boolean) cX11_mayLead 0 [.aload 0, .tableswitch 0 11 23 #[], .iload 2, .iaload, .aload 0, .tableswitch 0 11 14 #[], .aload 0, .tableswitch 0 11 32 #[], .iload 1, .iaload, .iaload, .if_icmp .eq 44, .aload 0, .tableswitch 0 11 23 #[], .iload 2, .iaload, .aload 0, .tableswitch 0 11 14 #[], .aload 0, .tableswitch 0 11 33 #[], .iload 1, .iaload, .iaload, .if_icmp .eq 44, .iconst 1, .goto 45] 44 = true := qck_r (nn_ _) (by decide +kernel)
theorem bs_X11_mayLead_0 {P : Zt → Option Zv → Prop} (K : Int → Zl → List Zv → Zt → Prop) : sx_ K P [.aload 0, .tableswitch 0 11 23 #[], .iload 2, .iaload, .aload 0, .tableswitch 0 11 14 #[], .aload 0, .tableswitch 0 11 32 #[], .iload 1, .iaload, .iaload, .if_icmp .eq 44, .aload 0, .tableswitch 0 11 23 #[], .iload 2, .iaload, .aload 0, .tableswitch 0 11 14 #[], .aload 0, .tableswitch 0 11 33 #[], .iload 1, .iaload, .iaload, .if_icmp .eq 44, .iconst 1, .goto 45] 44 = x_aload 0 (x_g1 111 223 (x_iload 2 (x_iaload (x_aload 0 (x_g1 111 214 (x_aload 0 (x_g1 111 232 (x_iload 1 (x_iaload (x_iaload (x_if_icmp .eq 44 K (x_aload 0 (x_g1 111 223 (x_iload 2 (x_iaload (x_aload 0 (x_g1 111 214 (x_aload 0 (x_g1 111 233 (x_iload 1 (x_iaload (x_iaload (x_if_icmp .eq 44 K (x_iconst 1 (x_goto 45 K))))))))))))))))))))))))) := ((xe_aload 0).trans (congrArg (x_aload 0) ((xe_g1 (kk := 111) rfl tl_11_23).trans (congrArg (x_g1 111 223) ((xe_iload 2).trans (congrArg (x_iload 2) ((xe_iaload).trans (congrArg (x_iaload) ((xe_aload 0).trans (congrArg (x_aload 0) ((xe_g1 (kk := 111) rfl tl_11_14).trans (congrArg (x_g1 111 214) ((xe_aload 0).trans (congrArg (x_aload 0) ((xe_g1 (kk := 111) rfl tl_11_32).trans (congrArg (x_g1 111 232) ((xe_iload 1).trans (congrArg (x_iload 1) ((xe_iaload).trans (congrArg (x_iaload) ((xe_iaload).trans (congrArg (x_iaload) ((xe_if_icmp .eq 44).trans (congrArg (x_if_icmp .eq 44 K) ((xe_aload 0).trans (congrArg (x_aload 0) ((xe_g1 (kk := 111) rfl tl_11_23).trans (congrArg (x_g1 111 223) ((xe_iload 2).trans (congrArg (x_iload 2) ((xe_iaload).trans (congrArg (x_iaload) ((xe_aload 0).trans (congrArg (x_aload 0) ((xe_g1 (kk := 111) rfl tl_11_14).trans (congrArg (x_g1 111 214) ((xe_aload 0).trans (congrArg (x_aload 0) ((xe_g1 (kk := 111) rfl tl_11_33).trans (congrArg (x_g1 111 233) ((xe_iload 1).trans (congrArg (x_iload 1) ((xe_iaload).trans (congrArg (x_iaload) ((xe_iaload).trans (congrArg (x_iaload) ((xe_if_icmp .eq 44).trans (congrArg (x_if_icmp .eq 44 K) ((xe_iconst 1).trans (congrArg (x_iconst 1) (xe_goto 45)))))))))))))))))))))))))))))))))))))))))))))))))))
theorem bk_X11_mayLead_44 : ck_ fX11 (some .boolean) cX11_mayLead 44 [.iconst 0, .ireturn] 46 = true := qck_r (nn_ _) (by decide +kernel)
theorem bs_X11_mayLead_44 {P : Zt → Option Zv → Prop} (K : Int → Zl → List Zv → Zt → Prop) : sx_ K P [.iconst 0, .ireturn] 46 = x_iconst 0 (x_ireturn P) := ((xe_iconst 0).trans (congrArg (x_iconst 0) (xe_ireturn)))
theorem bk_X11_mayLead_45 : ck_ fX11 (some .boolean) cX11_mayLead 45 [.ireturn] 46 = true := qck_r (nn_ _) (by decide +kernel)
theorem bs_X11_mayLead_45 {P : Zt → Option Zv → Prop} (K : Int → Zl → List Zv → Zt → Prop) : sx_ K P [.ireturn] 46 = x_ireturn P := (xe_ireturn)
abbrev po_X11_mayLead (T : Zt) (m o : Int) : Zt → Option Zv → Prop := fun T' r => T = T' ∧ ∃ x : Int, r = some (vI x) ∧ ((x = 1 ∧ ld_ T m o) ∨ (x = 0 ∧ ¬ ld_ T m o))
set_option maxHeartbeats 4000000 in
theorem ct_X11_mayLead {T : Zt} {m o : Int} (h1 : 0 ≤ m ∧ m < 400) (h2 : 0 ≤ o ∧ o < 8) : Ct_ yX11_mayLead zX11_mayLead T [vR 111 0, vI m, vI o] (po_X11_mayLead T m o) := by
  refine ct_of pn_11 rfl rfl (Nat.le_of_ble_eq_true rfl) (fun hT hav => ?_)
  have hr_m : -2147483648 ≤ m ∧ m ≤ 2147483647 := hav (vI m) (List.mem_cons_of_mem _ List.mem_cons_self)
  have hr_o : -2147483648 ≤ o ∧ o ≤ 2147483647 := hav (vI o) (List.mem_cons_of_mem _ (List.mem_cons_of_mem _ List.mem_cons_self))
  have hz : zX11_mayLead.2.2.2.1 = some .boolean → ∀ (T' : Zt) (x : Int), po_X11_mayLead T m o T' (some (vI x)) → 0 ≤ x ∧ x ≤ 1 := fun _ T' x h => by obtain ⟨-, y, e, hy⟩ := h; cases e; rcases hy with z | z <;> omega
  show J_ zX11_mayLead T (po_X11_mayLead T m o) 0 0 0 [some (vR 111 0), some (vI m), some (vI o)] [] T
  refine j_blx (F := fX11) tb_X11 (nn_ _) bk_X11_mayLead_0 bs_X11_mayLead_0 hz (fun K hK => ?_)
  refine ix_i (by omega) ?_
  intro b1 b1b
  refine ix_i (by omega) ?_
  intro b2 b2b
  refine ix_i (by omega) ?_
  intro b3 b3b
  refine And.intro (fun c4 => ?_) (fun c4 => ?_)
  · refine hK 44 _ [] T ?_
    refine j_blx (F := fX11) tb_X11 (nn_ _) bk_X11_mayLead_44 bs_X11_mayLead_44 hz (fun K hK => ?_)
    refine (show po_X11_mayLead T m o T (some (vI 0)) from ?_)
    exact ⟨rfl, _, rfl, Or.inr ⟨rfl, by unfold ld_; omega⟩⟩
  · refine ix_i (by omega) ?_
    intro b5 b5b
    refine ix_i (by omega) ?_
    intro b6 b6b
    refine ix_i (by omega) ?_
    intro b7 b7b
    refine And.intro (fun c8 => ?_) (fun c8 => ?_)
    · refine hK 44 _ [] T ?_
      refine j_blx (F := fX11) tb_X11 (nn_ _) bk_X11_mayLead_44 bs_X11_mayLead_44 hz (fun K hK => ?_)
      refine (show po_X11_mayLead T m o T (some (vI 0)) from ?_)
      exact ⟨rfl, _, rfl, Or.inr ⟨rfl, by unfold ld_; omega⟩⟩
    · refine hK 45 _ [vI 1] T ?_
      refine j_blx (F := fX11) tb_X11 (nn_ _) bk_X11_mayLead_45 bs_X11_mayLead_45 hz (fun K hK => ?_)
      refine (show po_X11_mayLead T m o T (some (vI 1)) from ?_)
      exact ⟨rfl, _, rfl, Or.inl ⟨rfl, by unfold ld_; omega⟩⟩
abbrev cX11_distanceOf : ByteArray := prog_13_method_123_code
def yX11_distanceOf : MethodName := ⟨RX11, "distanceOf", "(II)I"⟩
def zX11_distanceOf : Zm := (RX11, cX11_distanceOf, 4, (some .int), { frames := 0, cells := 0, slots := 0, locals := 0 })
theorem bk_X11_distanceOf_0 : ck_ fX11 (some .int) cX11_distanceOf 0 [.aload 0, .tableswitch 0 11 22 #[], .iload 2, .iaload, .aload 0, .tableswitch 0 11 13 #[], .aload 0, .tableswitch 0 11 32 #[], .iload 1, .iaload, .iaload, .isub, .istore 3, .iload 3, .ifCond .ge 28, .iload 3, .ineg, .goto 29] 28 = true := qck_r (nn_ _) (by decide +kernel)
theorem bs_X11_distanceOf_0 {P : Zt → Option Zv → Prop} (K : Int → Zl → List Zv → Zt → Prop) : sx_ K P [.aload 0, .tableswitch 0 11 22 #[], .iload 2, .iaload, .aload 0, .tableswitch 0 11 13 #[], .aload 0, .tableswitch 0 11 32 #[], .iload 1, .iaload, .iaload, .isub, .istore 3, .iload 3, .ifCond .ge 28, .iload 3, .ineg, .goto 29] 28 = x_aload 0 (x_g1 111 222 (x_iload 2 (x_iaload (x_aload 0 (x_g1 111 213 (x_aload 0 (x_g1 111 232 (x_iload 1 (x_iaload (x_iaload (x_isub (x_istore 3 (x_iload 3 (x_ifCond .ge 28 K (x_iload 3 (x_ineg (x_goto 29 K))))))))))))))))) := ((xe_aload 0).trans (congrArg (x_aload 0) ((xe_g1 (kk := 111) rfl tl_11_22).trans (congrArg (x_g1 111 222) ((xe_iload 2).trans (congrArg (x_iload 2) ((xe_iaload).trans (congrArg (x_iaload) ((xe_aload 0).trans (congrArg (x_aload 0) ((xe_g1 (kk := 111) rfl tl_11_13).trans (congrArg (x_g1 111 213) ((xe_aload 0).trans (congrArg (x_aload 0) ((xe_g1 (kk := 111) rfl tl_11_32).trans (congrArg (x_g1 111 232) ((xe_iload 1).trans (congrArg (x_iload 1) ((xe_iaload).trans (congrArg (x_iaload) ((xe_iaload).trans (congrArg (x_iaload) ((xe_isub).trans (congrArg (x_isub) ((xe_istore 3).trans (congrArg (x_istore 3) ((xe_iload 3).trans (congrArg (x_iload 3) ((xe_ifCond .ge 28).trans (congrArg (x_ifCond .ge 28 K) ((xe_iload 3).trans (congrArg (x_iload 3) ((xe_ineg).trans (congrArg (x_ineg) (xe_goto 29)))))))))))))))))))))))))))))))))))
theorem bk_X11_distanceOf_28 : ck_ fX11 (some .int) cX11_distanceOf 28 [.iload 3, .ireturn] 30 = true := qck_r (nn_ _) (by decide +kernel)
theorem bs_X11_distanceOf_28 {P : Zt → Option Zv → Prop} (K : Int → Zl → List Zv → Zt → Prop) : sx_ K P [.iload 3, .ireturn] 30 = x_iload 3 (x_ireturn P) := ((xe_iload 3).trans (congrArg (x_iload 3) (xe_ireturn)))
theorem bk_X11_distanceOf_29 : ck_ fX11 (some .int) cX11_distanceOf 29 [.ireturn] 30 = true := qck_r (nn_ _) (by decide +kernel)
theorem bs_X11_distanceOf_29 {P : Zt → Option Zv → Prop} (K : Int → Zl → List Zv → Zt → Prop) : sx_ K P [.ireturn] 30 = x_ireturn P := (xe_ireturn)
abbrev po_X11_distanceOf (T : Zt) (m o : Int) : Zt → Option Zv → Prop := fun T' r => T = T' ∧ r = some (vI (di_ T m o))
set_option maxHeartbeats 4000000 in
theorem ct_X11_distanceOf {T : Zt} {m o : Int} (h1 : 0 ≤ m ∧ m < 400) (h2 : 0 ≤ o ∧ o < 8) : Ct_ yX11_distanceOf zX11_distanceOf T [vR 111 0, vI m, vI o] (po_X11_distanceOf T m o) := by
  refine ct_of pn_11 rfl rfl (Nat.le_of_ble_eq_true rfl) (fun hT hav => ?_)
  have hr_m : -2147483648 ≤ m ∧ m ≤ 2147483647 := hav (vI m) (List.mem_cons_of_mem _ List.mem_cons_self)
  have hr_o : -2147483648 ≤ o ∧ o ≤ 2147483647 := hav (vI o) (List.mem_cons_of_mem _ (List.mem_cons_of_mem _ List.mem_cons_self))
  have hz : zX11_distanceOf.2.2.2.1 = some .boolean → ∀ (T' : Zt) (x : Int), po_X11_distanceOf T m o T' (some (vI x)) → 0 ≤ x ∧ x ≤ 1 := fun h => by cases h
  show J_ zX11_distanceOf T (po_X11_distanceOf T m o) 0 0 0 [some (vR 111 0), some (vI m), some (vI o), none] [] T
  refine j_blx (F := fX11) tb_X11 (nn_ _) bk_X11_distanceOf_0 bs_X11_distanceOf_0 hz (fun K hK => ?_)
  refine ix_i (by omega) ?_
  intro b1 b1b
  refine ix_i (by omega) ?_
  intro b2 b2b
  refine ix_i (by omega) ?_
  intro b3 b3b
  refine rg_i (by omega) ?_
  refine And.intro (fun c4 => ?_) (fun c4 => ?_)
  · refine hK 28 [some (vR 111 0), some (vI m), some (vI o), some (vI ((T 222 0 o) - (T 213 0 (T 232 0 m))))] [] T ?_
    refine j_blx (F := fX11) tb_X11 (nn_ _) bk_X11_distanceOf_28 bs_X11_distanceOf_28 hz (fun K hK => ?_)
    refine (show po_X11_distanceOf T m o T (some (vI ((T 222 0 o) - (T 213 0 (T 232 0 m))))) from ?_)
    exact ⟨rfl, by unfold di_; first | rw [if_pos (by omega)] | rw [if_neg (by omega)]⟩
  · refine rg_i (by omega) ?_
    refine hK 29 _ [vI (-((T 222 0 o) - (T 213 0 (T 232 0 m))))] T ?_
    refine j_blx (F := fX11) tb_X11 (nn_ _) bk_X11_distanceOf_29 bs_X11_distanceOf_29 hz (fun K hK => ?_)
    refine (show po_X11_distanceOf T m o T (some (vI (-((T 222 0 o) - (T 213 0 (T 232 0 m)))))) from ?_)
    exact ⟨rfl, by unfold di_; first | rw [if_pos (by omega)] | rw [if_neg (by omega)]⟩
abbrev cX11_reach : ByteArray := prog_13_method_124_code
def yX11_reach : MethodName := ⟨RX11, "reach", "(III)Z"⟩
def zX11_reach : Zm := (RX11, cX11_reach, 5, (some .boolean), { frames := 0, cells := 0, slots := 0, locals := 0 })
theorem bk_X11_reach_0 : ck_ fX11 (some .boolean) cX11_reach 0 [.aload 0, .tableswitch 0 11 109 #[], .iload 2, .iaload, .ifCond .lt 19, .iload 3, .aload 0, .tableswitch 0 11 109 #[], .iload 2, .iaload, .if_icmp .ge 23, .iconst 1, .goto 24] 23 = true := qck_r (nn_ _) (by decide +kernel)
theorem bs_X11_reach_0 {P : Zt → Option Zv → Prop} (K : Int → Zl → List Zv → Zt → Prop) : sx_ K P [.aload 0, .tableswitch 0 11 109 #[], .iload 2, .iaload, .ifCond .lt 19, .iload 3, .aload 0, .tableswitch 0 11 109 #[], .iload 2, .iaload, .if_icmp .ge 23, .iconst 1, .goto 24] 23 = x_aload 0 (x_g1 111 309 (x_iload 2 (x_iaload (x_ifCond .lt 19 K (x_iload 3 (x_aload 0 (x_g1 111 309 (x_iload 2 (x_iaload (x_if_icmp .ge 23 K (x_iconst 1 (x_goto 24 K)))))))))))) := ((xe_aload 0).trans (congrArg (x_aload 0) ((xe_g1 (kk := 111) rfl tl_11_109).trans (congrArg (x_g1 111 309) ((xe_iload 2).trans (congrArg (x_iload 2) ((xe_iaload).trans (congrArg (x_iaload) ((xe_ifCond .lt 19).trans (congrArg (x_ifCond .lt 19 K) ((xe_iload 3).trans (congrArg (x_iload 3) ((xe_aload 0).trans (congrArg (x_aload 0) ((xe_g1 (kk := 111) rfl tl_11_109).trans (congrArg (x_g1 111 309) ((xe_iload 2).trans (congrArg (x_iload 2) ((xe_iaload).trans (congrArg (x_iaload) ((xe_if_icmp .ge 23).trans (congrArg (x_if_icmp .ge 23 K) ((xe_iconst 1).trans (congrArg (x_iconst 1) (xe_goto 24)))))))))))))))))))))))))
theorem bk_X11_reach_19 : ck_ fX11 (some .boolean) cX11_reach 19 [.iconst 1, .goto 24] 23 = true := qck_r (nn_ _) (by decide +kernel)
theorem bs_X11_reach_19 {P : Zt → Option Zv → Prop} (K : Int → Zl → List Zv → Zt → Prop) : sx_ K P [.iconst 1, .goto 24] 23 = x_iconst 1 (x_goto 24 K) := ((xe_iconst 1).trans (congrArg (x_iconst 1) (xe_goto 24)))
theorem bk_X11_reach_24 : ck_ fX11 (some .boolean) cX11_reach 24 [.istore 4, .aload 0, .tableswitch 0 11 109 #[], .iload 2, .iload 4, .ifCond .eq 40, .iload 3, .goto 46] 40 = true := qck_r (nn_ _) (by decide +kernel)
theorem bs_X11_reach_24 {P : Zt → Option Zv → Prop} (K : Int → Zl → List Zv → Zt → Prop) : sx_ K P [.istore 4, .aload 0, .tableswitch 0 11 109 #[], .iload 2, .iload 4, .ifCond .eq 40, .iload 3, .goto 46] 40 = x_istore 4 (x_aload 0 (x_g1 111 309 (x_iload 2 (x_iload 4 (x_ifCond .eq 40 K (x_iload 3 (x_goto 46 K))))))) := ((xe_istore 4).trans (congrArg (x_istore 4) ((xe_aload 0).trans (congrArg (x_aload 0) ((xe_g1 (kk := 111) rfl tl_11_109).trans (congrArg (x_g1 111 309) ((xe_iload 2).trans (congrArg (x_iload 2) ((xe_iload 4).trans (congrArg (x_iload 4) ((xe_ifCond .eq 40).trans (congrArg (x_ifCond .eq 40 K) ((xe_iload 3).trans (congrArg (x_iload 3) (xe_goto 46)))))))))))))))
theorem bk_X11_reach_46 : ck_ fX11 (some .boolean) cX11_reach 46 [.iastore, .aload 0, .tableswitch 0 11 110 #[], .iload 2, .iload 4, .ifCond .eq 61, .iload 1, .goto 67] 61 = true := qck_r (nn_ _) (by decide +kernel)
theorem bs_X11_reach_46 {P : Zt → Option Zv → Prop} (K : Int → Zl → List Zv → Zt → Prop) : sx_ K P [.iastore, .aload 0, .tableswitch 0 11 110 #[], .iload 2, .iload 4, .ifCond .eq 61, .iload 1, .goto 67] 61 = x_iastore (x_aload 0 (x_g1 111 310 (x_iload 2 (x_iload 4 (x_ifCond .eq 61 K (x_iload 1 (x_goto 67 K))))))) := ((xe_iastore).trans (congrArg (x_iastore) ((xe_aload 0).trans (congrArg (x_aload 0) ((xe_g1 (kk := 111) rfl tl_11_110).trans (congrArg (x_g1 111 310) ((xe_iload 2).trans (congrArg (x_iload 2) ((xe_iload 4).trans (congrArg (x_iload 4) ((xe_ifCond .eq 61).trans (congrArg (x_ifCond .eq 61 K) ((xe_iload 1).trans (congrArg (x_iload 1) (xe_goto 67)))))))))))))))
theorem bk_X11_reach_67 : ck_ fX11 (some .boolean) cX11_reach 67 [.iastore, .iload 4, .ireturn] 71 = true := qck_r (nn_ _) (by decide +kernel)
theorem bs_X11_reach_67 {P : Zt → Option Zv → Prop} (K : Int → Zl → List Zv → Zt → Prop) : sx_ K P [.iastore, .iload 4, .ireturn] 71 = x_iastore (x_iload 4 (x_ireturn P)) := ((xe_iastore).trans (congrArg (x_iastore) ((xe_iload 4).trans (congrArg (x_iload 4) (xe_ireturn)))))
theorem bk_X11_reach_23 : ck_ fX11 (some .boolean) cX11_reach 23 [.iconst 0, .istore 4, .aload 0, .tableswitch 0 11 109 #[], .iload 2, .iload 4, .ifCond .eq 40, .iload 3, .goto 46] 40 = true := qck_r (nn_ _) (by decide +kernel)
theorem bs_X11_reach_23 {P : Zt → Option Zv → Prop} (K : Int → Zl → List Zv → Zt → Prop) : sx_ K P [.iconst 0, .istore 4, .aload 0, .tableswitch 0 11 109 #[], .iload 2, .iload 4, .ifCond .eq 40, .iload 3, .goto 46] 40 = x_iconst 0 (x_istore 4 (x_aload 0 (x_g1 111 309 (x_iload 2 (x_iload 4 (x_ifCond .eq 40 K (x_iload 3 (x_goto 46 K)))))))) := ((xe_iconst 0).trans (congrArg (x_iconst 0) ((xe_istore 4).trans (congrArg (x_istore 4) ((xe_aload 0).trans (congrArg (x_aload 0) ((xe_g1 (kk := 111) rfl tl_11_109).trans (congrArg (x_g1 111 309) ((xe_iload 2).trans (congrArg (x_iload 2) ((xe_iload 4).trans (congrArg (x_iload 4) ((xe_ifCond .eq 40).trans (congrArg (x_ifCond .eq 40 K) ((xe_iload 3).trans (congrArg (x_iload 3) (xe_goto 46)))))))))))))))))
theorem bk_X11_reach_40 : ck_ fX11 (some .boolean) cX11_reach 40 [.aload 0, .tableswitch 0 11 109 #[], .iload 2, .iaload, .iastore, .aload 0, .tableswitch 0 11 110 #[], .iload 2, .iload 4, .ifCond .eq 61, .iload 1, .goto 67] 61 = true := qck_r (nn_ _) (by decide +kernel)
theorem bs_X11_reach_40 {P : Zt → Option Zv → Prop} (K : Int → Zl → List Zv → Zt → Prop) : sx_ K P [.aload 0, .tableswitch 0 11 109 #[], .iload 2, .iaload, .iastore, .aload 0, .tableswitch 0 11 110 #[], .iload 2, .iload 4, .ifCond .eq 61, .iload 1, .goto 67] 61 = x_aload 0 (x_g1 111 309 (x_iload 2 (x_iaload (x_iastore (x_aload 0 (x_g1 111 310 (x_iload 2 (x_iload 4 (x_ifCond .eq 61 K (x_iload 1 (x_goto 67 K))))))))))) := ((xe_aload 0).trans (congrArg (x_aload 0) ((xe_g1 (kk := 111) rfl tl_11_109).trans (congrArg (x_g1 111 309) ((xe_iload 2).trans (congrArg (x_iload 2) ((xe_iaload).trans (congrArg (x_iaload) ((xe_iastore).trans (congrArg (x_iastore) ((xe_aload 0).trans (congrArg (x_aload 0) ((xe_g1 (kk := 111) rfl tl_11_110).trans (congrArg (x_g1 111 310) ((xe_iload 2).trans (congrArg (x_iload 2) ((xe_iload 4).trans (congrArg (x_iload 4) ((xe_ifCond .eq 61).trans (congrArg (x_ifCond .eq 61 K) ((xe_iload 1).trans (congrArg (x_iload 1) (xe_goto 67)))))))))))))))))))))))
theorem bk_X11_reach_61 : ck_ fX11 (some .boolean) cX11_reach 61 [.aload 0, .tableswitch 0 11 110 #[], .iload 2, .iaload, .iastore, .iload 4, .ireturn] 71 = true := qck_r (nn_ _) (by decide +kernel)
theorem bs_X11_reach_61 {P : Zt → Option Zv → Prop} (K : Int → Zl → List Zv → Zt → Prop) : sx_ K P [.aload 0, .tableswitch 0 11 110 #[], .iload 2, .iaload, .iastore, .iload 4, .ireturn] 71 = x_aload 0 (x_g1 111 310 (x_iload 2 (x_iaload (x_iastore (x_iload 4 (x_ireturn P)))))) := ((xe_aload 0).trans (congrArg (x_aload 0) ((xe_g1 (kk := 111) rfl tl_11_110).trans (congrArg (x_g1 111 310) ((xe_iload 2).trans (congrArg (x_iload 2) ((xe_iaload).trans (congrArg (x_iaload) ((xe_iastore).trans (congrArg (x_iastore) ((xe_iload 4).trans (congrArg (x_iload 4) (xe_ireturn)))))))))))))
abbrev po_X11_reach (T : Zt) (i o l : Int) : Zt → Option Zv → Prop := fun T' r => ∃ x : Int, r = some (vI x) ∧ fr_ [(309, []), (310, [])] T T' ∧ ((x = 1 ∧ (T 309 0 o < 0 ∨ l < T 309 0 o) ∧ (fun k => T' 309 0 k) = fu_ (fun k => T 309 0 k) o l ∧ (fun k => T' 310 0 k) = fu_ (fun k => T 310 0 k) o i) ∨ (x = 0 ∧ 0 ≤ T 309 0 o ∧ T 309 0 o ≤ l ∧ (fun k => T' 309 0 k) = (fun k => T 309 0 k) ∧ (fun k => T' 310 0 k) = (fun k => T 310 0 k)))
set_option maxHeartbeats 4000000 in
theorem ct_X11_reach {T : Zt} {i o l : Int} (h1 : 0 ≤ i ∧ i < 400) (h2 : 0 ≤ o ∧ o < 8) : Ct_ yX11_reach zX11_reach T [vR 111 0, vI i, vI o, vI l] (po_X11_reach T i o l) := by
  refine ct_of pn_11 rfl rfl (Nat.le_of_ble_eq_true rfl) (fun hT hav => ?_)
  have hr_i : -2147483648 ≤ i ∧ i ≤ 2147483647 := hav (vI i) (List.mem_cons_of_mem _ List.mem_cons_self)
  have hr_o : -2147483648 ≤ o ∧ o ≤ 2147483647 := hav (vI o) (List.mem_cons_of_mem _ (List.mem_cons_of_mem _ List.mem_cons_self))
  have hr_l : -2147483648 ≤ l ∧ l ≤ 2147483647 := hav (vI l) (List.mem_cons_of_mem _ (List.mem_cons_of_mem _ (List.mem_cons_of_mem _ List.mem_cons_self)))
  have hz : zX11_reach.2.2.2.1 = some .boolean → ∀ (T' : Zt) (x : Int), po_X11_reach T i o l T' (some (vI x)) → 0 ≤ x ∧ x ≤ 1 := fun _ T' x h => by obtain ⟨y, e, -, hy⟩ := h; cases e; rcases hy with z | z <;> omega
  show J_ zX11_reach T (po_X11_reach T i o l) 0 0 0 [some (vR 111 0), some (vI i), some (vI o), some (vI l), none] [] T
  refine j_blx (F := fX11) tb_X11 (nn_ _) bk_X11_reach_0 bs_X11_reach_0 hz (fun K hK => ?_)
  refine ix_i (by omega) ?_
  intro b1 b1b
  refine And.intro (fun c2 => ?_) (fun c2 => ?_)
  · refine hK 19 _ [] T ?_
    refine j_blx (F := fX11) tb_X11 (nn_ _) bk_X11_reach_19 bs_X11_reach_19 hz (fun K hK => ?_)
    refine hK 24 _ [vI 1] T ?_
    refine j_blx (F := fX11) tb_X11 (nn_ _) bk_X11_reach_24 bs_X11_reach_24 hz (fun K hK => ?_)
    refine And.intro (fun c3 => ?_) (fun c3 => ?_)
    · exact absurd c3 (by decide)
    · refine hK 46 [some (vR 111 0), some (vI i), some (vI o), some (vI l), some (vI 1)] [vI l, vI o, vR 309 0] T ?_
      refine j_blx (F := fX11) tb_X11 (nn_ _) bk_X11_reach_46 bs_X11_reach_46 hz (fun K hK => ?_)
      refine iy_i (by omega) (by omega) ?_
      refine x_nm (fun U4 hU4 => ?_)
      have e5 := up_f hU4
      refine And.intro (fun c6 => ?_) (fun c6 => ?_)
      · exact absurd c6 (by decide)
      · refine hK 67 _ [vI i, vI o, vR 310 0] U4 ?_
        refine j_blx (F := fX11) tb_X11 (nn_ _) bk_X11_reach_67 bs_X11_reach_67 hz (fun K hK => ?_)
        refine iy_i (by omega) (by omega) ?_
        refine x_nm (fun U7 hU7 => ?_)
        have e8 := up_f hU7
        refine (show po_X11_reach T i o l U7 (some (vI 1)) from ?_)
        have ea : (fun k => U7 309 0 k) = fu_ (fun k => T 309 0 k) o l := funext (fun k => by
            by_cases z : k = o
            · rw [z, up_k hU7 (by exact Nat.ne_of_beq_eq_false rfl), up_f hU4, fu_s]
            · rw [up_k hU7 (by exact Nat.ne_of_beq_eq_false rfl), up_g hU4 (fun q => z q.2.2), fu_n z])
        have eb : (fun k => U7 310 0 k) = fu_ (fun k => T 310 0 k) o i := funext (fun k => by
            by_cases z : k = o
            · rw [z, up_f hU7, fu_s]
            · rw [up_g hU7 (fun q => z q.2.2), up_k hU4 (by exact Nat.ne_of_beq_eq_false rfl), fu_n z])
        exact ⟨_, rfl, fr_u (fr_u (fr_0 _ _) hU4 rfl) hU7 rfl, Or.inl ⟨rfl, by omega, ea, eb⟩⟩
  · refine ix_i (by omega) ?_
    intro b9 b9b
    refine And.intro (fun c10 => ?_) (fun c10 => ?_)
    · refine hK 23 _ [] T ?_
      refine j_blx (F := fX11) tb_X11 (nn_ _) bk_X11_reach_23 bs_X11_reach_23 hz (fun K hK => ?_)
      refine And.intro (fun c11 => ?_) (fun c11 => ?_)
      · refine hK 40 [some (vR 111 0), some (vI i), some (vI o), some (vI l), some (vI 0)] [vI o, vR 309 0] T ?_
        refine j_blx (F := fX11) tb_X11 (nn_ _) bk_X11_reach_40 bs_X11_reach_40 hz (fun K hK => ?_)
        refine ix_i (by omega) ?_
        intro b12 b12b
        refine iy_i (by omega) (by omega) ?_
        refine x_nm (fun U13 hU13 => ?_)
        have e14 := up_f hU13
        refine And.intro (fun c15 => ?_) (fun c15 => ?_)
        · refine hK 61 _ [vI o, vR 310 0] U13 ?_
          refine j_blx (F := fX11) tb_X11 (nn_ _) bk_X11_reach_61 bs_X11_reach_61 hz (fun K hK => ?_)
          refine ix_i (by omega) ?_
          intro b16 b16b
          have e17 : U13 310 0 o = T 310 0 o := up_k hU13 (by exact Nat.ne_of_beq_eq_false rfl) 0 o
          rw [e17] at b16 b16b ⊢
          refine iy_i (by omega) (by omega) ?_
          refine x_nm (fun U18 hU18 => ?_)
          have e19 := up_f hU18
          refine (show po_X11_reach T i o l U18 (some (vI 0)) from ?_)
          have ea : (fun k => U18 309 0 k) = (fun k => T 309 0 k) := funext (fun k => by
              by_cases z : k = o
              · rw [z, up_k hU18 (by exact Nat.ne_of_beq_eq_false rfl), up_f hU13]
              · rw [up_k hU18 (by exact Nat.ne_of_beq_eq_false rfl), up_g hU13 (fun q => z q.2.2)])
          have eb : (fun k => U18 310 0 k) = (fun k => T 310 0 k) := funext (fun k => by
              by_cases z : k = o
              · rw [z, up_f hU18]
              · rw [up_g hU18 (fun q => z q.2.2), up_k hU13 (by exact Nat.ne_of_beq_eq_false rfl)])
          exact ⟨_, rfl, fr_u (fr_u (fr_0 _ _) hU13 rfl) hU18 rfl, Or.inr ⟨rfl, by omega, by omega, ea, eb⟩⟩
        · exact absurd c15 (by decide)
      · exact absurd c11 (by decide)
    · refine hK 24 _ [vI 1] T ?_
      refine j_blx (F := fX11) tb_X11 (nn_ _) bk_X11_reach_24 bs_X11_reach_24 hz (fun K hK => ?_)
      refine And.intro (fun c20 => ?_) (fun c20 => ?_)
      · exact absurd c20 (by decide)
      · refine hK 46 [some (vR 111 0), some (vI i), some (vI o), some (vI l), some (vI 1)] [vI l, vI o, vR 309 0] T ?_
        refine j_blx (F := fX11) tb_X11 (nn_ _) bk_X11_reach_46 bs_X11_reach_46 hz (fun K hK => ?_)
        refine iy_i (by omega) (by omega) ?_
        refine x_nm (fun U21 hU21 => ?_)
        have e22 := up_f hU21
        refine And.intro (fun c23 => ?_) (fun c23 => ?_)
        · exact absurd c23 (by decide)
        · refine hK 67 _ [vI i, vI o, vR 310 0] U21 ?_
          refine j_blx (F := fX11) tb_X11 (nn_ _) bk_X11_reach_67 bs_X11_reach_67 hz (fun K hK => ?_)
          refine iy_i (by omega) (by omega) ?_
          refine x_nm (fun U24 hU24 => ?_)
          have e25 := up_f hU24
          refine (show po_X11_reach T i o l U24 (some (vI 1)) from ?_)
          have ea : (fun k => U24 309 0 k) = fu_ (fun k => T 309 0 k) o l := funext (fun k => by
              by_cases z : k = o
              · rw [z, up_k hU24 (by exact Nat.ne_of_beq_eq_false rfl), up_f hU21, fu_s]
              · rw [up_k hU24 (by exact Nat.ne_of_beq_eq_false rfl), up_g hU21 (fun q => z q.2.2), fu_n z])
          have eb : (fun k => U24 310 0 k) = fu_ (fun k => T 310 0 k) o i := funext (fun k => by
              by_cases z : k = o
              · rw [z, up_f hU24, fu_s]
              · rw [up_g hU24 (fun q => z q.2.2), up_k hU21 (by exact Nat.ne_of_beq_eq_false rfl), fu_n z])
          exact ⟨_, rfl, fr_u (fr_u (fr_0 _ _) hU21 rfl) hU24 rfl, Or.inl ⟨rfl, by omega, ea, eb⟩⟩
def ofs_ (T : Zt) (tk f : Int) : Of_ := ⟨fun i o => di_ T (T 306 0 i) o, fun i o => an_ (sr_ tk o) 1 = 0 ∧ ld_ T (T 306 0 i) o, T 111 0 21, f, T 111 0 107⟩
def gh_ (T : Zt) : Int → Int := fun k => T 311 0 k
def far_ (T : Zt) : Int → Int := fun k => T 309 0 k
def cby_ (T : Zt) : Int → Int := fun k => T 310 0 k
/-- the search's state -/
def FQ_ (T T1 : Zt) (tk f : Int) (pi : Int → Int) (st : Int → Nat) (c : Nat) : Prop := (∀ q, 0 ≤ q → q < T 111 0 21 → fi_ (ofs_ T tk f) (gh_ T) pi (far_ T1) (cby_ T1) st q) ∧ (∀ q, st q ≤ c) ∧ fb_ (T 111 0 21) (far_ T1)
theorem fq_e {T T1 T2 : Zt} {tk f : Int} {pi : Int → Int} {st : Int → Nat} {c : Nat} (h : FQ_ T T1 tk f pi st c) (a : far_ T2 = far_ T1) (b : cby_ T2 = cby_ T1) : FQ_ T T2 tk f pi st c := by
  unfold FQ_; rw [a, b]; exact h
theorem di_e {T T1 : Zt} {m o : Int} (a : ∀ k, T1 222 0 k = T 222 0 k) (b : ∀ k, T1 213 0 k = T 213 0 k) (c : ∀ k, T1 232 0 k = T 232 0 k) : di_ T1 m o = di_ T m o := by
  unfold di_; rw [a, b, c]
theorem ld_e {T T1 : Zt} {m o : Int} (a : ∀ k, T1 223 0 k = T 223 0 k) (b : ∀ k, T1 214 0 k = T 214 0 k) (c : ∀ k, T1 232 0 k = T 232 0 k) (d : ∀ k, T1 233 0 k = T 233 0 k) : ld_ T1 m o ↔ ld_ T m o := by
  unfold ld_; rw [a, b, b, c, d]
/-- nothing to shorten before match i, and none at i before official o -/
def RL_ (T T1 : Zt) (tk f i o : Int) : Prop := (∀ j q, f ≤ j → j < i → 0 ≤ q → q < T 111 0 21 → rx9_ (ofs_ T tk f) (gh_ T) (far_ T1) j q) ∧ ∀ q, 0 ≤ q → q < o → rx9_ (ofs_ T tk f) (gh_ T) (far_ T1) i q
/-- how the lengths have sunk since T1 -/
def PG_ (T1 T2 : Zt) (mr : Int) : Prop := mu8_ (far_ T2) ≤ mu8_ (far_ T1) ∧ (mr ≠ 0 → mu8_ (far_ T2) < mu8_ (far_ T1))
theorem of_9 {T : Zt} {tk f : Int} (hd : ∀ i o, f ≤ i → i < T 111 0 107 → 0 ≤ o → o < T 111 0 21 → 0 ≤ di_ T (T 306 0 i) o ∧ di_ T (T 306 0 i) o ≤ 11) : of_d (ofs_ T tk f) := hd
abbrev cX11_findPaths : ByteArray := prog_13_method_125_code
def yX11_findPaths : MethodName := ⟨RX11, "findPaths", "(II)V"⟩
def zX11_findPaths : Zm := (RX11, cX11_findPaths, 8, none, { frames := 1, cells := 0, slots := 0, locals := 24 })
theorem bk_X11_findPaths_115 : ck_ fX11 none cX11_findPaths 115 [.iload 6, .aload 0, .tableswitch 0 11 21 #[], .if_icmp .ge 222, .iload 5, .iconst (-1), .if_icmp .eq 222, .iload 2, .iload 6, .ishr, .iconst 1, .iand, .ifCond .ne 171, .aload 0, .tableswitch 0 11 111 #[], .iload 4, .iaload, .iload 6, .if_icmp .eq 171, .aload 0, .aload 0, .tableswitch 0 11 106 #[], .iload 4, .iaload, .iload 6] 161 = true := qck_r (nn_ _) (by decide +kernel)
theorem bs_X11_findPaths_115 {P : Zt → Option Zv → Prop} (K : Int → Zl → List Zv → Zt → Prop) : sx_ K P [.iload 6, .aload 0, .tableswitch 0 11 21 #[], .if_icmp .ge 222, .iload 5, .iconst (-1), .if_icmp .eq 222, .iload 2, .iload 6, .ishr, .iconst 1, .iand, .ifCond .ne 171, .aload 0, .tableswitch 0 11 111 #[], .iload 4, .iaload, .iload 6, .if_icmp .eq 171, .aload 0, .aload 0, .tableswitch 0 11 106 #[], .iload 4, .iaload, .iload 6] 161 = x_iload 6 (x_aload 0 (x_g0 111 21 0 8 (x_if_icmp .ge 222 K (x_iload 5 (x_iconst (-1) (x_if_icmp .eq 222 K (x_iload 2 (x_iload 6 (x_ishr (x_iconst 1 (x_iand (x_ifCond .ne 171 K (x_aload 0 (x_g1 111 311 (x_iload 4 (x_iaload (x_iload 6 (x_if_icmp .eq 171 K (x_aload 0 (x_aload 0 (x_g1 111 306 (x_iload 4 (x_iaload (x_iload 6 (K 161))))))))))))))))))))))))) := ((xe_iload 6).trans (congrArg (x_iload 6) ((xe_aload 0).trans (congrArg (x_aload 0) ((xe_g0 (kk := 111) rfl tl_11_21).trans (congrArg (x_g0 111 21 0 8) ((xe_if_icmp .ge 222).trans (congrArg (x_if_icmp .ge 222 K) ((xe_iload 5).trans (congrArg (x_iload 5) ((xe_iconst (-1)).trans (congrArg (x_iconst (-1)) ((xe_if_icmp .eq 222).trans (congrArg (x_if_icmp .eq 222 K) ((xe_iload 2).trans (congrArg (x_iload 2) ((xe_iload 6).trans (congrArg (x_iload 6) ((xe_ishr).trans (congrArg (x_ishr) ((xe_iconst 1).trans (congrArg (x_iconst 1) ((xe_iand).trans (congrArg (x_iand) ((xe_ifCond .ne 171).trans (congrArg (x_ifCond .ne 171 K) ((xe_aload 0).trans (congrArg (x_aload 0) ((xe_g1 (kk := 111) rfl tl_11_111).trans (congrArg (x_g1 111 311) ((xe_iload 4).trans (congrArg (x_iload 4) ((xe_iaload).trans (congrArg (x_iaload) ((xe_iload 6).trans (congrArg (x_iload 6) ((xe_if_icmp .eq 171).trans (congrArg (x_if_icmp .eq 171 K) ((xe_aload 0).trans (congrArg (x_aload 0) ((xe_aload 0).trans (congrArg (x_aload 0) ((xe_g1 (kk := 111) rfl tl_11_106).trans (congrArg (x_g1 111 306) ((xe_iload 4).trans (congrArg (x_iload 4) ((xe_iaload).trans (congrArg (x_iaload) ((xe_iload 6).trans (congrArg (x_iload 6) xe_nil))))))))))))))))))))))))))))))))))))))))))))))))))
theorem bk_X11_findPaths_222 : ck_ fX11 none cX11_findPaths 222 [.iinc 4 1, .goto 34] 228 = true := qck_r (nn_ _) (by decide +kernel)
theorem bs_X11_findPaths_222 {P : Zt → Option Zv → Prop} (K : Int → Zl → List Zv → Zt → Prop) : sx_ K P [.iinc 4 1, .goto 34] 228 = x_iinc 4 1 (x_goto 34 K) := ((xe_iinc 4 1).trans (congrArg (x_iinc 4 1) (xe_goto 34)))
theorem bk_X11_findPaths_171 : ck_ fX11 none cX11_findPaths 171 [.iconst 0, .istore 7, .iload 7, .ifCond .eq 206, .aload 0, .iload 4, .iload 6, .iload 5, .aload 0, .aload 0, .tableswitch 0 11 106 #[], .iload 4, .iaload, .iload 6] 196 = true := qck_r (nn_ _) (by decide +kernel)
theorem bs_X11_findPaths_171 {P : Zt → Option Zv → Prop} (K : Int → Zl → List Zv → Zt → Prop) : sx_ K P [.iconst 0, .istore 7, .iload 7, .ifCond .eq 206, .aload 0, .iload 4, .iload 6, .iload 5, .aload 0, .aload 0, .tableswitch 0 11 106 #[], .iload 4, .iaload, .iload 6] 196 = x_iconst 0 (x_istore 7 (x_iload 7 (x_ifCond .eq 206 K (x_aload 0 (x_iload 4 (x_iload 6 (x_iload 5 (x_aload 0 (x_aload 0 (x_g1 111 306 (x_iload 4 (x_iaload (x_iload 6 (K 196)))))))))))))) := ((xe_iconst 0).trans (congrArg (x_iconst 0) ((xe_istore 7).trans (congrArg (x_istore 7) ((xe_iload 7).trans (congrArg (x_iload 7) ((xe_ifCond .eq 206).trans (congrArg (x_ifCond .eq 206 K) ((xe_aload 0).trans (congrArg (x_aload 0) ((xe_iload 4).trans (congrArg (x_iload 4) ((xe_iload 6).trans (congrArg (x_iload 6) ((xe_iload 5).trans (congrArg (x_iload 5) ((xe_aload 0).trans (congrArg (x_aload 0) ((xe_aload 0).trans (congrArg (x_aload 0) ((xe_g1 (kk := 111) rfl tl_11_106).trans (congrArg (x_g1 111 306) ((xe_iload 4).trans (congrArg (x_iload 4) ((xe_iaload).trans (congrArg (x_iaload) ((xe_iload 6).trans (congrArg (x_iload 6) xe_nil))))))))))))))))))))))))))))
theorem bk_X11_findPaths_206 : ck_ fX11 none cX11_findPaths 206 [.iload 3, .ifCond .eq 214, .iconst 1, .goto 215] 214 = true := qck_r (nn_ _) (by decide +kernel)
theorem bs_X11_findPaths_206 {P : Zt → Option Zv → Prop} (K : Int → Zl → List Zv → Zt → Prop) : sx_ K P [.iload 3, .ifCond .eq 214, .iconst 1, .goto 215] 214 = x_iload 3 (x_ifCond .eq 214 K (x_iconst 1 (x_goto 215 K))) := ((xe_iload 3).trans (congrArg (x_iload 3) ((xe_ifCond .eq 214).trans (congrArg (x_ifCond .eq 214 K) ((xe_iconst 1).trans (congrArg (x_iconst 1) (xe_goto 215)))))))
theorem bk_X11_findPaths_214 : ck_ fX11 none cX11_findPaths 214 [.iconst 0, .istore 3, .iinc 6 1, .goto 115] 222 = true := qck_r (nn_ _) (by decide +kernel)
theorem bs_X11_findPaths_214 {P : Zt → Option Zv → Prop} (K : Int → Zl → List Zv → Zt → Prop) : sx_ K P [.iconst 0, .istore 3, .iinc 6 1, .goto 115] 222 = x_iconst 0 (x_istore 3 (x_iinc 6 1 (x_goto 115 K))) := ((xe_iconst 0).trans (congrArg (x_iconst 0) ((xe_istore 3).trans (congrArg (x_istore 3) ((xe_iinc 6 1).trans (congrArg (x_iinc 6 1) (xe_goto 115)))))))
theorem bk_X11_findPaths_215 : ck_ fX11 none cX11_findPaths 215 [.istore 3, .iinc 6 1, .goto 115] 222 = true := qck_r (nn_ _) (by decide +kernel)
theorem bs_X11_findPaths_215 {P : Zt → Option Zv → Prop} (K : Int → Zl → List Zv → Zt → Prop) : sx_ K P [.istore 3, .iinc 6 1, .goto 115] 222 = x_istore 3 (x_iinc 6 1 (x_goto 115 K)) := ((xe_istore 3).trans (congrArg (x_istore 3) ((xe_iinc 6 1).trans (congrArg (x_iinc 6 1) (xe_goto 115)))))
set_option maxRecDepth 100000 in
theorem cl_X11_613 : cv_ RX11 613 yX11_mayLead zX11_mayLead 11 2 := ⟨gi_V (lwq_10 (dqc_m (dqc_m (dqc_m (List.mem_of_getElem? (i := 6) rfl)))) rfl : Cond.methodLink RX11 613 yX11_mayLead ∈ lw_g) (lwq_10 (dqc_m (dqc_m (dqc_m (dqa_m (List.mem_of_getElem? (i := 0) rfl))))) rfl : Cond.instanceMethod yX11_mayLead ∈ lw_g) (lw_sel 37 rfl : Cond.selects yX11_mayLead.cls yX11_mayLead yX11_mayLead ∈ lw_g) (lwq_1 (dqa_m (List.mem_of_getElem? (i := 2) rfl)) rfl : Cond.initialized yX11_mayLead.cls ∈ lw_g) (lwq_10 (dqc_m (dqc_m (dqc_m (dqa_m (List.mem_of_getElem? (i := 1) rfl))))) rfl : Cond.code yX11_mayLead cX11_mayLead 3 (some .boolean) ∈ lw_g), ⟨nmh_1.1, nmh_1.2, pdq_5⟩, ⟨_, _, rfl⟩⟩
theorem bk_X11_findPaths_164 : ck_ fX11 none cX11_findPaths 164 [.ifCond .eq 171, .iconst 1, .goto 172] 171 = true := qck_r (nn_ _) (by decide +kernel)
theorem bs_X11_findPaths_164 {P : Zt → Option Zv → Prop} (K : Int → Zl → List Zv → Zt → Prop) : sx_ K P [.ifCond .eq 171, .iconst 1, .goto 172] 171 = x_ifCond .eq 171 K (x_iconst 1 (x_goto 172 K)) := ((xe_ifCond .eq 171).trans (congrArg (x_ifCond .eq 171 K) ((xe_iconst 1).trans (congrArg (x_iconst 1) (xe_goto 172)))))
theorem bk_X11_findPaths_172 : ck_ fX11 none cX11_findPaths 172 [.istore 7, .iload 7, .ifCond .eq 206, .aload 0, .iload 4, .iload 6, .iload 5, .aload 0, .aload 0, .tableswitch 0 11 106 #[], .iload 4, .iaload, .iload 6] 196 = true := qck_r (nn_ _) (by decide +kernel)
theorem bs_X11_findPaths_172 {P : Zt → Option Zv → Prop} (K : Int → Zl → List Zv → Zt → Prop) : sx_ K P [.istore 7, .iload 7, .ifCond .eq 206, .aload 0, .iload 4, .iload 6, .iload 5, .aload 0, .aload 0, .tableswitch 0 11 106 #[], .iload 4, .iaload, .iload 6] 196 = x_istore 7 (x_iload 7 (x_ifCond .eq 206 K (x_aload 0 (x_iload 4 (x_iload 6 (x_iload 5 (x_aload 0 (x_aload 0 (x_g1 111 306 (x_iload 4 (x_iaload (x_iload 6 (K 196))))))))))))) := ((xe_istore 7).trans (congrArg (x_istore 7) ((xe_iload 7).trans (congrArg (x_iload 7) ((xe_ifCond .eq 206).trans (congrArg (x_ifCond .eq 206 K) ((xe_aload 0).trans (congrArg (x_aload 0) ((xe_iload 4).trans (congrArg (x_iload 4) ((xe_iload 6).trans (congrArg (x_iload 6) ((xe_iload 5).trans (congrArg (x_iload 5) ((xe_aload 0).trans (congrArg (x_aload 0) ((xe_aload 0).trans (congrArg (x_aload 0) ((xe_g1 (kk := 111) rfl tl_11_106).trans (congrArg (x_g1 111 306) ((xe_iload 4).trans (congrArg (x_iload 4) ((xe_iaload).trans (congrArg (x_iaload) ((xe_iload 6).trans (congrArg (x_iload 6) xe_nil))))))))))))))))))))))))))
set_option maxRecDepth 100000 in
theorem cl_X11_610 : cv_ RX11 610 yX11_distanceOf zX11_distanceOf 11 2 := ⟨gi_V (lwq_10 (dqc_m (dqc_m (dqc_m (List.mem_of_getElem? (i := 2) rfl)))) rfl : Cond.methodLink RX11 610 yX11_distanceOf ∈ lw_g) (lwq_10 (dqc_m (dqc_m (dqc_m (List.mem_of_getElem? (i := 4) rfl)))) rfl : Cond.instanceMethod yX11_distanceOf ∈ lw_g) (lw_sel 16 rfl : Cond.selects yX11_distanceOf.cls yX11_distanceOf yX11_distanceOf ∈ lw_g) (lwq_1 (dqa_m (List.mem_of_getElem? (i := 2) rfl)) rfl : Cond.initialized yX11_distanceOf.cls ∈ lw_g) (lwq_10 (dqc_m (dqc_m (dqc_m (List.mem_of_getElem? (i := 5) rfl)))) rfl : Cond.code yX11_distanceOf cX11_distanceOf 4 (some .int) ∈ lw_g), ⟨nmh_1.1, nmh_1.2, pdq_4⟩, ⟨_, _, rfl⟩⟩
theorem bk_X11_findPaths_199 : ck_ fX11 none cX11_findPaths 199 [.iadd] 200 = true := qck_r (nn_ _) (by decide +kernel)
theorem bs_X11_findPaths_199 {P : Zt → Option Zv → Prop} (K : Int → Zl → List Zv → Zt → Prop) : sx_ K P [.iadd] 200 = x_iadd (K 200) := ((xe_iadd).trans (congrArg (x_iadd) xe_nil))
set_option maxRecDepth 100000 in
theorem cl_X11_616 : cv_ RX11 616 yX11_reach zX11_reach 11 3 := ⟨gi_V (lwq_10 (dqc_m (dqc_m (dqc_m (dqa_m (List.mem_of_getElem? (i := 2) rfl))))) rfl : Cond.methodLink RX11 616 yX11_reach ∈ lw_g) (lwq_10 (dqc_m (dqc_m (dqc_m (dqa_m (List.mem_of_getElem? (i := 4) rfl))))) rfl : Cond.instanceMethod yX11_reach ∈ lw_g) (lw_sel 53 rfl : Cond.selects yX11_reach.cls yX11_reach yX11_reach ∈ lw_g) (lwq_1 (dqa_m (List.mem_of_getElem? (i := 2) rfl)) rfl : Cond.initialized yX11_reach.cls ∈ lw_g) (lwq_10 (dqc_m (dqc_m (dqc_m (dqa_m (List.mem_of_getElem? (i := 5) rfl))))) rfl : Cond.code yX11_reach cX11_reach 5 (some .boolean) ∈ lw_g), ⟨nmh_1.1, nmh_1.2, pdq_11⟩, ⟨_, _, rfl⟩⟩
theorem bk_X11_findPaths_203 : ck_ fX11 none cX11_findPaths 203 [.ifCond .ne 210, .iload 3, .ifCond .eq 214, .iconst 1, .goto 215] 214 = true := qck_r (nn_ _) (by decide +kernel)
theorem bs_X11_findPaths_203 {P : Zt → Option Zv → Prop} (K : Int → Zl → List Zv → Zt → Prop) : sx_ K P [.ifCond .ne 210, .iload 3, .ifCond .eq 214, .iconst 1, .goto 215] 214 = x_ifCond .ne 210 K (x_iload 3 (x_ifCond .eq 214 K (x_iconst 1 (x_goto 215 K)))) := ((xe_ifCond .ne 210).trans (congrArg (x_ifCond .ne 210 K) ((xe_iload 3).trans (congrArg (x_iload 3) ((xe_ifCond .eq 214).trans (congrArg (x_ifCond .eq 214 K) ((xe_iconst 1).trans (congrArg (x_iconst 1) (xe_goto 215)))))))))
theorem bk_X11_findPaths_210 : ck_ fX11 none cX11_findPaths 210 [.iconst 1, .goto 215] 214 = true := qck_r (nn_ _) (by decide +kernel)
theorem bs_X11_findPaths_210 {P : Zt → Option Zv → Prop} (K : Int → Zl → List Zv → Zt → Prop) : sx_ K P [.iconst 1, .goto 215] 214 = x_iconst 1 (x_goto 215 K) := ((xe_iconst 1).trans (congrArg (x_iconst 1) (xe_goto 215)))
theorem bk_X11_findPaths_34 : ck_ fX11 none cX11_findPaths 34 [.iload 4, .aload 0, .tableswitch 0 11 107 #[], .if_icmp .ge 228, .aload 0, .tableswitch 0 11 111 #[], .iload 4, .iaload, .iconst (-1), .if_icmp .ne 60, .iconst 10000, .goto 110] 60 = true := qck_r (nn_ _) (by decide +kernel)
theorem bs_X11_findPaths_34 {P : Zt → Option Zv → Prop} (K : Int → Zl → List Zv → Zt → Prop) : sx_ K P [.iload 4, .aload 0, .tableswitch 0 11 107 #[], .if_icmp .ge 228, .aload 0, .tableswitch 0 11 111 #[], .iload 4, .iaload, .iconst (-1), .if_icmp .ne 60, .iconst 10000, .goto 110] 60 = x_iload 4 (x_aload 0 (x_g0 111 107 0 400 (x_if_icmp .ge 228 K (x_aload 0 (x_g1 111 311 (x_iload 4 (x_iaload (x_iconst (-1) (x_if_icmp .ne 60 K (x_iconst 10000 (x_goto 110 K))))))))))) := ((xe_iload 4).trans (congrArg (x_iload 4) ((xe_aload 0).trans (congrArg (x_aload 0) ((xe_g0 (kk := 111) rfl tl_11_107).trans (congrArg (x_g0 111 107 0 400) ((xe_if_icmp .ge 228).trans (congrArg (x_if_icmp .ge 228 K) ((xe_aload 0).trans (congrArg (x_aload 0) ((xe_g1 (kk := 111) rfl tl_11_111).trans (congrArg (x_g1 111 311) ((xe_iload 4).trans (congrArg (x_iload 4) ((xe_iaload).trans (congrArg (x_iaload) ((xe_iconst (-1)).trans (congrArg (x_iconst (-1)) ((xe_if_icmp .ne 60).trans (congrArg (x_if_icmp .ne 60 K) ((xe_iconst 10000).trans (congrArg (x_iconst 10000) (xe_goto 110)))))))))))))))))))))))
theorem bk_X11_findPaths_228 : ck_ fX11 none cX11_findPaths 228 [.goto 25] 231 = true := qck_r (nn_ _) (by decide +kernel)
theorem bs_X11_findPaths_228 {P : Zt → Option Zv → Prop} (K : Int → Zl → List Zv → Zt → Prop) : sx_ K P [.goto 25] 231 = x_goto 25 K := (xe_goto 25)
theorem bk_X11_findPaths_60 : ck_ fX11 none cX11_findPaths 60 [.aload 0, .tableswitch 0 11 109 #[], .aload 0, .tableswitch 0 11 111 #[], .iload 4, .iaload, .iaload, .ifCond .ge 79, .iconst (-1), .goto 110] 79 = true := qck_r (nn_ _) (by decide +kernel)
theorem bs_X11_findPaths_60 {P : Zt → Option Zv → Prop} (K : Int → Zl → List Zv → Zt → Prop) : sx_ K P [.aload 0, .tableswitch 0 11 109 #[], .aload 0, .tableswitch 0 11 111 #[], .iload 4, .iaload, .iaload, .ifCond .ge 79, .iconst (-1), .goto 110] 79 = x_aload 0 (x_g1 111 309 (x_aload 0 (x_g1 111 311 (x_iload 4 (x_iaload (x_iaload (x_ifCond .ge 79 K (x_iconst (-1) (x_goto 110 K))))))))) := ((xe_aload 0).trans (congrArg (x_aload 0) ((xe_g1 (kk := 111) rfl tl_11_109).trans (congrArg (x_g1 111 309) ((xe_aload 0).trans (congrArg (x_aload 0) ((xe_g1 (kk := 111) rfl tl_11_111).trans (congrArg (x_g1 111 311) ((xe_iload 4).trans (congrArg (x_iload 4) ((xe_iaload).trans (congrArg (x_iaload) ((xe_iaload).trans (congrArg (x_iaload) ((xe_ifCond .ge 79).trans (congrArg (x_ifCond .ge 79 K) ((xe_iconst (-1)).trans (congrArg (x_iconst (-1)) (xe_goto 110)))))))))))))))))))
theorem bk_X11_findPaths_79 : ck_ fX11 none cX11_findPaths 79 [.aload 0, .tableswitch 0 11 109 #[], .aload 0, .tableswitch 0 11 111 #[], .iload 4, .iaload, .iaload, .aload 0, .aload 0, .tableswitch 0 11 106 #[], .iload 4, .iaload, .aload 0, .tableswitch 0 11 111 #[], .iload 4, .iaload] 106 = true := qck_r (nn_ _) (by decide +kernel)
theorem bs_X11_findPaths_79 {P : Zt → Option Zv → Prop} (K : Int → Zl → List Zv → Zt → Prop) : sx_ K P [.aload 0, .tableswitch 0 11 109 #[], .aload 0, .tableswitch 0 11 111 #[], .iload 4, .iaload, .iaload, .aload 0, .aload 0, .tableswitch 0 11 106 #[], .iload 4, .iaload, .aload 0, .tableswitch 0 11 111 #[], .iload 4, .iaload] 106 = x_aload 0 (x_g1 111 309 (x_aload 0 (x_g1 111 311 (x_iload 4 (x_iaload (x_iaload (x_aload 0 (x_aload 0 (x_g1 111 306 (x_iload 4 (x_iaload (x_aload 0 (x_g1 111 311 (x_iload 4 (x_iaload (K 106)))))))))))))))) := ((xe_aload 0).trans (congrArg (x_aload 0) ((xe_g1 (kk := 111) rfl tl_11_109).trans (congrArg (x_g1 111 309) ((xe_aload 0).trans (congrArg (x_aload 0) ((xe_g1 (kk := 111) rfl tl_11_111).trans (congrArg (x_g1 111 311) ((xe_iload 4).trans (congrArg (x_iload 4) ((xe_iaload).trans (congrArg (x_iaload) ((xe_iaload).trans (congrArg (x_iaload) ((xe_aload 0).trans (congrArg (x_aload 0) ((xe_aload 0).trans (congrArg (x_aload 0) ((xe_g1 (kk := 111) rfl tl_11_106).trans (congrArg (x_g1 111 306) ((xe_iload 4).trans (congrArg (x_iload 4) ((xe_iaload).trans (congrArg (x_iaload) ((xe_aload 0).trans (congrArg (x_aload 0) ((xe_g1 (kk := 111) rfl tl_11_111).trans (congrArg (x_g1 111 311) ((xe_iload 4).trans (congrArg (x_iload 4) ((xe_iaload).trans (congrArg (x_iaload) xe_nil))))))))))))))))))))))))))))))))
theorem bk_X11_findPaths_109 : ck_ fX11 none cX11_findPaths 109 [.isub, .istore 5, .iconst 0, .istore 6] 115 = true := qck_r (nn_ _) (by decide +kernel)
theorem bs_X11_findPaths_109 {P : Zt → Option Zv → Prop} (K : Int → Zl → List Zv → Zt → Prop) : sx_ K P [.isub, .istore 5, .iconst 0, .istore 6] 115 = x_isub (x_istore 5 (x_iconst 0 (x_istore 6 (K 115)))) := ((xe_isub).trans (congrArg (x_isub) ((xe_istore 5).trans (congrArg (x_istore 5) ((xe_iconst 0).trans (congrArg (x_iconst 0) ((xe_istore 6).trans (congrArg (x_istore 6) xe_nil))))))))
theorem bk_X11_findPaths_110 : ck_ fX11 none cX11_findPaths 110 [.istore 5, .iconst 0, .istore 6] 115 = true := qck_r (nn_ _) (by decide +kernel)
theorem bs_X11_findPaths_110 {P : Zt → Option Zv → Prop} (K : Int → Zl → List Zv → Zt → Prop) : sx_ K P [.istore 5, .iconst 0, .istore 6] 115 = x_istore 5 (x_iconst 0 (x_istore 6 (K 115))) := ((xe_istore 5).trans (congrArg (x_istore 5) ((xe_iconst 0).trans (congrArg (x_iconst 0) ((xe_istore 6).trans (congrArg (x_istore 6) xe_nil))))))
theorem bk_X11_findPaths_25 : ck_ fX11 none cX11_findPaths 25 [.iload 3, .ifCond .eq 231, .iconst 0, .istore 3, .iload 1, .istore 4] 34 = true := qck_r (nn_ _) (by decide +kernel)
theorem bs_X11_findPaths_25 {P : Zt → Option Zv → Prop} (K : Int → Zl → List Zv → Zt → Prop) : sx_ K P [.iload 3, .ifCond .eq 231, .iconst 0, .istore 3, .iload 1, .istore 4] 34 = x_iload 3 (x_ifCond .eq 231 K (x_iconst 0 (x_istore 3 (x_iload 1 (x_istore 4 (K 34)))))) := ((xe_iload 3).trans (congrArg (x_iload 3) ((xe_ifCond .eq 231).trans (congrArg (x_ifCond .eq 231 K) ((xe_iconst 0).trans (congrArg (x_iconst 0) ((xe_istore 3).trans (congrArg (x_istore 3) ((xe_iload 1).trans (congrArg (x_iload 1) ((xe_istore 4).trans (congrArg (x_istore 4) xe_nil))))))))))))
theorem bk_X11_findPaths_231 : ck_ fX11 none cX11_findPaths 231 [.return_] 232 = true := qck_r (nn_ _) (by decide +kernel)
theorem bs_X11_findPaths_231 {P : Zt → Option Zv → Prop} (K : Int → Zl → List Zv → Zt → Prop) : sx_ K P [.return_] 232 = x_return_ P := (xe_return_)
theorem bk_X11_findPaths_2 : ck_ fX11 none cX11_findPaths 2 [.iload 3, .aload 0, .tableswitch 0 11 21 #[], .if_icmp .ge 23, .aload 0, .tableswitch 0 11 109 #[], .iload 3, .iconst (-1), .iastore, .iinc 3 1, .goto 2] 23 = true := qck_r (nn_ _) (by decide +kernel)
theorem bs_X11_findPaths_2 {P : Zt → Option Zv → Prop} (K : Int → Zl → List Zv → Zt → Prop) : sx_ K P [.iload 3, .aload 0, .tableswitch 0 11 21 #[], .if_icmp .ge 23, .aload 0, .tableswitch 0 11 109 #[], .iload 3, .iconst (-1), .iastore, .iinc 3 1, .goto 2] 23 = x_iload 3 (x_aload 0 (x_g0 111 21 0 8 (x_if_icmp .ge 23 K (x_aload 0 (x_g1 111 309 (x_iload 3 (x_iconst (-1) (x_iastore (x_iinc 3 1 (x_goto 2 K)))))))))) := ((xe_iload 3).trans (congrArg (x_iload 3) ((xe_aload 0).trans (congrArg (x_aload 0) ((xe_g0 (kk := 111) rfl tl_11_21).trans (congrArg (x_g0 111 21 0 8) ((xe_if_icmp .ge 23).trans (congrArg (x_if_icmp .ge 23 K) ((xe_aload 0).trans (congrArg (x_aload 0) ((xe_g1 (kk := 111) rfl tl_11_109).trans (congrArg (x_g1 111 309) ((xe_iload 3).trans (congrArg (x_iload 3) ((xe_iconst (-1)).trans (congrArg (x_iconst (-1)) ((xe_iastore).trans (congrArg (x_iastore) ((xe_iinc 3 1).trans (congrArg (x_iinc 3 1) (xe_goto 2)))))))))))))))))))))
theorem bk_X11_findPaths_23 : ck_ fX11 none cX11_findPaths 23 [.iconst 1, .istore 3] 25 = true := qck_r (nn_ _) (by decide +kernel)
theorem bs_X11_findPaths_23 {P : Zt → Option Zv → Prop} (K : Int → Zl → List Zv → Zt → Prop) : sx_ K P [.iconst 1, .istore 3] 25 = x_iconst 1 (x_istore 3 (K 25)) := ((xe_iconst 1).trans (congrArg (x_iconst 1) ((xe_istore 3).trans (congrArg (x_istore 3) xe_nil))))
theorem bk_X11_findPaths_0 : ck_ fX11 none cX11_findPaths 0 [.iconst 0, .istore 3] 2 = true := qck_r (nn_ _) (by decide +kernel)
theorem bs_X11_findPaths_0 {P : Zt → Option Zv → Prop} (K : Int → Zl → List Zv → Zt → Prop) : sx_ K P [.iconst 0, .istore 3] 2 = x_iconst 0 (x_istore 3 (K 2)) := ((xe_iconst 0).trans (congrArg (x_iconst 0) ((xe_istore 3).trans (congrArg (x_istore 3) xe_nil))))
abbrev po_X11_findPaths (T : Zt) (pi : Int → Int) (f tk : Int) : Zt → Option Zv → Prop := fun T' r => r = none ∧ fr_ [(309, []), (310, [])] T T' ∧ (∃ st : Int → Nat, fx_ (ofs_ T tk f) (gh_ T) pi (far_ T') (cby_ T') st)
set_option maxHeartbeats 4000000 in
theorem ct_X11_findPaths {T : Zt} {pi : Int → Int} {f tk : Int} (h1 : 0 ≤ f) (P : po_ (ofs_ T tk f) (gh_ T) pi) : Ct_ yX11_findPaths zX11_findPaths T [vR 111 0, vI f, vI tk] (po_X11_findPaths T pi f tk) := by
  refine ct_of pn_11 rfl rfl (Nat.le_of_ble_eq_true rfl) (fun hT hav => ?_)
  have hr_f : -2147483648 ≤ f ∧ f ≤ 2147483647 := hav (vI f) (List.mem_cons_of_mem _ List.mem_cons_self)
  have hr_tk : -2147483648 ≤ tk ∧ tk ≤ 2147483647 := hav (vI tk) (List.mem_cons_of_mem _ (List.mem_cons_of_mem _ List.mem_cons_self))
  have hz : zX11_findPaths.2.2.2.1 = some .boolean → ∀ (T' : Zt) (x : Int), po_X11_findPaths T pi f tk T' (some (vI x)) → 0 ≤ x ∧ x ≤ 1 := fun h => by cases h
  have hb_21 : 0 ≤ T 111 0 21 ∧ T 111 0 21 ≤ 8 := bd_f hT 111 21 tl_11_21 0
  have hb_107 : 0 ≤ T 111 0 107 ∧ T 111 0 107 ≤ 400 := bd_f hT 111 107 tl_11_107 0
  have hdd : ∀ i o, 0 ≤ i → i < 400 → 0 ≤ o → o < 8 → 0 ≤ di_ T (T 306 0 i) o ∧ di_ T (T 306 0 i) o ≤ 11 := by
    intro i o a b c d
    have u1 : 0 ≤ T 306 0 i ∧ T 306 0 i ≤ 399 := bd_a hT 306 (by decide +kernel : ta_ 306 = some (1, some 400, 0, 399)) 0 (by omega)
    have u2 : 0 ≤ T 232 0 (T 306 0 i) ∧ T 232 0 (T 306 0 i) ≤ 11 := bd_a hT 232 (by decide +kernel : ta_ 232 = some (1, some 400, 0, 11)) 0 (by omega)
    have u3 : 0 ≤ T 213 0 (T 232 0 (T 306 0 i)) ∧ T 213 0 (T 232 0 (T 306 0 i)) ≤ 11 := bd_a hT 213 (by decide +kernel : ta_ 213 = some (1, some 12, 0, 11)) 0 (by omega)
    have u4 : 0 ≤ T 222 0 o ∧ T 222 0 o ≤ 11 := bd_a hT 222 (by decide +kernel : ta_ 222 = some (1, some 8, 0, 11)) 0 (by omega)
    unfold di_
    split <;> omega
  show J_ zX11_findPaths T (po_X11_findPaths T pi f tk) 0 0 0 [some (vR 111 0), some (vI f), some (vI tk), none, none, none, none, none] [] T
  have c_25 : ∀ (nn : Nat) (mr : Int) (st1 : Int → Nat) (cc1 : Nat) (T1 : Zt), (fm9_ mr (mu8_ (far_ T1))) ≤ nn → (fr_ [(309, []), (310, [])] T T1) → (mr = 0 ∨ mr = 1) → (FQ_ T T1 tk f pi st1 cc1) → (mr = 0 → ∀ j q, f ≤ j → j < T 111 0 107 → 0 ≤ q → q < T 111 0 21 → rx9_ (ofs_ T tk f) (gh_ T) (far_ T1) j q) → J_ zX11_findPaths T (po_X11_findPaths T pi f tk) 0 0 25 [some (vR 111 0), some (vI f), some (vI tk), some (vI mr), none, none, none, none] [] T1 := by
    intro nn
    induction nn using Nat.strongRecOn with
    | _ nn ih_25 =>
      intro mr st1 cc1 T1 hm_25 hf_25 i1 fq1 rx1
      replace hm_25 := fun (_ : Unit) => hm_25
      have c_34 : ∀ (nn : Nat) (mr2 : Int) (i : Int) (st2 : Int → Nat) (cc2 : Nat) (T2 : Zt), ((400 - i).toNat) ≤ nn → (fr_ [(309, []), (310, [])] T T2) → ((mr2 = 0 ∨ mr2 = 1) ∧ f ≤ i ∧ 0 ≤ i ∧ mr ≠ 0) → (FQ_ T T2 tk f pi st2 cc2) → (PG_ T1 T2 mr2) → (mr2 = 0 → RL_ T T2 tk f i 0) → J_ zX11_findPaths T (po_X11_findPaths T pi f tk) 0 0 34 [some (vR 111 0), some (vI f), some (vI tk), some (vI mr2), some (vI i), none, none, none] [] T2 := by
        intro nn
        induction nn using Nat.strongRecOn with
        | _ nn ih_34 =>
          intro mr2 i st2 cc2 T2 hm_34 hf_34 i2 fq2 pg2 rl2
          replace hm_34 := fun (_ : Unit) => hm_34
          have c_115 : ∀ (nn : Nat) (mr3 : Int) (b : Int) (o : Int) (st3 : Int → Nat) (cc3 : Nat) (T3 : Zt), ((8 - o).toNat) ≤ nn → (fr_ [(309, []), (310, [])] T T3) → ((mr3 = 0 ∨ mr3 = 1) ∧ 0 ≤ o ∧ o ≤ 8 ∧ i < T 111 0 107) → (FQ_ T T3 tk f pi st3 cc3) → (PG_ T1 T3 mr3) → (mr3 = 0 → RL_ T T3 tk f i o) → (b = bs_ (ofs_ T tk f) (gh_ T) (far_ T3) i) → J_ zX11_findPaths T (po_X11_findPaths T pi f tk) 0 0 115 [some (vR 111 0), some (vI f), some (vI tk), some (vI mr3), some (vI i), some (vI b), some (vI o), none] [] T3 := by
            intro nn
            induction nn using Nat.strongRecOn with
            | _ nn ih_115 =>
              intro mr3 b o st3 cc3 T3 hm_115 hf_115 i3 fq3 pg3 rl3 hb3
              replace hm_115 := fun (_ : Unit) => hm_115
              have hbn := bs_n (F := (ofs_ T tk f)) (of_9 (fun i o a b c d => hdd i o (by omega) (by omega) (by omega) (by omega))) P fq3.1 (i := i) (show f ≤ i ∧ i < T 111 0 107 by omega)
              have hbb : b ≤ 10000 + 11 * rc8_ (far_ T3) := by
                rw [hb3]
                have r9 := rc8_n (far_ T3)
                have hh9 := P.2.1 i (show f ≤ i by omega) (show i < T 111 0 107 by omega)
                unfold bs_
                split
                · omega
                · split
                  · omega
                  · have f9 := fq3.2.2 (gh_ T i) (by omega) (show gh_ T i < T 111 0 21 from hh9.2)
                    have d9 := hdd i (gh_ T i) (by omega) (by omega) (by omega) (by have : gh_ T i < T 111 0 21 := hh9.2; omega)
                    show far_ T3 (gh_ T i) - di_ T (T 306 0 i) (gh_ T i) ≤ _
                    omega
              have hrc := rc8_n (far_ T3)
              have hbl : b ≠ -1 → 9989 ≤ b := fun z => by rw [hb3]; exact bs_l (of_9 (fun i o a b c d => hdd i o (by omega) (by omega) (by omega) (by omega))) P fq3.1 (i := i) (show f ≤ i ∧ i < T 111 0 107 by omega) (by rw [← hb3]; exact z)
              refine j_blx (F := fX11) tb_X11 (nn_ _) bk_X11_findPaths_115 bs_X11_findPaths_115 hz (fun K hK => ?_)
              intro b1 b1b
              have e2 : T3 111 0 21 = T 111 0 21 := hf_115 111 0 21 rfl
              rw [e2] at b1 b1b ⊢
              refine And.intro (fun c3 => ?_) (fun c3 => ?_)
              · refine hK 222 _ [] T3 ?_
                refine j_blx (F := fX11) tb_X11 (nn_ _) bk_X11_findPaths_222 bs_X11_findPaths_222 hz (fun K hK => ?_)
                refine rg_i (by omega) ?_
                refine hK 34 [some (vR 111 0), some (vI f), some (vI tk), some (vI mr3), some (vI (i + 1)), some (vI b), some (vI o), none] [] T3 ?_
                refine j_drop [some (vR 111 0), some (vI f), some (vI tk), some (vI mr3), some (vI (i + 1)), none, none, none] (fun k v hk => ?_) rfl ?_
                · match k, hk with
                  | 0, hk => exact hk
                  | 1, hk => exact hk
                  | 2, hk => exact hk
                  | 3, hk => exact hk
                  | 4, hk => exact hk
                  | 5, hk => cases hk
                  | 6, hk => cases hk
                  | 7, hk => cases hk
                  | k + 8, hk => cases hk
                refine ih_34 _ ?_ mr3 (i + 1) st3 cc3 T3 (Nat.le_refl _) ?_ ?_ ?_ ?_ ?_
                · have hm_34 := hm_34 (); omega
                · exact fr_t (fr_0 _ _) (fr_s hf_115 rfl)
                · omega
                · exact fq3
                · exact pg3
                · intro z
                  have h9 := rl3 z
                  refine ⟨fun j q a b c d => ?_, fun q a b => by omega⟩
                  by_cases y : j = i
                  · rw [y]
                    by_cases x : q < o
                    · exact h9.2 q c x
                    · intro _ _ k
                      exact absurd (by rw [← hb3]; omega) k
                  · exact h9.1 j q a (by omega) c d
              · refine And.intro (fun c4 => ?_) (fun c4 => ?_)
                · refine hK 222 [some (vR 111 0), some (vI f), some (vI tk), some (vI mr3), some (vI i), some (vI b), some (vI o), none] [] T3 ?_
                  refine j_blx (F := fX11) tb_X11 (nn_ _) bk_X11_findPaths_222 bs_X11_findPaths_222 hz (fun K hK => ?_)
                  refine rg_i (by omega) ?_
                  refine hK 34 [some (vR 111 0), some (vI f), some (vI tk), some (vI mr3), some (vI (i + 1)), some (vI b), some (vI o), none] [] T3 ?_
                  refine j_drop [some (vR 111 0), some (vI f), some (vI tk), some (vI mr3), some (vI (i + 1)), none, none, none] (fun k v hk => ?_) rfl ?_
                  · match k, hk with
                    | 0, hk => exact hk
                    | 1, hk => exact hk
                    | 2, hk => exact hk
                    | 3, hk => exact hk
                    | 4, hk => exact hk
                    | 5, hk => cases hk
                    | 6, hk => cases hk
                    | 7, hk => cases hk
                    | k + 8, hk => cases hk
                  refine ih_34 _ ?_ mr3 (i + 1) st3 cc3 T3 (Nat.le_refl _) ?_ ?_ ?_ ?_ ?_
                  · have hm_34 := hm_34 (); omega
                  · exact fr_t (fr_0 _ _) (fr_s hf_115 rfl)
                  · omega
                  · exact fq3
                  · exact pg3
                  · intro z
                    have h9 := rl3 z
                    refine ⟨fun j q a b c d => ?_, fun q a b => by omega⟩
                    by_cases y : j = i
                    · rw [y]
                      by_cases x : q < o
                      · exact h9.2 q c x
                      · intro _ _ k
                        exact absurd (by rw [← hb3]; omega) k
                    · exact h9.1 j q a (by omega) c d
                · intro w5 w5b
                  intro w6 w6b
                  refine And.intro (fun c7 => ?_) (fun c7 => ?_)
                  · refine hK 171 [some (vR 111 0), some (vI f), some (vI tk), some (vI mr3), some (vI i), some (vI b), some (vI o), none] [] T3 ?_
                    refine j_blx (F := fX11) tb_X11 (nn_ _) bk_X11_findPaths_171 bs_X11_findPaths_171 hz (fun K hK => ?_)
                    refine And.intro (fun c8 => ?_) (fun c8 => ?_)
                    · refine hK 206 [some (vR 111 0), some (vI f), some (vI tk), some (vI mr3), some (vI i), some (vI b), some (vI o), some (vI 0)] [] T3 ?_
                      refine j_blx (F := fX11) tb_X11 (nn_ _) bk_X11_findPaths_206 bs_X11_findPaths_206 hz (fun K hK => ?_)
                      refine And.intro (fun c9 => ?_) (fun c9 => ?_)
                      · refine hK 214 _ [] T3 ?_
                        refine j_blx (F := fX11) tb_X11 (nn_ _) bk_X11_findPaths_214 bs_X11_findPaths_214 hz (fun K hK => ?_)
                        refine rg_i (by omega) ?_
                        refine hK 115 [some (vR 111 0), some (vI f), some (vI tk), some (vI 0), some (vI i), some (vI b), some (vI (o + 1)), some (vI 0)] [] T3 ?_
                        refine j_drop [some (vR 111 0), some (vI f), some (vI tk), some (vI 0), some (vI i), some (vI b), some (vI (o + 1)), none] (fun k v hk => ?_) rfl ?_
                        · match k, hk with
                          | 0, hk => exact hk
                          | 1, hk => exact hk
                          | 2, hk => exact hk
                          | 3, hk => exact hk
                          | 4, hk => exact hk
                          | 5, hk => exact hk
                          | 6, hk => exact hk
                          | 7, hk => cases hk
                          | k + 8, hk => cases hk
                        refine ih_115 _ ?_ 0 b (o + 1) st3 cc3 T3 (Nat.le_refl _) ?_ ?_ ?_ ?_ ?_ ?_
                        · have hm_115 := hm_115 (); omega
                        · exact fr_t (fr_0 _ _) (fr_s hf_115 rfl)
                        · omega
                        · exact fq3
                        · first
                          | exact ⟨pg3.1, fun z => pg3.2 (by omega)⟩
                          | exact ⟨pg3.1, fun z => absurd rfl z⟩
                        · intro z
                          have h9 := rl3 (by omega)
                          refine ⟨h9.1, fun q a b => ?_⟩
                          by_cases y : q = o
                          · rw [y]; intro k1 k2 k3
                            first
                            | exact absurd k1.1 (by omega)
                            | exact absurd (show T 311 0 i = o by omega) k2
                            | exact absurd k1.2 (by rcases hlx with w | w; exact absurd w.1 (by omega); exact w.2)
                          · exact h9.2 q a (by omega)
                        · exact hb3
                      · refine hK 215 [some (vR 111 0), some (vI f), some (vI tk), some (vI mr3), some (vI i), some (vI b), some (vI o), some (vI 0)] [vI 1] T3 ?_
                        refine j_blx (F := fX11) tb_X11 (nn_ _) bk_X11_findPaths_215 bs_X11_findPaths_215 hz (fun K hK => ?_)
                        refine rg_i (by omega) ?_
                        refine hK 115 [some (vR 111 0), some (vI f), some (vI tk), some (vI 1), some (vI i), some (vI b), some (vI (o + 1)), some (vI 0)] [] T3 ?_
                        refine j_drop [some (vR 111 0), some (vI f), some (vI tk), some (vI 1), some (vI i), some (vI b), some (vI (o + 1)), none] (fun k v hk => ?_) rfl ?_
                        · match k, hk with
                          | 0, hk => exact hk
                          | 1, hk => exact hk
                          | 2, hk => exact hk
                          | 3, hk => exact hk
                          | 4, hk => exact hk
                          | 5, hk => exact hk
                          | 6, hk => exact hk
                          | 7, hk => cases hk
                          | k + 8, hk => cases hk
                        refine ih_115 _ ?_ 1 b (o + 1) st3 cc3 T3 (Nat.le_refl _) ?_ ?_ ?_ ?_ ?_ ?_
                        · have hm_115 := hm_115 (); omega
                        · exact fr_t (fr_0 _ _) (fr_s hf_115 rfl)
                        · omega
                        · exact fq3
                        · first
                          | exact ⟨pg3.1, fun z => pg3.2 (by omega)⟩
                          | exact ⟨pg3.1, fun z => absurd rfl z⟩
                        · intro z; exact absurd z (by decide)
                        · exact hb3
                    · exact absurd c8 (by decide)
                  · refine ix_i (by omega) ?_
                    intro b10 b10b
                    have e11 : T3 311 0 i = T 311 0 i := hf_115 311 0 i rfl
                    rw [e11] at b10 b10b ⊢
                    refine And.intro (fun c12 => ?_) (fun c12 => ?_)
                    · refine hK 171 _ [] T3 ?_
                      refine j_blx (F := fX11) tb_X11 (nn_ _) bk_X11_findPaths_171 bs_X11_findPaths_171 hz (fun K hK => ?_)
                      refine And.intro (fun c13 => ?_) (fun c13 => ?_)
                      · refine hK 206 [some (vR 111 0), some (vI f), some (vI tk), some (vI mr3), some (vI i), some (vI b), some (vI o), some (vI 0)] [] T3 ?_
                        refine j_blx (F := fX11) tb_X11 (nn_ _) bk_X11_findPaths_206 bs_X11_findPaths_206 hz (fun K hK => ?_)
                        refine And.intro (fun c14 => ?_) (fun c14 => ?_)
                        · refine hK 214 _ [] T3 ?_
                          refine j_blx (F := fX11) tb_X11 (nn_ _) bk_X11_findPaths_214 bs_X11_findPaths_214 hz (fun K hK => ?_)
                          refine rg_i (by omega) ?_
                          refine hK 115 [some (vR 111 0), some (vI f), some (vI tk), some (vI 0), some (vI i), some (vI b), some (vI (o + 1)), some (vI 0)] [] T3 ?_
                          refine j_drop [some (vR 111 0), some (vI f), some (vI tk), some (vI 0), some (vI i), some (vI b), some (vI (o + 1)), none] (fun k v hk => ?_) rfl ?_
                          · match k, hk with
                            | 0, hk => exact hk
                            | 1, hk => exact hk
                            | 2, hk => exact hk
                            | 3, hk => exact hk
                            | 4, hk => exact hk
                            | 5, hk => exact hk
                            | 6, hk => exact hk
                            | 7, hk => cases hk
                            | k + 8, hk => cases hk
                          refine ih_115 _ ?_ 0 b (o + 1) st3 cc3 T3 (Nat.le_refl _) ?_ ?_ ?_ ?_ ?_ ?_
                          · have hm_115 := hm_115 (); omega
                          · exact fr_t (fr_0 _ _) (fr_s hf_115 rfl)
                          · omega
                          · exact fq3
                          · first
                            | exact ⟨pg3.1, fun z => pg3.2 (by omega)⟩
                            | exact ⟨pg3.1, fun z => absurd rfl z⟩
                          · intro z
                            have h9 := rl3 (by omega)
                            refine ⟨h9.1, fun q a b => ?_⟩
                            by_cases y : q = o
                            · rw [y]; intro k1 k2 k3
                              first
                              | exact absurd k1.1 (by omega)
                              | exact absurd (show T 311 0 i = o by omega) k2
                              | exact absurd k1.2 (by rcases hlx with w | w; exact absurd w.1 (by omega); exact w.2)
                            · exact h9.2 q a (by omega)
                          · exact hb3
                        · refine hK 215 [some (vR 111 0), some (vI f), some (vI tk), some (vI mr3), some (vI i), some (vI b), some (vI o), some (vI 0)] [vI 1] T3 ?_
                          refine j_blx (F := fX11) tb_X11 (nn_ _) bk_X11_findPaths_215 bs_X11_findPaths_215 hz (fun K hK => ?_)
                          refine rg_i (by omega) ?_
                          refine hK 115 [some (vR 111 0), some (vI f), some (vI tk), some (vI 1), some (vI i), some (vI b), some (vI (o + 1)), some (vI 0)] [] T3 ?_
                          refine j_drop [some (vR 111 0), some (vI f), some (vI tk), some (vI 1), some (vI i), some (vI b), some (vI (o + 1)), none] (fun k v hk => ?_) rfl ?_
                          · match k, hk with
                            | 0, hk => exact hk
                            | 1, hk => exact hk
                            | 2, hk => exact hk
                            | 3, hk => exact hk
                            | 4, hk => exact hk
                            | 5, hk => exact hk
                            | 6, hk => exact hk
                            | 7, hk => cases hk
                            | k + 8, hk => cases hk
                          refine ih_115 _ ?_ 1 b (o + 1) st3 cc3 T3 (Nat.le_refl _) ?_ ?_ ?_ ?_ ?_ ?_
                          · have hm_115 := hm_115 (); omega
                          · exact fr_t (fr_0 _ _) (fr_s hf_115 rfl)
                          · omega
                          · exact fq3
                          · first
                            | exact ⟨pg3.1, fun z => pg3.2 (by omega)⟩
                            | exact ⟨pg3.1, fun z => absurd rfl z⟩
                          · intro z; exact absurd z (by decide)
                          · exact hb3
                      · exact absurd c13 (by decide)
                    · have hho : gh_ T i ≠ o := by show T 311 0 i ≠ o; omega
                      refine ix_i (by omega) ?_
                      intro b15 b15b
                      have e16 : T3 306 0 i = T 306 0 i := hf_115 306 0 i rfl
                      rw [e16] at b15 b15b ⊢
                      refine hK 161 _ [vI o, vI (T 306 0 i), vR 111 0] T3 ?_
                      refine j_callV (y := yX11_mayLead) (Yc := zX11_mayLead) (rest := []) [vI (T 306 0 i), vI o] (ct_X11_mayLead (T := T3) (by omega) (by omega)) cl_X11_613 (qd_c (by decide +kernel)) (nn_ _) rfl (rf_of rfl) (Nat.le_of_ble_eq_true rfl) (Nat.le_of_ble_eq_true rfl) (Nat.le_of_ble_eq_true rfl) rfl ?_
                      rintro _ _ ⟨rfl, x17, rfl, hx17⟩
                      show J_ zX11_findPaths T (po_X11_findPaths T pi f tk) 0 0 164 _ [vI x17] T3
                      have hlx := hx17
                      rw [ld_e (fun j => hf_115 223 0 j rfl) (fun j => hf_115 214 0 j rfl) (fun j => hf_115 232 0 j rfl) (fun j => hf_115 233 0 j rfl)] at hlx
                      refine j_blx (F := fX11) tb_X11 (nn_ _) bk_X11_findPaths_164 bs_X11_findPaths_164 hz (fun K hK => ?_)
                      refine And.intro (fun c18 => ?_) (fun c18 => ?_)
                      · refine hK 171 _ [] T3 ?_
                        refine j_blx (F := fX11) tb_X11 (nn_ _) bk_X11_findPaths_171 bs_X11_findPaths_171 hz (fun K hK => ?_)
                        refine And.intro (fun c19 => ?_) (fun c19 => ?_)
                        · refine hK 206 [some (vR 111 0), some (vI f), some (vI tk), some (vI mr3), some (vI i), some (vI b), some (vI o), some (vI 0)] [] T3 ?_
                          refine j_blx (F := fX11) tb_X11 (nn_ _) bk_X11_findPaths_206 bs_X11_findPaths_206 hz (fun K hK => ?_)
                          refine And.intro (fun c20 => ?_) (fun c20 => ?_)
                          · refine hK 214 _ [] T3 ?_
                            refine j_blx (F := fX11) tb_X11 (nn_ _) bk_X11_findPaths_214 bs_X11_findPaths_214 hz (fun K hK => ?_)
                            refine rg_i (by omega) ?_
                            refine hK 115 [some (vR 111 0), some (vI f), some (vI tk), some (vI 0), some (vI i), some (vI b), some (vI (o + 1)), some (vI 0)] [] T3 ?_
                            refine j_drop [some (vR 111 0), some (vI f), some (vI tk), some (vI 0), some (vI i), some (vI b), some (vI (o + 1)), none] (fun k v hk => ?_) rfl ?_
                            · match k, hk with
                              | 0, hk => exact hk
                              | 1, hk => exact hk
                              | 2, hk => exact hk
                              | 3, hk => exact hk
                              | 4, hk => exact hk
                              | 5, hk => exact hk
                              | 6, hk => exact hk
                              | 7, hk => cases hk
                              | k + 8, hk => cases hk
                            refine ih_115 _ ?_ 0 b (o + 1) st3 cc3 T3 (Nat.le_refl _) ?_ ?_ ?_ ?_ ?_ ?_
                            · have hm_115 := hm_115 (); omega
                            · exact fr_t (fr_0 _ _) (fr_s hf_115 rfl)
                            · omega
                            · exact fq3
                            · first
                              | exact ⟨pg3.1, fun z => pg3.2 (by omega)⟩
                              | exact ⟨pg3.1, fun z => absurd rfl z⟩
                            · intro z
                              have h9 := rl3 (by omega)
                              refine ⟨h9.1, fun q a b => ?_⟩
                              by_cases y : q = o
                              · rw [y]; intro k1 k2 k3
                                first
                                | exact absurd k1.1 (by omega)
                                | exact absurd (show T 311 0 i = o by omega) k2
                                | exact absurd k1.2 (by rcases hlx with w | w; exact absurd w.1 (by omega); exact w.2)
                              · exact h9.2 q a (by omega)
                            · exact hb3
                          · refine hK 215 [some (vR 111 0), some (vI f), some (vI tk), some (vI mr3), some (vI i), some (vI b), some (vI o), some (vI 0)] [vI 1] T3 ?_
                            refine j_blx (F := fX11) tb_X11 (nn_ _) bk_X11_findPaths_215 bs_X11_findPaths_215 hz (fun K hK => ?_)
                            refine rg_i (by omega) ?_
                            refine hK 115 [some (vR 111 0), some (vI f), some (vI tk), some (vI 1), some (vI i), some (vI b), some (vI (o + 1)), some (vI 0)] [] T3 ?_
                            refine j_drop [some (vR 111 0), some (vI f), some (vI tk), some (vI 1), some (vI i), some (vI b), some (vI (o + 1)), none] (fun k v hk => ?_) rfl ?_
                            · match k, hk with
                              | 0, hk => exact hk
                              | 1, hk => exact hk
                              | 2, hk => exact hk
                              | 3, hk => exact hk
                              | 4, hk => exact hk
                              | 5, hk => exact hk
                              | 6, hk => exact hk
                              | 7, hk => cases hk
                              | k + 8, hk => cases hk
                            refine ih_115 _ ?_ 1 b (o + 1) st3 cc3 T3 (Nat.le_refl _) ?_ ?_ ?_ ?_ ?_ ?_
                            · have hm_115 := hm_115 (); omega
                            · exact fr_t (fr_0 _ _) (fr_s hf_115 rfl)
                            · omega
                            · exact fq3
                            · first
                              | exact ⟨pg3.1, fun z => pg3.2 (by omega)⟩
                              | exact ⟨pg3.1, fun z => absurd rfl z⟩
                            · intro z; exact absurd z (by decide)
                            · exact hb3
                        · exact absurd c19 (by decide)
                      · have hle := hlx.resolve_right (fun z => absurd z.1 (by omega))
                        replace hle := hle.2
                        refine hK 172 _ [vI 1] T3 ?_
                        refine j_blx (F := fX11) tb_X11 (nn_ _) bk_X11_findPaths_172 bs_X11_findPaths_172 hz (fun K hK => ?_)
                        refine And.intro (fun c21 => ?_) (fun c21 => ?_)
                        · exact absurd c21 (by decide)
                        · refine ix_i (by omega) ?_
                          intro b22 b22b
                          have e23 : T3 306 0 i = T 306 0 i := hf_115 306 0 i rfl
                          rw [e23] at b22 b22b ⊢
                          refine hK 196 [some (vR 111 0), some (vI f), some (vI tk), some (vI mr3), some (vI i), some (vI b), some (vI o), some (vI 1)] [vI o, vI (T 306 0 i), vR 111 0, vI b, vI o, vI i, vR 111 0] T3 ?_
                          refine j_callV (y := yX11_distanceOf) (Yc := zX11_distanceOf) (rest := [vI b, vI o, vI i, vR 111 0]) [vI (T 306 0 i), vI o] (ct_X11_distanceOf (T := T3) (by omega) (by omega)) cl_X11_610 (qd_c (by decide +kernel)) (nn_ _) rfl (rf_of rfl) (Nat.le_of_ble_eq_true rfl) (Nat.le_of_ble_eq_true rfl) (Nat.le_of_ble_eq_true rfl) rfl ?_
                          rintro _ _ ⟨rfl, rfl⟩
                          show J_ zX11_findPaths T (po_X11_findPaths T pi f tk) 0 0 199 _ [vI (di_ T3 (T 306 0 i) o), vI b, vI o, vI i, vR 111 0] T3
                          refine j_blx (F := fX11) tb_X11 (nn_ _) bk_X11_findPaths_199 bs_X11_findPaths_199 hz (fun K hK => ?_)
                          have hdo := hdd i o (by omega) (by omega) (by omega) (by omega)
                          have hedi : di_ T3 (T 306 0 i) o = di_ T (T 306 0 i) o := di_e (fun j => hf_115 222 0 j rfl) (fun j => hf_115 213 0 j rfl) (fun j => hf_115 232 0 j rfl)
                          refine rg_i (by omega) ?_
                          refine hK 200 _ [vI (b + (di_ T3 (T 306 0 i) o)), vI o, vI i, vR 111 0] T3 ?_
                          have hub : b + di_ T (T 306 0 i) o ≤ 10011 + 11 * rc8_ (far_ T3) := by omega
                          refine j_callV (y := yX11_reach) (Yc := zX11_reach) (rest := []) [vI i, vI o, vI (b + (di_ T3 (T 306 0 i) o))] (ct_X11_reach (T := T3) (by omega) (by omega)) cl_X11_616 (qd_c (by decide +kernel)) (nn_ _) rfl (rf_of rfl) (Nat.le_of_ble_eq_true rfl) (Nat.le_of_ble_eq_true rfl) (Nat.le_of_ble_eq_true rfl) rfl ?_
                          rintro U24 _ ⟨x25, rfl, fU24, qU24⟩
                          show J_ zX11_findPaths T (po_X11_findPaths T pi f tk) 0 0 203 _ [vI x25] U24
                          have hq9 := qU24
                          refine j_blx (F := fX11) tb_X11 (nn_ _) bk_X11_findPaths_203 bs_X11_findPaths_203 hz (fun K hK => ?_)
                          refine And.intro (fun c26 => ?_) (fun c26 => ?_)
                          · have hsh : far_ T3 o < 0 ∨ b + di_ T (T 306 0 i) o < far_ T3 o := by
                              have h8 := (hq9.resolve_right (fun z => absurd z.1 (by omega))).2.1
                              rw [hedi] at h8
                              exact h8
                            have hh := hq9.resolve_right (fun z => absurd z.1 (by omega))
                            have hfar : far_ U24 = fu_ (far_ T3) o (b + di_ T (T 306 0 i) o) := by rw [show di_ T (T 306 0 i) o = di_ T3 (T 306 0 i) o from (di_e (fun j => hf_115 222 0 j rfl) (fun j => hf_115 213 0 j rfl) (fun j => hf_115 232 0 j rfl)).symm]; exact hh.2.2.1
                            have hcby : cby_ U24 = fu_ (cby_ T3) o i := hh.2.2.2
                            have hne : gh_ T i ≠ o := hho
                            have hfi := fi_u (F := (ofs_ T tk f)) (st := st3) (c := cc3) (i := i) (o := o) P fq3.1 fq3.2.1 (show f ≤ i ∧ i < T 111 0 107 by omega) ⟨by omega, hle⟩ hne (show 0 ≤ o ∧ o < T 111 0 21 by omega) (by rw [← hb3]; omega) (by rw [← hb3]; exact hsh)
                            rw [← hb3] at hfi
                            have hfb := fb_u (v := b + di_ T (T 306 0 i) o) fq3.2.2 (by omega) (show 0 ≤ o ∧ o < T 111 0 21 by omega) hsh (by have := hfi.1; show (0 : Int) ≤ b + (ofs_ T tk f).d i o; omega) hub
                            have fq9 : FQ_ T U24 tk f pi (fsn_ st3 o (cc3 + 1)) (cc3 + 1) := by
                              refine ⟨fun q a c => ?_, fun q => ?_, ?_⟩
                              · rw [hfar, hcby]; exact hfi.2 q a c
                              · by_cases z : q = o
                                · rw [z, fsn_s]; exact Nat.le_refl _
                                · rw [fsn_n z]; exact Nat.le_succ_of_le (fq3.2.1 q)
                              · rw [hfar]; exact hfb.1
                            refine hK 210 _ [] U24 ?_
                            refine j_blx (F := fX11) tb_X11 (nn_ _) bk_X11_findPaths_210 bs_X11_findPaths_210 hz (fun K hK => ?_)
                            refine hK 215 _ [vI 1] U24 ?_
                            refine j_blx (F := fX11) tb_X11 (nn_ _) bk_X11_findPaths_215 bs_X11_findPaths_215 hz (fun K hK => ?_)
                            refine rg_i (by omega) ?_
                            refine hK 115 [some (vR 111 0), some (vI f), some (vI tk), some (vI 1), some (vI i), some (vI b), some (vI (o + 1)), some (vI 1)] [] U24 ?_
                            refine j_drop [some (vR 111 0), some (vI f), some (vI tk), some (vI 1), some (vI i), some (vI b), some (vI (o + 1)), none] (fun k v hk => ?_) rfl ?_
                            · match k, hk with
                              | 0, hk => exact hk
                              | 1, hk => exact hk
                              | 2, hk => exact hk
                              | 3, hk => exact hk
                              | 4, hk => exact hk
                              | 5, hk => exact hk
                              | 6, hk => exact hk
                              | 7, hk => cases hk
                              | k + 8, hk => cases hk
                            refine ih_115 _ ?_ 1 b (o + 1) (fsn_ st3 o (cc3 + 1)) (cc3 + 1) U24 (Nat.le_refl _) ?_ ?_ ?_ ?_ ?_ ?_
                            · have hm_115 := hm_115 (); omega
                            · exact fr_t (fr_t (fr_0 _ _) (fr_s hf_115 rfl)) (fr_s fU24 rfl)
                            · omega
                            · exact fq9
                            · unfold PG_
                              rw [hfar]
                              exact ⟨by have := hfb.2; have := pg3.1; omega, fun _ => by have := hfb.2; have := pg3.1; omega⟩
                            · intro z; exact absurd z (by decide)
                            · rw [hfar]
                              unfold bs_
                              rw [fu_n hne]
                              exact hb3
                          · have hh := hq9.resolve_left (fun z => absurd z.1 (by omega))
                            have hfar : far_ U24 = far_ T3 := hh.2.2.2.1
                            have hcby : cby_ U24 = cby_ T3 := hh.2.2.2.2
                            have fq9 := fq_e fq3 hfar hcby
                            refine And.intro (fun c27 => ?_) (fun c27 => ?_)
                            · refine hK 214 [some (vR 111 0), some (vI f), some (vI tk), some (vI mr3), some (vI i), some (vI b), some (vI o), some (vI 1)] [] U24 ?_
                              refine j_blx (F := fX11) tb_X11 (nn_ _) bk_X11_findPaths_214 bs_X11_findPaths_214 hz (fun K hK => ?_)
                              refine rg_i (by omega) ?_
                              refine hK 115 [some (vR 111 0), some (vI f), some (vI tk), some (vI 0), some (vI i), some (vI b), some (vI (o + 1)), some (vI 1)] [] U24 ?_
                              refine j_drop [some (vR 111 0), some (vI f), some (vI tk), some (vI 0), some (vI i), some (vI b), some (vI (o + 1)), none] (fun k v hk => ?_) rfl ?_
                              · match k, hk with
                                | 0, hk => exact hk
                                | 1, hk => exact hk
                                | 2, hk => exact hk
                                | 3, hk => exact hk
                                | 4, hk => exact hk
                                | 5, hk => exact hk
                                | 6, hk => exact hk
                                | 7, hk => cases hk
                                | k + 8, hk => cases hk
                              refine ih_115 _ ?_ 0 b (o + 1) st3 cc3 U24 (Nat.le_refl _) ?_ ?_ ?_ ?_ ?_ ?_
                              · have hm_115 := hm_115 (); omega
                              · exact fr_t (fr_t (fr_0 _ _) (fr_s hf_115 rfl)) (fr_s fU24 rfl)
                              · omega
                              · exact fq9
                              · unfold PG_
                                rw [hfar]
                                exact ⟨pg3.1, fun z => pg3.2 (by omega)⟩
                              · intro z
                                have h9 := rl3 (by omega)
                                unfold RL_
                                rw [hfar]
                                refine ⟨h9.1, fun q a b => ?_⟩
                                by_cases y : q = o
                                · rw [y]; intro k1 k2 k3
                                  rw [← hb3]
                                  have h8 := hh.2.2.1
                                  rw [hedi] at h8
                                  exact ⟨hh.2.1, h8⟩
                                · exact h9.2 q a (by omega)
                              · rw [show far_ U24 = far_ T3 from hfar]
                                exact hb3
                            · refine hK 215 [some (vR 111 0), some (vI f), some (vI tk), some (vI mr3), some (vI i), some (vI b), some (vI o), some (vI 1)] [vI 1] U24 ?_
                              refine j_blx (F := fX11) tb_X11 (nn_ _) bk_X11_findPaths_215 bs_X11_findPaths_215 hz (fun K hK => ?_)
                              refine rg_i (by omega) ?_
                              refine hK 115 [some (vR 111 0), some (vI f), some (vI tk), some (vI 1), some (vI i), some (vI b), some (vI (o + 1)), some (vI 1)] [] U24 ?_
                              refine j_drop [some (vR 111 0), some (vI f), some (vI tk), some (vI 1), some (vI i), some (vI b), some (vI (o + 1)), none] (fun k v hk => ?_) rfl ?_
                              · match k, hk with
                                | 0, hk => exact hk
                                | 1, hk => exact hk
                                | 2, hk => exact hk
                                | 3, hk => exact hk
                                | 4, hk => exact hk
                                | 5, hk => exact hk
                                | 6, hk => exact hk
                                | 7, hk => cases hk
                                | k + 8, hk => cases hk
                              refine ih_115 _ ?_ 1 b (o + 1) st3 cc3 U24 (Nat.le_refl _) ?_ ?_ ?_ ?_ ?_ ?_
                              · have hm_115 := hm_115 (); omega
                              · exact fr_t (fr_t (fr_0 _ _) (fr_s hf_115 rfl)) (fr_s fU24 rfl)
                              · omega
                              · exact fq9
                              · unfold PG_
                                rw [hfar]
                                exact ⟨pg3.1, fun z => pg3.2 (by omega)⟩
                              · intro z; exact absurd z (by decide)
                              · rw [show far_ U24 = far_ T3 from hfar]
                                exact hb3
          refine j_blx (F := fX11) tb_X11 (nn_ _) bk_X11_findPaths_34 bs_X11_findPaths_34 hz (fun K hK => ?_)
          intro b28 b28b
          have e29 : T2 111 0 107 = T 111 0 107 := hf_34 111 0 107 rfl
          rw [e29] at b28 b28b ⊢
          refine And.intro (fun c30 => ?_) (fun c30 => ?_)
          · refine hK 228 _ [] T2 ?_
            refine j_blx (F := fX11) tb_X11 (nn_ _) bk_X11_findPaths_228 bs_X11_findPaths_228 hz (fun K hK => ?_)
            refine hK 25 _ [] T2 ?_
            refine j_drop [some (vR 111 0), some (vI f), some (vI tk), some (vI mr2), none, none, none, none] (fun k v hk => ?_) rfl ?_
            · match k, hk with
              | 0, hk => exact hk
              | 1, hk => exact hk
              | 2, hk => exact hk
              | 3, hk => exact hk
              | 4, hk => cases hk
              | 5, hk => cases hk
              | 6, hk => cases hk
              | 7, hk => cases hk
              | k + 8, hk => cases hk
            refine ih_25 _ ?_ mr2 st2 cc2 T2 (Nat.le_refl _) ?_ ?_ ?_ ?_
            · have hm_25 := hm_25 (); exact Nat.lt_of_lt_of_le (fm9_l (by omega) (mu8_n _) (mu8_n _) (by by_cases z : mr2 = 0; exact Or.inl z; exact Or.inr (pg2.2 z))) hm_25
            · exact fr_t (fr_0 _ _) (fr_s hf_34 rfl)
            · omega
            · exact fq2
            · intro z j q a b c d
              exact (rl2 z).1 j q a (by omega) c d
          · refine ix_i (by omega) ?_
            intro b31 b31b
            have e32 : T2 311 0 i = T 311 0 i := hf_34 311 0 i rfl
            rw [e32] at b31 b31b ⊢
            refine And.intro (fun c33 => ?_) (fun c33 => ?_)
            · refine hK 60 [some (vR 111 0), some (vI f), some (vI tk), some (vI mr2), some (vI i), none, none, none] [] T2 ?_
              refine j_blx (F := fX11) tb_X11 (nn_ _) bk_X11_findPaths_60 bs_X11_findPaths_60 hz (fun K hK => ?_)
              refine ix_i (by omega) ?_
              intro b34 b34b
              have e35 : T2 311 0 i = T 311 0 i := hf_34 311 0 i rfl
              rw [e35] at b34 b34b ⊢
              refine ix_i (by omega) ?_
              intro b36 b36b
              refine And.intro (fun c37 => ?_) (fun c37 => ?_)
              · refine hK 79 _ [] T2 ?_
                refine j_blx (F := fX11) tb_X11 (nn_ _) bk_X11_findPaths_79 bs_X11_findPaths_79 hz (fun K hK => ?_)
                refine ix_i (by omega) ?_
                intro b38 b38b
                have e39 : T2 311 0 i = T 311 0 i := hf_34 311 0 i rfl
                rw [e39] at b38 b38b ⊢
                refine ix_i (by omega) ?_
                intro b40 b40b
                refine ix_i (by omega) ?_
                intro b41 b41b
                have e42 : T2 306 0 i = T 306 0 i := hf_34 306 0 i rfl
                rw [e42] at b41 b41b ⊢
                refine ix_i (by omega) ?_
                intro b43 b43b
                have e44 : T2 311 0 i = T 311 0 i := hf_34 311 0 i rfl
                rw [e44] at b43 b43b ⊢
                refine hK 106 _ [vI (T 311 0 i), vI (T 306 0 i), vR 111 0, vI (T2 309 0 (T 311 0 i))] T2 ?_
                refine j_callV (y := yX11_distanceOf) (Yc := zX11_distanceOf) (rest := [vI (T2 309 0 (T 311 0 i))]) [vI (T 306 0 i), vI (T 311 0 i)] (ct_X11_distanceOf (T := T2) (by omega) (by omega)) cl_X11_610 (qd_c (by decide +kernel)) (nn_ _) rfl (rf_of rfl) (Nat.le_of_ble_eq_true rfl) (Nat.le_of_ble_eq_true rfl) (Nat.le_of_ble_eq_true rfl) rfl ?_
                rintro _ _ ⟨rfl, rfl⟩
                show J_ zX11_findPaths T (po_X11_findPaths T pi f tk) 0 0 109 _ [vI (di_ T2 (T 306 0 i) (T 311 0 i)), vI (T2 309 0 (T 311 0 i))] T2
                refine j_blx (F := fX11) tb_X11 (nn_ _) bk_X11_findPaths_109 bs_X11_findPaths_109 hz (fun K hK => ?_)
                have hedi2 : di_ T2 (T 306 0 i) (T 311 0 i) = di_ T (T 306 0 i) (T 311 0 i) := di_e (fun j => hf_34 222 0 j rfl) (fun j => hf_34 213 0 j rfl) (fun j => hf_34 232 0 j rfl)
                have hd2 := hdd i (T 311 0 i) (by omega) (by omega) (by omega) (by omega)
                refine rg_i (by omega) ?_
                refine hK 115 [some (vR 111 0), some (vI f), some (vI tk), some (vI mr2), some (vI i), some (vI ((T2 309 0 (T 311 0 i)) - (di_ T2 (T 306 0 i) (T 311 0 i)))), some (vI 0), none] [] T2 ?_
                refine c_115 _ mr2 ((T2 309 0 (T 311 0 i)) - (di_ T2 (T 306 0 i) (T 311 0 i))) 0 st2 cc2 T2 (Nat.le_refl _) ?_ ?_ ?_ ?_ ?_ ?_
                · exact fr_t (fr_0 _ _) (fr_s hf_34 rfl)
                · omega
                · exact fq2
                · exact pg2
                · intro z
                  have h9 := rl2 z
                  exact ⟨h9.1, fun q a b => by omega⟩
                · show _ = bs_ _ _ _ _
                  unfold bs_ gh_ far_
                  rw [if_neg (by omega), if_neg (by omega)]
                  show _ = _ - di_ T (T 306 0 i) _
                  omega
              · refine hK 110 [some (vR 111 0), some (vI f), some (vI tk), some (vI mr2), some (vI i), none, none, none] [vI (-1)] T2 ?_
                refine j_blx (F := fX11) tb_X11 (nn_ _) bk_X11_findPaths_110 bs_X11_findPaths_110 hz (fun K hK => ?_)
                refine hK 115 [some (vR 111 0), some (vI f), some (vI tk), some (vI mr2), some (vI i), some (vI (-1)), some (vI 0), none] [] T2 ?_
                refine c_115 _ mr2 (-1) 0 st2 cc2 T2 (Nat.le_refl _) ?_ ?_ ?_ ?_ ?_ ?_
                · exact fr_t (fr_0 _ _) (fr_s hf_34 rfl)
                · omega
                · exact fq2
                · exact pg2
                · intro z
                  have h9 := rl2 z
                  exact ⟨h9.1, fun q a b => by omega⟩
                · show _ = bs_ _ _ _ _
                  unfold bs_ gh_ far_
                  rw [if_neg (by omega), if_pos (by omega)]
            · refine hK 110 _ [vI 10000] T2 ?_
              refine j_blx (F := fX11) tb_X11 (nn_ _) bk_X11_findPaths_110 bs_X11_findPaths_110 hz (fun K hK => ?_)
              refine hK 115 [some (vR 111 0), some (vI f), some (vI tk), some (vI mr2), some (vI i), some (vI 10000), some (vI 0), none] [] T2 ?_
              refine c_115 _ mr2 10000 0 st2 cc2 T2 (Nat.le_refl _) ?_ ?_ ?_ ?_ ?_ ?_
              · exact fr_t (fr_0 _ _) (fr_s hf_34 rfl)
              · omega
              · exact fq2
              · exact pg2
              · intro z
                have h9 := rl2 z
                exact ⟨h9.1, fun q a b => by omega⟩
              · show _ = bs_ _ _ _ _
                unfold bs_ gh_ far_
                rw [if_pos (by omega)]
      refine j_blx (F := fX11) tb_X11 (nn_ _) bk_X11_findPaths_25 bs_X11_findPaths_25 hz (fun K hK => ?_)
      refine And.intro (fun c45 => ?_) (fun c45 => ?_)
      · refine hK 231 _ [] T1 ?_
        refine j_blx (F := fX11) tb_X11 (nn_ _) bk_X11_findPaths_231 bs_X11_findPaths_231 hz (fun K hK => ?_)
        refine (show po_X11_findPaths T pi f tk T1 (none) from ?_)
        exact ⟨rfl, fr_t (fr_0 _ _) (fr_s hf_25 rfl), st1, P, fq1.1, fun j q a b c d => rx1 (by omega) j q a b c d⟩
      · refine hK 34 [some (vR 111 0), some (vI f), some (vI tk), some (vI 0), some (vI f), none, none, none] [] T1 ?_
        refine c_34 _ 0 f st1 cc1 T1 (Nat.le_refl _) ?_ ?_ ?_ ?_ ?_
        · exact fr_t (fr_0 _ _) (fr_s hf_25 rfl)
        · omega
        · exact fq1
        · exact ⟨Int.le_refl _, fun z => absurd rfl z⟩
        · exact fun _ => ⟨fun j q a b => by omega, fun q a b => by omega⟩
  have c_2 : ∀ (nn : Nat) (o : Int) (T0 : Zt), ((8 - o).toNat) ≤ nn → (fr_ [(309, [])] T T0) → (0 ≤ o ∧ o ≤ 8) → (∀ j, 0 ≤ j → j < o → T0 309 0 j = -1) → J_ zX11_findPaths T (po_X11_findPaths T pi f tk) 0 0 2 [some (vR 111 0), some (vI f), some (vI tk), some (vI o), none, none, none, none] [] T0 := by
    intro nn
    induction nn using Nat.strongRecOn with
    | _ nn ih_2 =>
      intro o T0 hm_2 hf_2 i0 z1
      replace hm_2 := fun (_ : Unit) => hm_2
      refine j_blx (F := fX11) tb_X11 (nn_ _) bk_X11_findPaths_2 bs_X11_findPaths_2 hz (fun K hK => ?_)
      intro b46 b46b
      have e47 : T0 111 0 21 = T 111 0 21 := hf_2 111 0 21 rfl
      rw [e47] at b46 b46b ⊢
      refine And.intro (fun c48 => ?_) (fun c48 => ?_)
      · refine hK 23 _ [] T0 ?_
        have fq0 : FQ_ T T0 tk f pi (fun _ => 0) 0 := ⟨fun q a b => Or.inl (by show T0 309 0 q < 0; rw [z1 q a (by omega)]; decide), fun _ => Nat.le_refl _, fun q a b => by have := rc8_n (far_ T0); show T0 309 0 q ≤ _; rw [z1 q a (by omega)]; omega⟩
        refine j_blx (F := fX11) tb_X11 (nn_ _) bk_X11_findPaths_23 bs_X11_findPaths_23 hz (fun K hK => ?_)
        refine hK 25 [some (vR 111 0), some (vI f), some (vI tk), some (vI 1), none, none, none, none] [] T0 ?_
        refine c_25 _ 1 (fun _ => 0) 0 T0 (Nat.le_refl _) ?_ ?_ ?_ ?_
        · exact fr_t (fr_0 _ _) (fr_s hf_2 rfl)
        · omega
        · exact fq0
        · intro z; exact absurd z (by decide)
      · refine iy_i (by omega) (by omega) ?_
        refine x_nm (fun U49 hU49 => ?_)
        have e50 := up_f hU49
        refine rg_i (by omega) ?_
        refine hK 2 [some (vR 111 0), some (vI f), some (vI tk), some (vI (o + 1)), none, none, none, none] [] U49 ?_
        refine ih_2 _ ?_ (o + 1) U49 (Nat.le_refl _) ?_ ?_ ?_
        · have hm_2 := hm_2 (); omega
        · exact fr_u (fr_t (fr_0 _ _) (fr_s hf_2 rfl)) hU49 rfl
        · omega
        · intro j a b
          by_cases z : j = o
          · rw [z]; exact up_f hU49
          · rw [up_g hU49 (fun q => z q.2.2)]; exact z1 j a (by omega)
  refine j_blx (F := fX11) tb_X11 (nn_ _) bk_X11_findPaths_0 bs_X11_findPaths_0 hz (fun K hK => ?_)
  refine hK 2 [some (vR 111 0), some (vI f), some (vI tk), some (vI 0), none, none, none, none] [] T ?_
  refine c_2 _ 0 T (Nat.le_refl _) ?_ ?_ ?_
  · exact fr_0 _ _
  · omega
  · intro j a b; omega
