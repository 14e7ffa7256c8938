-- the fixtures of a plan, as a list: round, home's seat, away's seat, date
abbrev Fx9_ : Type := Int × Int × Int × Int
def pa9_ (L r i : Int) : Int := if i = 0 then L else (r + i) % L
def pb9_ (L r i : Int) : Int := if i = 0 then r else (r - i + L) % L
def pq9_ (r i : Int) : Int := if i = 0 then r % 2 else i % 2
def hm9_ (L r u i : Int) : Int := if pq9_ r i = u then pb9_ L r i else pa9_ L r i
def aw9_ (L r u i : Int) : Int := if pq9_ r i = u then pa9_ L r i else pb9_ L r i
theorem hm9_b {L r u i : Int} (h : pq9_ r i = u) : hm9_ L r u i = pb9_ L r i ∧ aw9_ L r u i = pa9_ L r i := ⟨if_pos h, if_pos h⟩
theorem hm9_a {L r u i : Int} (h : pq9_ r i ≠ u) : hm9_ L r u i = pa9_ L r i ∧ aw9_ L r u i = pb9_ L r i := ⟨if_neg h, if_neg h⟩
theorem pq9_0 {r : Int} : pq9_ r 0 = r % 2 := if_pos rfl
theorem pq9_i {r i : Int} (h : i ≠ 0) : pq9_ r i = i % 2 := if_neg h
theorem pa9_0 {L r : Int} : pa9_ L r 0 = L := if_pos rfl
theorem pb9_0 {L r : Int} : pb9_ L r 0 = r := if_pos rfl
theorem pa9_i {L r i : Int} (h : i ≠ 0) : pa9_ L r i = (r + i) % L := if_neg h
theorem pb9_i {L r i : Int} (h : i ≠ 0) : pb9_ L r i = (r - i + L) % L := if_neg h
noncomputable def fa9_ (e rd dt h a : Int) (l : List Fx9_) : List Fx9_ := @ite _ (h < e ∧ a < e) (Classical.propDecidable _) (l ++ [(rd, h, a, dt)]) l
theorem fa9_y {e rd dt h a : Int} {l : List Fx9_} (g : h < e ∧ a < e) : fa9_ e rd dt h a l = l ++ [(rd, h, a, dt)] := if_pos g
theorem fa9_n {e rd dt h a : Int} {l : List Fx9_} (g : ¬ (h < e ∧ a < e)) : fa9_ e rd dt h a l = l := if_neg g
noncomputable def rl9_ (e L r u rd dt : Int) : Nat → List Fx9_ → List Fx9_
  | 0, l => l
  | i + 1, l => fa9_ e rd dt (hm9_ L r u i) (aw9_ L r u i) (rl9_ e L r u rd dt i l)
noncomputable def ll9_ (e L g f E : Int) : Nat → List Fx9_ → List Fx9_
  | 0, l => l
  | r + 1, l => rl9_ e L r (g % 2) (g * L + r) (f + (g * L + r) * E) ((L + 1) / 2).toNat (ll9_ e L g f E r l)
noncomputable def pl9_ (e L f E : Int) : Nat → List Fx9_
  | 0 => []
  | g + 1 => ll9_ e L g f E L.toNat (pl9_ e L f E g)
theorem fa9_a {e rd dt h a : Int} {l m : List Fx9_} : fa9_ e rd dt h a (l ++ m) = l ++ fa9_ e rd dt h a m := by
  by_cases g : h < e ∧ a < e
  · rw [fa9_y g, fa9_y g, List.append_assoc]
  · rw [fa9_n g, fa9_n g]
theorem rl9_a {e L r u rd dt : Int} {l : List Fx9_} : ∀ i : Nat, rl9_ e L r u rd dt i l = l ++ rl9_ e L r u rd dt i []
  | 0 => (List.append_nil l).symm
  | i + 1 => by
      show fa9_ e rd dt (hm9_ L r u i) (aw9_ L r u i) (rl9_ e L r u rd dt i l) = l ++ fa9_ e rd dt (hm9_ L r u i) (aw9_ L r u i) (rl9_ e L r u rd dt i [])
      rw [rl9_a i, fa9_a]
theorem fa9_l {e rd dt h a : Int} {l : List Fx9_} : (fa9_ e rd dt h a l).length ≤ l.length + 1 := by
  by_cases g : h < e ∧ a < e
  · rw [fa9_y g, List.length_append]
    exact Nat.le_refl _
  · rw [fa9_n g]
    omega
/-- what stands in a round at most: q is 1 where a place is none -/
theorem rl9_l {e L r u rd dt : Int} {q : Nat} {l : List Fx9_} (hq : q = 0 ∨ (q = 1 ∧ e ≤ L)) : ∀ i : Nat, (rl9_ e L r u rd dt (i + 1) l).length + q ≤ l.length + (i + 1)
  | 0 => by
      show (fa9_ e rd dt (hm9_ L r u (0 : Nat)) (aw9_ L r u (0 : Nat)) l).length + q ≤ l.length + (0 + 1)
      rcases hq with rfl | ⟨rfl, h⟩
      · exact fa9_l
      · rw [fa9_n]
        · omega
        · intro g
          have e1 : pa9_ L r ((0 : Nat) : Int) = L := pa9_0
          by_cases z : pq9_ r ((0 : Nat) : Int) = u
          · rw [(hm9_b z).2, e1] at g
            omega
          · rw [(hm9_a z).1, e1] at g
            omega
  | i + 1 => by
      have h := rl9_l hq (r := r) (u := u) (rd := rd) (dt := dt) (l := l) i
      have g : (rl9_ e L r u rd dt (i + 1 + 1) l).length ≤ (rl9_ e L r u rd dt (i + 1) l).length + 1 := fa9_l
      omega
theorem ll9_l {e L g f E : Int} {P : Nat} {l : List Fx9_} (h : ∀ (r u rd dt : Int) (l : List Fx9_), (rl9_ e L r u rd dt ((L + 1) / 2).toNat l).length ≤ l.length + P) : ∀ r : Nat, (ll9_ e L g f E r l).length ≤ l.length + r * P
  | 0 => by
      show l.length ≤ _
      omega
  | r + 1 => by
      have a := ll9_l (g := g) (f := f) (E := E) (l := l) h r
      have b := h r (g % 2) (g * L + r) (f + (g * L + r) * E) (ll9_ e L g f E r l)
      show (rl9_ e L r (g % 2) (g * L + r) (f + (g * L + r) * E) ((L + 1) / 2).toNat (ll9_ e L g f E r l)).length ≤ _
      rw [Nat.add_mul, Nat.one_mul]
      omega
theorem pl9_l {e L f E : Int} {P : Nat} (h : ∀ (r u rd dt : Int) (l : List Fx9_), (rl9_ e L r u rd dt ((L + 1) / 2).toNat l).length ≤ l.length + P) : ∀ g : Nat, (pl9_ e L f E g).length ≤ g * (L.toNat * P)
  | 0 => by
      show 0 ≤ _
      omega
  | g + 1 => by
      have a := pl9_l (f := f) (E := E) h g
      have b := ll9_l (g := g) (f := f) (E := E) (l := pl9_ e L f E g) h L.toNat
      show (ll9_ e L g f E L.toNat (pl9_ e L f E g)).length ≤ _
      rw [Nat.add_mul, Nat.one_mul]
      omega
theorem an9_m {x : Int} (h : 0 ≤ x ∧ x ≤ 2147483647) : an_ x 1 = x % 2 := by
  rw [an_n h ⟨by decide, by decide⟩, show Int.toNat 1 = 1 from rfl, Nat.and_one_is_mod]
  omega
/-- the house has laid these matches -/
def AP9_ (T T' : Zt) (c : Int) (l : List Fx9_) : Prop := T' 106 0 4 = T 106 0 4 + l.length ∧ ∀ (k : Nat) (q : Fx9_), l[k]? = some q → T' 102 (T 106 0 4 + k) 0 = c ∧ T' 102 (T 106 0 4 + k) 2 = q.1 ∧ T' 102 (T 106 0 4 + k) 3 = T 403 c q.2.1 ∧ T' 102 (T 106 0 4 + k) 4 = T 403 c q.2.2.1 ∧ T' 102 (T 106 0 4 + k) 5 = q.2.2.2 ∧ T' 102 (T 106 0 4 + k) 6 = -1 ∧ T' 102 (T 106 0 4 + k) 7 = -1 ∧ T' 102 (T 106 0 4 + k) 10 = 0
theorem ap9_0 {T T' : Zt} {c : Int} (h : T' 106 0 4 = T 106 0 4) : AP9_ T T' c [] := ⟨by show _ = T 106 0 4 + ((0 : Nat) : Int); omega, fun k q h => by cases h⟩
theorem ap9_t {T T1 T2 : Zt} {c : Int} {l m : List Fx9_} (h : AP9_ T T1 c l) (g : AP9_ T1 T2 c m) (h0 : 0 ≤ T 106 0 4) (ho : ∀ i j, i < T1 106 0 4 → T2 102 i j = T1 102 i j) (h4 : ∀ j, T1 403 c j = T 403 c j) : AP9_ T T2 c (l ++ m) := by
  obtain ⟨h1, h2⟩ := h
  obtain ⟨g1, g2⟩ := g
  refine ⟨by rw [List.length_append]; omega, fun k q hq => ?_⟩
  by_cases z : k < l.length
  · rw [List.getElem?_append_left z] at hq
    have a := h2 k q hq
    have o : ∀ j, T2 102 (T 106 0 4 + k) j = T1 102 (T 106 0 4 + k) j := fun j => ho _ j (by omega)
    rw [o 0, o 2, o 3, o 4, o 5, o 6, o 7, o 10]
    exact a
  · rw [List.getElem?_append_right (by omega)] at hq
    have a := g2 (k - l.length) q hq
    rw [show T1 106 0 4 + ((k - l.length : Nat) : Int) = T 106 0 4 + k by omega, h4, h4] at a
    exact a
/-- the reference has laid these matches -/
def AR9_ (T T' : Zt) (c : Int) (l : List Fx9_) : Prop := T' 111 0 29 = T 111 0 29 + l.length ∧ ∀ (k : Nat) (q : Fx9_), l[k]? = some q → T' 230 0 (T 111 0 29 + k) = c ∧ T' 231 0 (T 111 0 29 + k) = q.1 ∧ T' 232 0 (T 111 0 29 + k) = T 207 0 (12 * c + q.2.1) ∧ T' 233 0 (T 111 0 29 + k) = T 207 0 (12 * c + q.2.2.1) ∧ T' 234 0 (T 111 0 29 + k) = q.2.2.2 ∧ T' 235 0 (T 111 0 29 + k) = 0 ∧ T' 238 0 (T 111 0 29 + k) = -1 ∧ T' 253 0 (T 111 0 29 + k) = -1 ∧ T' 255 0 (T 111 0 29 + k) = -1
theorem ar9_0 {T T' : Zt} {c : Int} (h : T' 111 0 29 = T 111 0 29) : AR9_ T T' c [] := ⟨by show _ = T 111 0 29 + ((0 : Nat) : Int); omega, fun k q h => by cases h⟩
/-- one match more -/
theorem ar9_s {T T1 T2 : Zt} {c rd h a d : Int} {l : List Fx9_} (g : AR9_ T T1 c l) (h0 : T2 111 0 29 = T1 111 0 29 + 1) (ho : ∀ j, j ≠ T1 111 0 29 → T2 230 0 j = T1 230 0 j ∧ T2 231 0 j = T1 231 0 j ∧ T2 232 0 j = T1 232 0 j ∧ T2 233 0 j = T1 233 0 j ∧ T2 234 0 j = T1 234 0 j ∧ T2 235 0 j = T1 235 0 j ∧ T2 238 0 j = T1 238 0 j ∧ T2 253 0 j = T1 253 0 j ∧ T2 255 0 j = T1 255 0 j) (hv : T2 230 0 (T1 111 0 29) = c ∧ T2 231 0 (T1 111 0 29) = rd ∧ T2 232 0 (T1 111 0 29) = T 207 0 (12 * c + h) ∧ T2 233 0 (T1 111 0 29) = T 207 0 (12 * c + a) ∧ T2 234 0 (T1 111 0 29) = d ∧ T2 235 0 (T1 111 0 29) = 0 ∧ T2 238 0 (T1 111 0 29) = -1 ∧ T2 253 0 (T1 111 0 29) = -1 ∧ T2 255 0 (T1 111 0 29) = -1) : AR9_ T T2 c (l ++ [(rd, h, a, d)]) := by
  obtain ⟨h1, h2⟩ := g
  refine ⟨by rw [List.length_append]; show _ = _ + ((l.length + 1 : Nat) : Int); omega, fun k q hq => ?_⟩
  by_cases z : k < l.length
  · rw [List.getElem?_append_left z] at hq
    have x := h2 k q hq
    obtain ⟨o1, o2, o3, o4, o5, o6, o7, o8, o9⟩ := ho (T 111 0 29 + k) (by omega)
    rw [o1, o2, o3, o4, o5, o6, o7, o8, o9]
    exact x
  · rw [List.getElem?_append_right (by omega)] at hq
    by_cases y : k = l.length
    · rw [y, Nat.sub_self] at hq
      cases hq
      rw [show T 111 0 29 + (k : Int) = T1 111 0 29 by omega]
      exact hv
    · rw [List.getElem?_eq_none (show [(rd, h, a, d)].length ≤ k - l.length by show 1 ≤ k - l.length; omega)] at hq
      cases hq
/-- a fixture is laid, or its place is none -/
theorem ap9_f {T T1 T2 : Zt} {c e u h a d : Int} {l : List Fx9_} (g : AP9_ T T1 c l) (h0 : 0 ≤ T 106 0 4) (hl : T1 106 0 4 < 400) (he : T1 100 c 5 = e) (h4 : ∀ j, T1 403 c j = T 403 c j) (hx : (T2 = T1 ∧ (T1 100 c 5 ≤ h ∨ T1 100 c 5 ≤ a ∨ 400 ≤ T1 106 0 4)) ∨ (nm_ T1 T2 c h a d ∧ T2 102 (T1 106 0 4) 2 = u ∧ T2 102 (T1 106 0 4) 6 = -1 ∧ T2 102 (T1 106 0 4) 7 = -1)) : AP9_ T T2 c (fa9_ e u d h a l) := by
  rcases hx with ⟨rfl, hx⟩ | ⟨⟨⟨n1, n2, n3, n4⟩, n5, n6, n7, ⟨m0, m1, m3, m4, m5, m10⟩, n8⟩, m2, m6, m7⟩
  · rw [fa9_n (by omega)]
    exact g
  · rw [fa9_y (by omega)]
    refine ap9_t g ⟨by show _ = T1 106 0 4 + ((1 : Nat) : Int); omega, fun k q hq => ?_⟩ h0 (fun i j hi => n5 102 i j (Or.inl rfl) (by omega)) h4
    cases k with
    | zero =>
      cases hq
      rw [show T1 106 0 4 + ((0 : Nat) : Int) = T1 106 0 4 by omega]
      exact ⟨m0, m2, m3, m4, m5, m6, m7, m10⟩
    | succ k => cases hq
theorem fx9_o {T1 T2 : Zt} {c u h a d : Int} (hx : (T2 = T1 ∧ (T1 100 c 5 ≤ h ∨ T1 100 c 5 ≤ a ∨ 400 ≤ T1 106 0 4)) ∨ (nm_ T1 T2 c h a d ∧ T2 102 (T1 106 0 4) 2 = u ∧ T2 102 (T1 106 0 4) 6 = -1 ∧ T2 102 (T1 106 0 4) 7 = -1)) (i j : Int) (hi : i < T1 106 0 4) : T2 102 i j = T1 102 i j := by
  rcases hx with ⟨rfl, -⟩ | ⟨⟨-, n5, -⟩, -⟩
  · rfl
  · exact n5 102 i j (Or.inl rfl) (by omega)
theorem pe9_1 {e L : Int} (he : 2 ≤ e ∧ e ≤ 12) (hL : L = e + e % 2 - 1) : L * (L / 2 + 1 - e % 2) = e * (e - 1) / 2 := by
  subst hL
  rcases (by omega : e = 2 ∨ e = 3 ∨ e = 4 ∨ e = 5 ∨ e = 6 ∨ e = 7 ∨ e = 8 ∨ e = 9 ∨ e = 10 ∨ e = 11 ∨ e = 12) with rfl | rfl | rfl | rfl | rfl | rfl | rfl | rfl | rfl | rfl | rfl <;> rfl
theorem pe9_r {e L : Int} (he : 2 ≤ e ∧ e ≤ 12) (hL : L = e + e % 2 - 1) (r u rd dt : Int) (l : List Fx9_) : (rl9_ e L r u rd dt ((L + 1) / 2).toNat l).length ≤ l.length + (L / 2 + 1 - e % 2).toNat := by
  have h := rl9_l (e := e) (L := L) (r := r) (u := u) (rd := rd) (dt := dt) (q := (e % 2).toNat) (l := l) (by omega) (L / 2).toNat
  rw [show (L / 2).toNat + 1 = ((L + 1) / 2).toNat by omega] at h
  omega
/-- there is room for one round more -/
theorem rm9_b {e L f E M lg l q : Int} (he : 2 ≤ e ∧ e ≤ 12) (hL : L = e + e % 2 - 1) (hfx : M + e * (e - 1) / 2 * lg ≤ 400) (hl : 0 ≤ l ∧ l < lg) (hq : 0 ≤ q ∧ q < L) : M + ((ll9_ e L l f E q.toNat (pl9_ e L f E l.toNat)).length : Int) + (L / 2 + 1 - e % 2) ≤ 400 := by
  have a := ll9_l (g := l) (f := f) (E := E) (l := pl9_ e L f E l.toNat) (pe9_r he hL) q.toNat
  have b := pl9_l (f := f) (E := E) (pe9_r he hL) l.toNat
  obtain ⟨P, hP⟩ : ∃ P : Int, P = L / 2 + 1 - e % 2 := ⟨_, rfl⟩
  have hP0 : 0 ≤ P := by omega
  rw [← hP] at a b ⊢
  have a2 : ((ll9_ e L l f E q.toNat (pl9_ e L f E l.toNat)).length : Int) ≤ ((pl9_ e L f E l.toNat).length : Int) + q * P := by
    have z := Int.ofNat_le.mpr a
    rw [Int.natCast_add, Int.natCast_mul, show ((q.toNat : Nat) : Int) = q by omega, show ((P.toNat : Nat) : Int) = P by omega] at z
    exact z
  have b2 : ((pl9_ e L f E l.toNat).length : Int) ≤ l * (L * P) := by
    have z := Int.ofNat_le.mpr b
    rw [Int.natCast_mul, Int.natCast_mul, show ((l.toNat : Nat) : Int) = l by omega, show ((L.toNat : Nat) : Int) = L by omega, show ((P.toNat : Nat) : Int) = P by omega] at z
    exact z
  have e1 : L * P = e * (e - 1) / 2 := by rw [hP]; exact pe9_1 he hL
  have c1 : (q + 1) * P ≤ L * P := Int.mul_le_mul_of_nonneg_right (by omega) hP0
  rw [Int.add_mul, Int.one_mul] at c1
  have c2 : 0 ≤ L * P := Int.mul_nonneg (by omega) hP0
  have c3 : (l + 1) * (L * P) ≤ lg * (L * P) := Int.mul_le_mul_of_nonneg_right (by omega) c2
  rw [Int.add_mul, Int.one_mul] at c3
  rw [← e1, Int.mul_comm (L * P) lg] at hfx
  omega
theorem ar9_k {T T1 T2 : Zt} {c : Int} {l : List Fx9_} (h : AR9_ T T1 c l) (e : ∀ (k : Nat) (j : Int), k ≠ 211 → T2 k 0 j = T1 k 0 j) : AR9_ T T2 c l := ⟨(e 111 29 (by decide)).trans h.1, fun k q hq => by
  have z := h.2 k q hq
  rw [e 230 _ (by decide), e 231 _ (by decide), e 232 _ (by decide), e 233 _ (by decide), e 234 _ (by decide), e 235 _ (by decide), e 238 _ (by decide), e 253 _ (by decide), e 255 _ (by decide)]
  exact z⟩
-- schedule and plan of the house
/-- what plan does to the house -/
def PH9_ (T T' : Zt) (c b x : Int) : Prop := (T' = T ∧ ((x = -2 ∧ ¬ (0 ≤ c ∧ c < T 106 0 2)) ∨ ((0 ≤ c ∧ c < T 106 0 2) ∧ x = -3 ∧ ¬ ((0 ≤ b ∧ b ≤ 999) ∧ T 108 0 13 ≤ b)) ∨ ((0 ≤ c ∧ c < T 106 0 2) ∧ ((0 ≤ b ∧ b ≤ 999) ∧ T 108 0 13 ≤ b) ∧ x = -4 ∧ (T 100 c 6 ≠ 0 ∨ T 100 c 5 < 2 ∨ 999 < b + (((T 100 c 5 + an_ (T 100 c 5) 1 - 1) * T 401 c 6 - 1) * T 401 c 7))) ∨ ((0 ≤ c ∧ c < T 106 0 2) ∧ ((0 ≤ b ∧ b ≤ 999) ∧ T 108 0 13 ≤ b) ∧ T 100 c 6 = 0 ∧ 2 ≤ T 100 c 5 ∧ b + (((T 100 c 5 + an_ (T 100 c 5) 1 - 1) * T 401 c 6 - 1) * T 401 c 7) ≤ 999 ∧ x = -5 ∧ 400 < T 106 0 4 + T 100 c 5 * (T 100 c 5 - 1) / 2 * T 401 c 6))) ∨ ((0 ≤ c ∧ c < T 106 0 2) ∧ ((0 ≤ b ∧ b ≤ 999) ∧ T 108 0 13 ≤ b) ∧ T 100 c 6 = 0 ∧ 2 ≤ T 100 c 5 ∧ b + (((T 100 c 5 + an_ (T 100 c 5) 1 - 1) * T 401 c 6 - 1) * T 401 c 7) ≤ 999 ∧ T 106 0 4 + T 100 c 5 * (T 100 c 5 - 1) / 2 * T 401 c 6 ≤ 400 ∧ x = T 106 0 4 ∧ SJ_ T T' c ∧ AP9_ T T' c (pl9_ (T 100 c 5) (T 100 c 5 + an_ (T 100 c 5) 1 - 1) b (T 401 c 7) (T 401 c 6).toNat))
theorem bk_X0_fixtureCount_e_0 : ck_ fX0 (some .int) cX0_fixtureCount 0 [.aload 0, .tableswitch 0 0 5 #[], .aload 0, .tableswitch 0 0 5 #[], .iconst 1, .isub, .imul, .iconst 2, .idiv, .aload 0, .tableswitch 0 0 1 #[], .iconst 6, .iaload, .imul, .ireturn] 22 = true := qck_r (nn_ _) (by decide +kernel)
theorem bs_X0_fixtureCount_e_0 {P : Zt → Option Zv → Prop} (K : Int → Zl → List Zv → Zt → Prop) : sx_ K P [.aload 0, .tableswitch 0 0 5 #[], .aload 0, .tableswitch 0 0 5 #[], .iconst 1, .isub, .imul, .iconst 2, .idiv, .aload 0, .tableswitch 0 0 1 #[], .iconst 6, .iaload, .imul, .ireturn] 22 = x_aload 0 (x_g0 100 5 0 12 (x_aload 0 (x_g0 100 5 0 12 (x_iconst 1 (x_isub (x_imul (x_iconst 2 (x_idiv (x_aload 0 (x_g2 100 401 (x_iconst 6 (x_iaload (x_imul (x_ireturn P)))))))))))))) := ((xe_aload 0).trans (congrArg (x_aload 0) ((xe_g0 (kk := 100) rfl tl_0_5).trans (congrArg (x_g0 100 5 0 12) ((xe_aload 0).trans (congrArg (x_aload 0) ((xe_g0 (kk := 100) rfl tl_0_5).trans (congrArg (x_g0 100 5 0 12) ((xe_iconst 1).trans (congrArg (x_iconst 1) ((xe_isub).trans (congrArg (x_isub) ((xe_imul).trans (congrArg (x_imul) ((xe_iconst 2).trans (congrArg (x_iconst 2) ((xe_idiv).trans (congrArg (x_idiv) ((xe_aload 0).trans (congrArg (x_aload 0) ((xe_g2 (kk := 100) rfl tl_0_1).trans (congrArg (x_g2 100 401) ((xe_iconst 6).trans (congrArg (x_iconst 6) ((xe_iaload).trans (congrArg (x_iaload) ((xe_imul).trans (congrArg (x_imul) (xe_ireturn)))))))))))))))))))))))))))))
abbrev po_X0_fixtureCount_e (T : Zt) (c : Int) : Zt → Option Zv → Prop := fun T' r => T = T' ∧ ∃ x : Int, r = some (vI x) ∧ (x = T 100 c 5 * (T 100 c 5 - 1) / 2 * T 401 c 6 ∧ 0 ≤ x ∧ x ≤ 264)
set_option maxHeartbeats 4000000 in
theorem ct_X0_fixtureCount_e {T : Zt} {c : Int} (hl : 0 ≤ T 401 c 6 ∧ T 401 c 6 ≤ 4) (he : 2 ≤ T 100 c 5) : Ct_ yX0_fixtureCount zX0_fixtureCount T [vR 100 c] (po_X0_fixtureCount_e T c) := by
  refine ct_of pn_0 rfl rfl (Nat.le_of_ble_eq_true rfl) (fun hT hav => ?_)
  have hz : zX0_fixtureCount.2.2.2.1 = some .boolean → ∀ (T' : Zt) (x : Int), po_X0_fixtureCount_e T c T' (some (vI x)) → 0 ≤ x ∧ x ≤ 1 := fun h => by cases h
  have hb5 : 0 ≤ T 100 c 5 ∧ T 100 c 5 ≤ 12 := bd_f hT 100 5 tl_0_5 c
  have hm1 := mlb (a := T 100 c 5) (b := T 100 c 5 - 1) (A := 12) (B := 11) (by omega) (by omega)
  have hm2 := mlb (a := T 100 c 5 * (T 100 c 5 - 1) / 2) (b := T 401 c 6) (A := 66) (B := 4) (by omega) (by omega)
  show J_ zX0_fixtureCount T (po_X0_fixtureCount_e T c) 0 0 0 [some (vR 100 c)] [] T
  refine j_blx (F := fX0) tb_X0 (nn_ _) bk_X0_fixtureCount_e_0 bs_X0_fixtureCount_e_0 hz (fun K hK => ?_)
  intro b1 b1b
  intro b2 b2b
  refine rg_i (by omega) ?_
  refine rg_i (by omega) ?_
  refine dv_i (by omega) ?_
  refine ix_i (by omega) ?_
  intro b3 b3b
  refine rg_i (by omega) ?_
  refine (show po_X0_fixtureCount_e T c T (some (vI ((((T 100 c 5) * ((T 100 c 5) - 1)) / 2) * (T 401 c 6)))) from ?_)
  exact ⟨rfl, _, rfl, by omega⟩
