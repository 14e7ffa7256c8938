-- entries, fixtures, deductions: alike on both sides
def EN1_ (T : Zt) (c : Int) : Prop := T 100 c 5 = T 208 0 c ∧ T 100 c 6 = T 209 0 c ∧ T 100 c 7 = T 210 0 c ∧ T 100 c 8 = T 211 0 c ∧ (∀ j, 0 ≤ j → j < T 100 c 5 → T 403 c j = T 207 0 (12 * c + j)) ∧ ∀ b, 0 ≤ b → b < 12 → T 404 c b = -1 ∨ (0 ≤ T 404 c b ∧ T 404 c b < T 100 c 5 ∧ T 403 c (T 404 c b) = b)
def ENR_ (T : Zt) : Prop := (∀ c, 0 ≤ c → c < T 106 0 2 → EN1_ T c) ∧ ∀ c, T 106 0 2 ≤ c → c < 4 → T 208 0 c = 0 ∧ T 209 0 c = 0 ∧ T 210 0 c = 0 ∧ T 211 0 c = 0
def MAR_ (T : Zt) : Prop := T 106 0 4 = T 111 0 29 ∧ ∀ m, 0 ≤ m → m < T 106 0 4 → T 102 m 0 = T 230 0 m ∧ T 102 m 2 = T 231 0 m ∧ T 102 m 3 = T 232 0 m ∧ T 102 m 4 = T 233 0 m
def DER_ (T : Zt) : Prop := T 106 0 6 = T 111 0 24 ∧ ∀ i, 0 ≤ i → i < T 106 0 6 → T 527 0 i = T 225 0 i ∧ T 528 0 i = T 226 0 i ∧ T 529 0 i = T 227 0 i ∧ T 530 0 i = T 228 0 i
-- the house's sides of them stay
def ken_ (T T' : Zt) : Prop := (∀ c, T' 100 c 5 = T 100 c 5 ∧ T' 100 c 6 = T 100 c 6 ∧ T' 100 c 7 = T 100 c 7 ∧ T' 100 c 8 = T 100 c 8) ∧ (∀ c j, T' 403 c j = T 403 c j) ∧ ∀ c j, T' 404 c j = T 404 c j
def kem_ (T T' : Zt) : Prop := T' 106 0 4 = T 106 0 4 ∧ ∀ m, T' 102 m 0 = T 102 m 0 ∧ T' 102 m 2 = T 102 m 2 ∧ T' 102 m 3 = T 102 m 3 ∧ T' 102 m 4 = T 102 m 4
def ked_ (T T' : Zt) : Prop := T' 106 0 6 = T 106 0 6 ∧ (∀ j, T' 527 0 j = T 527 0 j) ∧ (∀ j, T' 528 0 j = T 528 0 j) ∧ (∀ j, T' 529 0 j = T 529 0 j) ∧ ∀ j, T' 530 0 j = T 530 0 j
-- the reference's
def krn_ (T T' : Zt) : Prop := (∀ j, T' 207 0 j = T 207 0 j) ∧ ∀ j, T' 208 0 j = T 208 0 j ∧ T' 209 0 j = T 209 0 j ∧ T' 210 0 j = T 210 0 j ∧ T' 211 0 j = T 211 0 j
def krp_ (T T' : Zt) : Prop := T' 111 0 29 = T 111 0 29 ∧ ∀ m, T' 230 0 m = T 230 0 m ∧ T' 231 0 m = T 231 0 m ∧ T' 232 0 m = T 232 0 m ∧ T' 233 0 m = T 233 0 m
def krd_ (T T' : Zt) : Prop := T' 111 0 24 = T 111 0 24 ∧ (∀ j, T' 225 0 j = T 225 0 j) ∧ (∀ j, T' 226 0 j = T 226 0 j) ∧ (∀ j, T' 227 0 j = T 227 0 j) ∧ ∀ j, T' 228 0 j = T 228 0 j
theorem en1_k {T T' : Zt} {c : Int} (h : EN1_ T c) (k : ken_ T T') (r : krn_ T T') : EN1_ T' c := by
  obtain ⟨h1, h2, h3, h4, h5, h6⟩ := h
  obtain ⟨k1, k2, k3⟩ := k
  obtain ⟨r1, r2⟩ := r
  obtain ⟨a1, a2, a3, a4⟩ := k1 c
  obtain ⟨b1, b2, b3, b4⟩ := r2 c
  refine ⟨by omega, by omega, by omega, by omega, fun j p q => ?_, fun b p q => ?_⟩
  · rw [k2, r1]
    exact h5 j p (by omega)
  · rw [k3, a1, k2]
    exact h6 b p q
theorem enr_k {T T' : Zt} (h : ENR_ T) (e : T' 106 0 2 = T 106 0 2) (k : ken_ T T') (r : krn_ T T') : ENR_ T' := by
  refine ⟨fun c a b => en1_k (h.1 c a (by omega)) k r, fun c a b => ?_⟩
  obtain ⟨b1, b2, b3, b4⟩ := r.2 c
  have z := h.2 c (by omega) b
  omega
theorem mar_k {T T' : Zt} (h : MAR_ T) (k : kem_ T T') (r : krp_ T T') : MAR_ T' := by
  obtain ⟨k1, k2⟩ := k
  obtain ⟨r1, r2⟩ := r
  refine ⟨by have := h.1; omega, fun m a b => ?_⟩
  have z := h.2 m a (by omega)
  have y := k2 m
  have x := r2 m
  omega
theorem der_k {T T' : Zt} (h : DER_ T) (k : ked_ T T') (r : krd_ T T') : DER_ T' := by
  obtain ⟨k0, k1, k2, k3, k4⟩ := k
  obtain ⟨r0, r1, r2, r3, r4⟩ := r
  refine ⟨by have := h.1; omega, fun i a b => ?_⟩
  rw [k1, k2, k3, k4, r1, r2, r3, r4]
  exact h.2 i a (by omega)
/-- a club has a seat just when it has entered -/
theorem he9_i {T : Zt} {c b : Int} (h : EN1_ T c) (hk : ∀ j : Int, 0 ≤ j → j < T 100 c 5 → T 404 c (T 403 c j) = j) (hb : 0 ≤ b ∧ b < 12) : T 404 c b ≠ -1 ↔ HE_ T c b := by
  obtain ⟨h1, h2, h3, h4, h5, h6⟩ := h
  constructor
  · intro g
    rcases h6 b hb.1 hb.2 with z | ⟨z1, z2, z3⟩
    · exact absurd z g
    · exact ⟨T 404 c b, z1, by omega, by rw [← h5 _ z1 z2]; exact z3⟩
  · intro g
    obtain ⟨j, a, d, e⟩ := g
    have z := hk j a (by omega)
    rw [h5 j a (by omega), e] at z
    omega
/-- enter on both sides -/
theorem enr_e {T T1 T2 : Zt} {c b x1 x2 : Int} (h : ENR_ T) (hk : KE_ T) (hn : T 106 0 2 = T 111 0 6) (hc : T 108 0 2 = T 111 0 12) (hc12 : T 108 0 2 ≤ 12) (hm : 0 ≤ T 106 0 2 ∧ T 106 0 2 ≤ 4) (ho : T1 106 0 2 = T 106 0 2 ∧ T1 111 0 6 = T 111 0 6 ∧ T1 111 0 12 = T 111 0 12 ∧ ∀ d, T1 100 d 6 = T 100 d 6 ∧ T1 100 d 7 = T 100 d 7 ∧ T1 100 d 8 = T 100 d 8) (d1 : EH9_ T T1 c b x1) (r : krn_ T T1) (hp : T2 106 0 2 = T1 106 0 2 ∧ ∀ j, T2 209 0 j = T1 209 0 j ∧ T2 210 0 j = T1 210 0 j ∧ T2 211 0 j = T1 211 0 j) (d2 : ER9_ T1 T2 c b x2) (k : ken_ T1 T2) (hb5 : ∀ d, 0 ≤ T 100 d 5 ∧ T 100 d 5 ≤ 12) : x1 = x2 ∧ ENR_ T2 := by
  obtain ⟨o1, o2, o3, o4⟩ := ho
  have hHE : ∀ c, 0 ≤ c → c < T 106 0 2 → 0 ≤ b → b < T 108 0 2 → (T 404 c b ≠ -1 ↔ HE_ T1 c b) := fun c p q s t => by
    have e : HE_ T1 c b ↔ HE_ T c b := by
      unfold HE_
      rw [(r.2 c).1]
      constructor
      · rintro ⟨j, z1, z2, z3⟩
        exact ⟨j, z1, z2, by rw [← r.1]; exact z3⟩
      · rintro ⟨j, z1, z2, z3⟩
        exact ⟨j, z1, z2, by rw [r.1]; exact z3⟩
    rw [e]
    exact he9_i (h.1 c p q) (hk c p q) ⟨s, by omega⟩
  rcases d1 with ⟨rfl, a⟩ | ⟨⟨a0, a00⟩, a1, a2, a11, a3, a4⟩
  · rcases d2 with ⟨rfl, f⟩ | ⟨⟨f0, f00⟩, f1, f2, f3, f4⟩
    · refine ⟨?_, h⟩
      rcases a with ⟨a1, a2⟩ | ⟨a0, a1, a2⟩
      · rcases f with ⟨f1, f2⟩ | ⟨f0, f1, f2⟩
        · omega
        · exact absurd (by omega) a2
      · rcases f with ⟨f1, f2⟩ | ⟨f0, f1, f2⟩
        · exact absurd (by omega) f2
        · omega
    · exfalso
      rcases a with ⟨a1, a2⟩ | ⟨a0, a1, a2⟩
      · exact a2 (by omega)
      · have z := (h.1 c a0.1.1 a0.1.2).2.1
        rcases a2 with a2 | a2
        · omega
        · exact f2 ((hHE c a0.1.1 a0.1.2 a0.2.1 a0.2.2).mp a2)
  · have z := h.1 c a0.1 a0.2
    rcases d2 with ⟨e2, f⟩ | ⟨⟨f0, f00⟩, f1, f2, f3, f4⟩
    · exfalso
      rcases f with ⟨f1, f2⟩ | ⟨f0, f1, f2⟩
      · exact f2 (by omega)
      · rcases f2 with f2 | f2
        · have y := (r.2 c).2.1
          have y2 := z.2.1
          omega
        · exact absurd a2 ((hHE c a0.1 a0.2 a00.1 a00.2).mpr f2)
    · obtain ⟨g1, g2, g3, g4, g5, g6⟩ := a4
      obtain ⟨q1, q2, q3, q4⟩ := f4
      obtain ⟨z1, z2, z3, z4, z5, z6⟩ := z
      have r8 := (r.2 c).1
      have e5 : T1 208 0 c = T 100 c 5 := by omega
      refine ⟨by omega, fun d p q => ?_, fun d p q => ?_⟩
      · have kd := k.1 d
        have rd := r.2 d
        have od := o4 d
        have pd := hp.2 d
        have zd := h.1 d p (by omega)
        by_cases y : d = c
        · subst y
          refine ⟨by omega, by omega, by omega, by omega, fun j s t => ?_, fun b2 s t => ?_⟩
          · rw [k.2.1]
            by_cases w : j = T 100 d 5
            · rw [w, g5, ← e5, q4]
            · rw [g3 d j (fun v => w v.2), q3 _ (by omega), r.1]
              exact z5 j s (by omega)
          · rw [k.2.2, kd.1, g1]
            by_cases w : b2 = b
            · rw [w, g6]
              exact Or.inr ⟨(hb5 d).1, by omega, by rw [k.2.1]; exact g5⟩
            · rw [g4 d b2 (fun v => w v.2), k.2.1]
              rcases z6 b2 s t with v | ⟨v1, v2, v3⟩
              · exact Or.inl v
              · exact Or.inr ⟨v1, by omega, by rw [g3 d _ (fun v => by omega)]; exact v3⟩
        · obtain ⟨x1, x2, x3, x4, x5, x6⟩ := zd
          have g2d := g2 d y
          have q2d := q2 d y
          have b5d := hb5 d
          have b5c := hb5 c
          refine ⟨by omega, by omega, by omega, by omega, fun j s t => ?_, fun b2 s t => ?_⟩
          · rw [k.2.1, g3 d j (fun v => y v.1), q3 _ (by omega), r.1]
            exact x5 j s (by omega)
          · rw [k.2.2, kd.1, g2d, g4 d b2 (fun v => y v.1), k.2.1]
            rcases x6 b2 s t with v | ⟨v1, v2, v3⟩
            · exact Or.inl v
            · exact Or.inr ⟨v1, v2, by rw [g3 d _ (fun v => y v.1)]; exact v3⟩
      · have rd := r.2 d
        have pd := hp.2 d
        have zd := h.2 d (by omega) q
        have q2d := q2 d (by omega)
        omega
/-- deduct on both sides -/
theorem der_d {T T1 T2 : Zt} {c b p x1 x2 : Int} (h : DER_ T) (hn : ENR_ T) (hk : KE_ T) (hcc : T 106 0 2 = T 111 0 6) (hc : T 108 0 2 = T 111 0 12) (hd : T 108 0 13 = T 111 0 3) (hc12 : T 108 0 2 ≤ 12) (h6 : 0 ≤ T 106 0 6 ∧ T 106 0 6 ≤ 50) (ho : T1 111 0 6 = T 111 0 6 ∧ T1 111 0 12 = T 111 0 12 ∧ T1 111 0 3 = T 111 0 3) (d1 : DH9_ T T1 c b p x1) (r : krn_ T T1) (rd : krd_ T T1) (d2 : DR9_ T1 T2 c b p x2) (k : ked_ T1 T2) : x1 = x2 ∧ DER_ T2 := by
  obtain ⟨o1, o2, o3⟩ := ho
  obtain ⟨h1, h2⟩ := h
  obtain ⟨rd0, rd1, rd2, rd3, rd4⟩ := rd
  have hHE : ∀ c, 0 ≤ c → c < T 106 0 2 → 0 ≤ b → b < T 108 0 2 → (T 404 c b ≠ -1 ↔ HE_ T1 c b) := fun c p q s t => by
    have e : HE_ T1 c b ↔ HE_ T c b := by
      unfold HE_
      rw [(r.2 c).1]
      constructor
      · rintro ⟨j, z1, z2, z3⟩
        exact ⟨j, z1, z2, by rw [← r.1]; exact z3⟩
      · rintro ⟨j, z1, z2, z3⟩
        exact ⟨j, z1, z2, by rw [r.1]; exact z3⟩
    rw [e]
    exact he9_i (hn.1 c p q) (hk c p q) ⟨s, by omega⟩
  rcases d1 with ⟨rfl, a⟩ | ⟨⟨a0, a00⟩, a1, a2, a3, a4, a5, a6, a7, a8, a9⟩
  · rcases d2 with ⟨rfl, f⟩ | ⟨⟨f0, f00⟩, f1, f2, f3, f4, f5, f6⟩
    · refine ⟨?_, h1, h2⟩
      rcases a with ⟨a1, a2⟩ | ⟨a0, ⟨a1, a2⟩ | ⟨a1, ⟨a2, a3⟩ | ⟨a2, a3, a4⟩⟩⟩
      · rcases f with ⟨f1, f2⟩ | ⟨f0, f1⟩
        · omega
        · exact absurd (by omega) a2
      · rcases f with ⟨f1, f2⟩ | ⟨f0, ⟨f1, f2⟩ | ⟨f1, f2⟩⟩
        · exact absurd (by omega) f2
        · omega
        · exact absurd f1 a2
      · rcases f with ⟨f1, f2⟩ | ⟨f0, ⟨f1, f2⟩ | ⟨f1, ⟨f2, f3⟩ | ⟨f2, f3, f4⟩⟩⟩
        · exact absurd (by omega) f2
        · exact absurd a1 f2
        · omega
        · exact absurd a3 ((hHE c a0.1.1 a0.1.2 a0.2.1 a0.2.2).mpr f2)
      · rcases f with ⟨f1, f2⟩ | ⟨f0, ⟨f1, f2⟩ | ⟨f1, ⟨f2, f3⟩ | ⟨f2, f3, f4⟩⟩⟩
        · exact absurd (by omega) f2
        · exact absurd a1 f2
        · exact absurd ((hHE c a0.1.1 a0.1.2 a0.2.1 a0.2.2).mp a2) f3
        · omega
    · exfalso
      rcases a with ⟨a1, a2⟩ | ⟨a0, ⟨a1, a2⟩ | ⟨a1, ⟨a2, a3⟩ | ⟨a2, a3, a4⟩⟩⟩
      · exact a2 (by omega)
      · exact a2 f1
      · exact absurd a3 ((hHE c a0.1.1 a0.1.2 a0.2.1 a0.2.2).mpr f2)
      · omega
  · have g := (hHE c a0.1 a0.2 a00.1 a00.2).mp a2
    rcases d2 with ⟨e2, f⟩ | ⟨⟨f0, f00⟩, f1, f2, f3, f4, f5, f6, f7, f8, f9⟩
    · exfalso
      rcases f with ⟨f1, f2⟩ | ⟨f0, ⟨f1, f2⟩ | ⟨f1, ⟨f2, f3⟩ | ⟨f2, f3, f4⟩⟩⟩
      · exact f2 (by omega)
      · exact f2 a1
      · exact f3 g
      · omega
    · obtain ⟨k0, k1, k2, k3, k4⟩ := k
      have e24 : T1 111 0 24 = T 106 0 6 := by omega
      rw [e24] at f6 f7 f8 f9
      refine ⟨by omega, by omega, fun i s t => ?_⟩
      rw [k1, k2, k3, k4]
      by_cases w : i = T 106 0 6
      · rw [w, a6.1, a7.1, a8.1, a9.1, f6.1, f7.1, f8.1, f9.1]
        exact ⟨rfl, rfl, rfl, by omega⟩
      · rw [a6.2 i w, a7.2 i w, a8.2 i w, a9.2 i w, f6.2 i w, f7.2 i w, f8.2 i w, f9.2 i w, rd1, rd2, rd3, rd4]
        exact h2 i s (by omega)
-- plan on both sides
def FO9_ (e : Int) (q : Fx9_) : Prop := (0 ≤ q.2.1 ∧ q.2.1 < e) ∧ 0 ≤ q.2.2.1 ∧ q.2.2.1 < e
theorem pp9_p {L r i : Int} (hL : 0 < L) (hr : 0 ≤ r) : 0 ≤ pa9_ L r i ∧ 0 ≤ pb9_ L r i := by
  by_cases z : i = 0
  · rw [z, pa9_0, pb9_0]
    omega
  · rw [pa9_i z, pb9_i z]
    exact ⟨Int.emod_nonneg _ (by omega), Int.emod_nonneg _ (by omega)⟩
theorem hm9_p {L r u i : Int} (hL : 0 < L) (hr : 0 ≤ r) : 0 ≤ hm9_ L r u i ∧ 0 ≤ aw9_ L r u i := by
  have h := pp9_p (i := i) hL hr
  by_cases z : pq9_ r i = u
  · rw [(hm9_b z).1, (hm9_b z).2]
    exact ⟨h.2, h.1⟩
  · rw [(hm9_a z).1, (hm9_a z).2]
    exact h
theorem rl9_m {e L r u rd dt : Int} {l : List Fx9_} (hL : 0 < L) (hr : 0 ≤ r) (h : ∀ q ∈ l, FO9_ e q) : ∀ i : Nat, ∀ q ∈ rl9_ e L r u rd dt i l, FO9_ e q
  | 0 => h
  | i + 1 => by
      have g := rl9_m (u := u) (rd := rd) (dt := dt) hL hr h i
      have p := hm9_p (u := u) (i := i) hL hr
      show ∀ q ∈ fa9_ e rd dt (hm9_ L r u i) (aw9_ L r u i) (rl9_ e L r u rd dt i l), FO9_ e q
      by_cases z : hm9_ L r u i < e ∧ aw9_ L r u i < e
      · rw [fa9_y z]
        intro q hq
        rcases List.mem_append.mp hq with hq | hq
        · exact g q hq
        · rw [List.mem_singleton.mp hq]
          exact ⟨⟨p.1, z.1⟩, p.2, z.2⟩
      · rw [fa9_n z]
        exact g
theorem ll9_m {e L g f E : Int} {l : List Fx9_} (hL : 0 < L) (h : ∀ q ∈ l, FO9_ e q) : ∀ r : Nat, ∀ q ∈ ll9_ e L g f E r l, FO9_ e q
  | 0 => h
  | r + 1 => rl9_m hL (Int.natCast_nonneg r) (ll9_m hL h r) _
theorem pl9_m {e L f E : Int} (hL : 0 < L) : ∀ g : Nat, ∀ q ∈ pl9_ e L f E g, FO9_ e q
  | 0 => fun q hq => by cases hq
  | g + 1 => ll9_m hL (pl9_m hL g) _
/-- what plan leaves of the reference's rows -/
def PQ9_ (T T' : Zt) (c : Int) : Prop := am2_ T T' c ∧ T' 210 0 c = T 111 0 29 ∧ T' 211 0 c = T' 111 0 29 - T 111 0 29 ∧ (∀ z, z ≠ c → T' 210 0 z = T 210 0 z ∧ T' 211 0 z = T 211 0 z ∧ T' 209 0 z = T 209 0 z) ∧ (∀ j, T' 207 0 j = T 207 0 j) ∧ ∀ j, T' 208 0 j = T 208 0 j
theorem enr_p {T T1 T2 : Zt} {c f x1 x2 : Int} (h : ENR_ T) (hm : MAR_ T) (ht : TXR_ T) (hd : T 108 0 13 = T 111 0 3) (hd0 : 0 ≤ T 108 0 13) (h0 : 0 ≤ T 106 0 4) (hN : T 106 0 2 ≤ 4) (hb5 : ∀ d, 0 ≤ T 100 d 5 ∧ T 100 d 5 ≤ 12) (d1 : PH9_ T T1 c f x1) (r : krn_ T T1) (rp : krp_ T T1) (rt : ktr_ T T1) (r3 : T1 111 0 3 = T 111 0 3) (hi : T1 106 0 2 = T 106 0 2) (d2 : PR9_ T1 T2 c f x2) (s2 : (x2 < 0 ∧ T2 = T1) ∨ PQ9_ T1 T2 c) (k : ken_ T1 T2) (km : kem_ T1 T2) (hi2 : T2 106 0 2 = T1 106 0 2) : x1 = x2 ∧ ENR_ T2 ∧ MAR_ T2 := by
  obtain ⟨t1, t2, t3, t4, t5⟩ := ht
  by_cases hc : 0 ≤ c ∧ c < T 106 0 2
  · obtain ⟨z1, z2, z3, z4, z5, z6⟩ := h.1 c hc.1 hc.2
    have tc := (t5 c hc.1 hc.2).1
    have q6 := tc 6 (by omega) (by omega)
    have q7 := tc 7 (by omega) (by omega)
    have rc := r.2 c
    have e8 : T1 208 0 c = T 100 c 5 := by omega
    have e9 : T1 209 0 c = T 100 c 6 := by omega
    have e6 : T1 205 0 (23 * c + 6) = T 401 c 6 := by rw [rt.2.2.2.2]; omega
    have e7 : T1 205 0 (23 * c + 7) = T 401 c 7 := by rw [rt.2.2.2.2]; omega
    have am := an9_m (x := T 100 c 5) (by have := hb5 c; omega)
    have e29 : T1 111 0 29 = T 106 0 4 := by have := rp.1; have := hm.1; omega
    unfold PR9_ at d2
    rw [e8, e9, e6, e7, e29, r3, ← hd, Int.mul_comm (T 401 c 6) (T 100 c 5 + T 100 c 5 % 2 - 1), Int.mul_comm (T 401 c 6) (T 100 c 5 * (T 100 c 5 - 1) / 2)] at d2
    unfold PH9_ at d1
    rw [am] at d1
    have hc2 : 0 ≤ c ∧ c < T1 111 0 6 := by have := rt.2.2.1; omega
    have both : x1 = x2 ∧ ((T1 = T ∧ T2 = T1) ∨ (SJ_ T T1 c ∧ PQ9_ T1 T2 c ∧ T2 209 0 c = 1 ∧ 2 ≤ T 100 c 5 ∧ AP9_ T T1 c (pl9_ (T 100 c 5) (T 100 c 5 + T 100 c 5 % 2 - 1) f (T 401 c 7) (T 401 c 6).toNat) ∧ AR9_ T1 T2 c (pl9_ (T 100 c 5) (T 100 c 5 + T 100 c 5 % 2 - 1) f (T 401 c 7) (T 401 c 6).toNat))) := by
      rcases d1 with ⟨a0, a⟩ | ⟨a1, a2, a3, a4, a5, a6, a7, a8, a9⟩
      · rcases d2 with ⟨b0, b⟩ | ⟨b1, b2, b3, b4, b5, b6, b7, b8, b9⟩
        · exact ⟨by omega, Or.inl ⟨a0, b0⟩⟩
        · exfalso
          omega
      · rcases d2 with ⟨b0, b⟩ | ⟨b1, b2, b3, b4, b5, b6, b7, b8, b9⟩
        · exfalso
          omega
        · exact ⟨by omega, Or.inr ⟨a8, s2.resolve_left (fun z => by omega), b8, by omega, a9, b9⟩⟩
    obtain ⟨hx, g⟩ := both
    refine ⟨hx, ?_⟩
    rcases g with ⟨rfl, rfl⟩ | ⟨g1, g2, g3, g4, g5, g6⟩
    · exact ⟨h, hm⟩
    · obtain ⟨⟨-, -, -⟩, fj, od, -, ⟨s6, s7, s8⟩, oc⟩ := g1
      obtain ⟨am2, p1, p2, p3, p4, p5⟩ := g2
      refine ⟨⟨fun d p q => ?_, fun d p q => ?_⟩, ?_, fun m p q => ?_⟩
      · have kd := k.1 d
        have rd := r.2 d
        have p5d := p5 d
        by_cases y : d = c
        · subst y
          have fj5 : T1 100 d 5 = T 100 d 5 := fj 100 d 5 rfl
          have l1 := g5.1
          have l2 := g6.1
          refine ⟨by omega, by omega, by omega, by omega, fun j s t => ?_, fun b s t => ?_⟩
          · rw [k.2.1, fj 403 d j rfl, p4, r.1]
            exact z5 j s (by omega)
          · rw [k.2.2, kd.1, fj5, k.2.1, fj 404 d b rfl, fj 403 d _ rfl]
            exact z6 b s t
        · obtain ⟨x1, x2, x3, x4, x5, x6⟩ := h.1 d p (by omega)
          have o5 := oc d 5 y
          have o6 := oc d 6 y
          have o7 := oc d 7 y
          have o8 := oc d 8 y
          have pd := p3 d y
          refine ⟨by omega, by omega, by omega, by omega, fun j s t => ?_, fun b s t => ?_⟩
          · rw [k.2.1, fj 403 d j rfl, p4, r.1]
            exact x5 j s (by omega)
          · rw [k.2.2, kd.1, o5, k.2.1, fj 404 d b rfl, fj 403 d _ rfl]
            exact x6 b s t
      · have rd := r.2 d
        have pd := p3 d (by omega)
        have p5d := p5 d
        have zd := h.2 d (by omega) q
        omega
      · have l1 := g5.1
        have l2 := g6.1
        have y := km.1
        omega
      · have l1 := g5.1
        have l2 := g6.1
        have y := km.1
        have km2 := km.2 m
        by_cases w : m < T 106 0 4
        · have a := am2.2.1 m (by omega)
          have b := rp.2 m
          have o0 := od m 0 w
          have o2 := od m 2 w
          have o3 := od m 3 w
          have o4 := od m 4 w
          have x := hm.2 m p w
          omega
        · have hk : (m - T 106 0 4).toNat < (pl9_ (T 100 c 5) (T 100 c 5 + T 100 c 5 % 2 - 1) f (T 401 c 7) (T 401 c 6).toNat).length := by omega
          have hq := List.getElem?_eq_getElem hk
          have a := g5.2 _ _ hq
          have b := g6.2 _ _ hq
          have fo := pl9_m (e := T 100 c 5) (f := f) (E := T 401 c 7) (show 0 < T 100 c 5 + T 100 c 5 % 2 - 1 by omega) _ _ (List.getElem_mem hk)
          rw [show T 106 0 4 + (((m - T 106 0 4).toNat : Nat) : Int) = m by omega] at a
          rw [e29, show T 106 0 4 + (((m - T 106 0 4).toNat : Nat) : Int) = m by omega, r.1, r.1, ← z5 _ fo.1.1 fo.1.2, ← z5 _ fo.2.1 fo.2.2] at b
          omega
  · have a : T1 = T ∧ x1 = -2 := by
      rcases d1 with ⟨a0, a⟩ | ⟨a1, _⟩
      · exact ⟨a0, by omega⟩
      · exact absurd a1 hc
    have b : T2 = T1 ∧ x2 = -2 := by
      have := rt.2.2.1
      rcases d2 with ⟨b0, b⟩ | ⟨b1, _⟩
      · exact ⟨b0, by omega⟩
      · exact absurd b1 (by omega)
    obtain ⟨rfl, a2⟩ := a
    obtain ⟨rfl, b2⟩ := b
    exact ⟨by omega, h, hm⟩
/-- a competition on both sides: its entries -/
theorem enr_c {T T1 T2 : Zt} (h : ENR_ T) (h0 : 0 ≤ T 106 0 2) (hq : (T1 106 0 2 = T 106 0 2 ∧ ken_ T T1) ∨ (nc_ T T1 ∧ ∀ j, 0 ≤ j → j < 12 → T1 404 (T 106 0 2) j = -1)) (r : krn_ T T1) (k : ken_ T1 T2) (r2 : krn_ T1 T2) (hi2 : T2 106 0 2 = T1 106 0 2) : ENR_ T2 := by
  refine enr_k (T := T1) ?_ hi2 k r2
  rcases hq with ⟨e, k1⟩ | ⟨⟨f, ⟨n1, n2⟩, ho, -, -, ⟨y5, y6, y7, y8⟩, -⟩, hs⟩
  · exact enr_k h e k1 r
  · refine ⟨fun c a b => ?_, fun c a b => ?_⟩
    · have rc := r.2 c
      by_cases z : c = T 106 0 2
      · subst z
        have z0 := h.2 _ (Int.le_refl _) n2
        refine ⟨by omega, by omega, by omega, by omega, fun j p q => by omega, fun d p q => Or.inl (hs d p q)⟩
      · obtain ⟨x1, x2, x3, x4, x5, x6⟩ := h.1 c a (by omega)
        have o5 := ho 100 c 5 (Or.inl rfl) z
        have o6 := ho 100 c 6 (Or.inl rfl) z
        have o7 := ho 100 c 7 (Or.inl rfl) z
        have o8 := ho 100 c 8 (Or.inl rfl) z
        have o3 : ∀ j, T1 403 c j = T 403 c j := fun j => ho 403 c j (Or.inr (Or.inr (Or.inr (Or.inl rfl)))) z
        have o4 : ∀ j, T1 404 c j = T 404 c j := fun j => ho 404 c j (Or.inr (Or.inr (Or.inr (Or.inr rfl)))) z
        refine ⟨by omega, by omega, by omega, by omega, fun j p q => ?_, fun d p q => ?_⟩
        · rw [o3, r.1]
          exact x5 j p (by omega)
        · rw [o4, o5, o3]
          exact x6 d p q
    · have rc := r.2 c
      have zc := h.2 c (by omega) b
      omega
def ENA_ (T : Zt) : Prop := ENR_ T ∧ MAR_ T ∧ DER_ T
section WEZ
variable {ws : List (Nat × List Int)} {T T' : Zt}
end WEZ
theorem ch9_s {T T' : Zt} {x : Int} (h : CH9_ T T' x) (n : nc_ T T') (j : Int) (a : 0 ≤ j) (b : j < 12) : T' 404 (T 106 0 2) j = -1 := by
  have n1 := n.2.1
  rcases h with ⟨-, -, -, -, h⟩ | ⟨-, -, ⟨h, -⟩ | ⟨-, -, -, -, h, -⟩⟩
  · omega
  · omega
  · exact h j a b
