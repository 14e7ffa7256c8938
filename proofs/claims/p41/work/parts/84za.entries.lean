-- entries, fixtures, deductions: alike on both sides
def EN1_ (T : Zt) (c : Int) : Prop := T 100 c 5 = T 208 0 c ∧ T 100 c 6 = T 209 0 c ∧ T 100 c 7 = T 210 0 c ∧ T 100 c 8 = T 211 0 c ∧ (∀ j, 0 ≤ j → j < T 100 c 5 → T 403 c j = T 207 0 (12 * c + j)) ∧ ∀ b, 0 ≤ b → b < 12 → T 404 c b = -1 ∨ (0 ≤ T 404 c b ∧ T 404 c b < T 100 c 5 ∧ T 403 c (T 404 c b) = b)
def ENR_ (T : Zt) : Prop := (∀ c, 0 ≤ c → c < T 106 0 2 → EN1_ T c) ∧ ∀ c, T 106 0 2 ≤ c → c < 4 → T 208 0 c = 0 ∧ T 209 0 c = 0 ∧ T 210 0 c = 0 ∧ T 211 0 c = 0
def MAR_ (T : Zt) : Prop := T 106 0 4 = T 111 0 29 ∧ ∀ m, 0 ≤ m → m < T 106 0 4 → T 102 m 0 = T 230 0 m ∧ T 102 m 2 = T 231 0 m ∧ T 102 m 3 = T 232 0 m ∧ T 102 m 4 = T 233 0 m
def DER_ (T : Zt) : Prop := T 106 0 6 = T 111 0 24 ∧ ∀ i, 0 ≤ i → i < T 106 0 6 → T 527 0 i = T 225 0 i ∧ T 528 0 i = T 226 0 i ∧ T 529 0 i = T 227 0 i ∧ T 530 0 i = T 228 0 i
-- the house's sides of them stay
def ken_ (T T' : Zt) : Prop := (∀ c, T' 100 c 5 = T 100 c 5 ∧ T' 100 c 6 = T 100 c 6 ∧ T' 100 c 7 = T 100 c 7 ∧ T' 100 c 8 = T 100 c 8) ∧ (∀ c j, T' 403 c j = T 403 c j) ∧ ∀ c j, T' 404 c j = T 404 c j
def kem_ (T T' : Zt) : Prop := T' 106 0 4 = T 106 0 4 ∧ ∀ m, T' 102 m 0 = T 102 m 0 ∧ T' 102 m 2 = T 102 m 2 ∧ T' 102 m 3 = T 102 m 3 ∧ T' 102 m 4 = T 102 m 4
def ked_ (T T' : Zt) : Prop := T' 106 0 6 = T 106 0 6 ∧ (∀ j, T' 527 0 j = T 527 0 j) ∧ (∀ j, T' 528 0 j = T 528 0 j) ∧ (∀ j, T' 529 0 j = T 529 0 j) ∧ ∀ j, T' 530 0 j = T 530 0 j
-- the reference's
def krn_ (T T' : Zt) : Prop := (∀ j, T' 207 0 j = T 207 0 j) ∧ ∀ j, T' 208 0 j = T 208 0 j ∧ T' 209 0 j = T 209 0 j ∧ T' 210 0 j = T 210 0 j ∧ T' 211 0 j = T 211 0 j
def krp_ (T T' : Zt) : Prop := T' 111 0 29 = T 111 0 29 ∧ ∀ m, T' 230 0 m = T 230 0 m ∧ T' 231 0 m = T 231 0 m ∧ T' 232 0 m = T 232 0 m ∧ T' 233 0 m = T 233 0 m
def krd_ (T T' : Zt) : Prop := T' 111 0 24 = T 111 0 24 ∧ (∀ j, T' 225 0 j = T 225 0 j) ∧ (∀ j, T' 226 0 j = T 226 0 j) ∧ (∀ j, T' 227 0 j = T 227 0 j) ∧ ∀ j, T' 228 0 j = T 228 0 j
theorem en1_k {T T' : Zt} {c : Int} (h : EN1_ T c) (k : ken_ T T') (r : krn_ T T') : EN1_ T' c := by
  obtain ⟨h1, h2, h3, h4, h5, h6⟩ := h
  obtain ⟨k1, k2, k3⟩ := k
  obtain ⟨r1, r2⟩ := r
  obtain ⟨a1, a2, a3, a4⟩ := k1 c
  obtain ⟨b1, b2, b3, b4⟩ := r2 c
  refine ⟨by omega, by omega, by omega, by omega, fun j p q => ?_, fun b p q => ?_⟩
  · rw [k2, r1]
    exact h5 j p (by omega)
  · rw [k3, a1, k2]
    exact h6 b p q
theorem enr_k {T T' : Zt} (h : ENR_ T) (e : T' 106 0 2 = T 106 0 2) (k : ken_ T T') (r : krn_ T T') : ENR_ T' := by
  refine ⟨fun c a b => en1_k (h.1 c a (by omega)) k r, fun c a b => ?_⟩
  obtain ⟨b1, b2, b3, b4⟩ := r.2 c
  have z := h.2 c (by omega) b
  omega
theorem mar_k {T T' : Zt} (h : MAR_ T) (k : kem_ T T') (r : krp_ T T') : MAR_ T' := by
  obtain ⟨k1, k2⟩ := k
  obtain ⟨r1, r2⟩ := r
  refine ⟨by have := h.1; omega, fun m a b => ?_⟩
  have z := h.2 m a (by omega)
  have y := k2 m
  have x := r2 m
  omega
theorem der_k {T T' : Zt} (h : DER_ T) (k : ked_ T T') (r : krd_ T T') : DER_ T' := by
  obtain ⟨k0, k1, k2, k3, k4⟩ := k
  obtain ⟨r0, r1, r2, r3, r4⟩ := r
  refine ⟨by have := h.1; omega, fun i a b => ?_⟩
  rw [k1, k2, k3, k4, r1, r2, r3, r4]
  exact h.2 i a (by omega)
/-- a club has a seat just when it has entered -/
theorem he9_i {T : Zt} {c b : Int} (h : EN1_ T c) (hk : ∀ j : Int, 0 ≤ j → j < T 100 c 5 → T 404 c (T 403 c j) = j) (hb : 0 ≤ b ∧ b < 12) : T 404 c b ≠ -1 ↔ HE_ T c b := by
  obtain ⟨h1, h2, h3, h4, h5, h6⟩ := h
  constructor
  · intro g
    rcases h6 b hb.1 hb.2 with z | ⟨z1, z2, z3⟩
    · exact absurd z g
    · exact ⟨T 404 c b, z1, by omega, by rw [← h5 _ z1 z2]; exact z3⟩
  · intro g
    obtain ⟨j, a, d, e⟩ := g
    have z := hk j a (by omega)
    rw [h5 j a (by omega), e] at z
    omega
/-- enter on both sides -/
theorem enr_e {T T1 T2 : Zt} {c b x1 x2 : Int} (h : ENR_ T) (hk : KE_ T) (hn : T 106 0 2 = T 111 0 6) (hc : T 108 0 2 = T 111 0 12) (hc12 : T 108 0 2 ≤ 12) (hm : 0 ≤ T 106 0 2 ∧ T 106 0 2 ≤ 4) (ho : T1 106 0 2 = T 106 0 2 ∧ T1 111 0 6 = T 111 0 6 ∧ T1 111 0 12 = T 111 0 12 ∧ ∀ d, T1 100 d 6 = T 100 d 6 ∧ T1 100 d 7 = T 100 d 7 ∧ T1 100 d 8 = T 100 d 8) (d1 : EH9_ T T1 c b x1) (r : krn_ T T1) (hp : T2 106 0 2 = T1 106 0 2 ∧ ∀ j, T2 209 0 j = T1 209 0 j ∧ T2 210 0 j = T1 210 0 j ∧ T2 211 0 j = T1 211 0 j) (d2 : ER9_ T1 T2 c b x2) (k : ken_ T1 T2) (hb5 : ∀ d, 0 ≤ T 100 d 5 ∧ T 100 d 5 ≤ 12) : x1 = x2 ∧ ENR_ T2 := by
  obtain ⟨o1, o2, o3, o4⟩ := ho
  have hHE : ∀ c, 0 ≤ c → c < T 106 0 2 → 0 ≤ b → b < T 108 0 2 → (T 404 c b ≠ -1 ↔ HE_ T1 c b) := fun c p q s t => by
    have e : HE_ T1 c b ↔ HE_ T c b := by
      unfold HE_
      rw [(r.2 c).1]
      constructor
      · rintro ⟨j, z1, z2, z3⟩
        exact ⟨j, z1, z2, by rw [← r.1]; exact z3⟩
      · rintro ⟨j, z1, z2, z3⟩
        exact ⟨j, z1, z2, by rw [r.1]; exact z3⟩
    rw [e]
    exact he9_i (h.1 c p q) (hk c p q) ⟨s, by omega⟩
  rcases d1 with ⟨rfl, a⟩ | ⟨⟨a0, a00⟩, a1, a2, a11, a3, a4⟩
  · rcases d2 with ⟨rfl, f⟩ | ⟨⟨f0, f00⟩, f1, f2, f3, f4⟩
    · refine ⟨?_, h⟩
      rcases a with ⟨a1, a2⟩ | ⟨a0, a1, a2⟩
      · rcases f with ⟨f1, f2⟩ | ⟨f0, f1, f2⟩
        · omega
        · exact absurd (by omega) a2
      · rcases f with ⟨f1, f2⟩ | ⟨f0, f1, f2⟩
        · exact absurd (by omega) f2
        · omega
    · exfalso
      rcases a with ⟨a1, a2⟩ | ⟨a0, a1, a2⟩
      · exact a2 (by omega)
      · have z := (h.1 c a0.1.1 a0.1.2).2.1
        rcases a2 with a2 | a2
        · omega
        · exact f2 ((hHE c a0.1.1 a0.1.2 a0.2.1 a0.2.2).mp a2)
  · have z := h.1 c a0.1 a0.2
    rcases d2 with ⟨e2, f⟩ | ⟨⟨f0, f00⟩, f1, f2, f3, f4⟩
    · exfalso
      rcases f with ⟨f1, f2⟩ | ⟨f0, f1, f2⟩
      · exact f2 (by omega)
      · rcases f2 with f2 | f2
        · have y := (r.2 c).2.1
          have y2 := z.2.1
          omega
        · exact absurd a2 ((hHE c a0.1 a0.2 a00.1 a00.2).mpr f2)
    · obtain ⟨g1, g2, g3, g4, g5, g6⟩ := a4
      obtain ⟨q1, q2, q3, q4⟩ := f4
      obtain ⟨z1, z2, z3, z4, z5, z6⟩ := z
      have r8 := (r.2 c).1
      have e5 : T1 208 0 c = T 100 c 5 := by omega
      refine ⟨by omega, fun d p q => ?_, fun d p q => ?_⟩
      · have kd := k.1 d
        have rd := r.2 d
        have od := o4 d
        have pd := hp.2 d
        have zd := h.1 d p (by omega)
        by_cases y : d = c
        · subst y
          refine ⟨by omega, by omega, by omega, by omega, fun j s t => ?_, fun b2 s t => ?_⟩
          · rw [k.2.1]
            by_cases w : j = T 100 d 5
            · rw [w, g5, ← e5, q4]
            · rw [g3 d j (fun v => w v.2), q3 _ (by omega), r.1]
              exact z5 j s (by omega)
          · rw [k.2.2, kd.1, g1]
            by_cases w : b2 = b
            · rw [w, g6]
              exact Or.inr ⟨(hb5 d).1, by omega, by rw [k.2.1]; exact g5⟩
            · rw [g4 d b2 (fun v => w v.2), k.2.1]
              rcases z6 b2 s t with v | ⟨v1, v2, v3⟩
              · exact Or.inl v
              · exact Or.inr ⟨v1, by omega, by rw [g3 d _ (fun v => by omega)]; exact v3⟩
        · obtain ⟨x1, x2, x3, x4, x5, x6⟩ := zd
          have g2d := g2 d y
          have q2d := q2 d y
          have b5d := hb5 d
          have b5c := hb5 c
          refine ⟨by omega, by omega, by omega, by omega, fun j s t => ?_, fun b2 s t => ?_⟩
          · rw [k.2.1, g3 d j (fun v => y v.1), q3 _ (by omega), r.1]
            exact x5 j s (by omega)
          · rw [k.2.2, kd.1, g2d, g4 d b2 (fun v => y v.1), k.2.1]
            rcases x6 b2 s t with v | ⟨v1, v2, v3⟩
            · exact Or.inl v
            · exact Or.inr ⟨v1, v2, by rw [g3 d _ (fun v => y v.1)]; exact v3⟩
      · have rd := r.2 d
        have pd := hp.2 d
        have zd := h.2 d (by omega) q
        have q2d := q2 d (by omega)
        omega
/-- deduct on both sides -/
theorem der_d {T T1 T2 : Zt} {c b p x1 x2 : Int} (h : DER_ T) (hn : ENR_ T) (hk : KE_ T) (hcc : T 106 0 2 = T 111 0 6) (hc : T 108 0 2 = T 111 0 12) (hd : T 108 0 13 = T 111 0 3) (hc12 : T 108 0 2 ≤ 12) (h6 : 0 ≤ T 106 0 6 ∧ T 106 0 6 ≤ 50) (ho : T1 111 0 6 = T 111 0 6 ∧ T1 111 0 12 = T 111 0 12 ∧ T1 111 0 3 = T 111 0 3) (d1 : DH9_ T T1 c b p x1) (r : krn_ T T1) (rd : krd_ T T1) (d2 : DR9_ T1 T2 c b p x2) (k : ked_ T1 T2) : x1 = x2 ∧ DER_ T2 := by
  obtain ⟨o1, o2, o3⟩ := ho
  obtain ⟨h1, h2⟩ := h
  obtain ⟨rd0, rd1, rd2, rd3, rd4⟩ := rd
  have hHE : ∀ c, 0 ≤ c → c < T 106 0 2 → 0 ≤ b → b < T 108 0 2 → (T 404 c b ≠ -1 ↔ HE_ T1 c b) := fun c p q s t => by
    have e : HE_ T1 c b ↔ HE_ T c b := by
      unfold HE_
      rw [(r.2 c).1]
      constructor
      · rintro ⟨j, z1, z2, z3⟩
        exact ⟨j, z1, z2, by rw [← r.1]; exact z3⟩
      · rintro ⟨j, z1, z2, z3⟩
        exact ⟨j, z1, z2, by rw [r.1]; exact z3⟩
    rw [e]
    exact he9_i (hn.1 c p q) (hk c p q) ⟨s, by omega⟩
  rcases d1 with ⟨rfl, a⟩ | ⟨⟨a0, a00⟩, a1, a2, a3, a4, a5, a6, a7, a8, a9⟩
  · rcases d2 with ⟨rfl, f⟩ | ⟨⟨f0, f00⟩, f1, f2, f3, f4, f5, f6⟩
    · refine ⟨?_, h1, h2⟩
      rcases a with ⟨a1, a2⟩ | ⟨a0, ⟨a1, a2⟩ | ⟨a1, ⟨a2, a3⟩ | ⟨a2, a3, a4⟩⟩⟩
      · rcases f with ⟨f1, f2⟩ | ⟨f0, f1⟩
        · omega
        · exact absurd (by omega) a2
      · rcases f with ⟨f1, f2⟩ | ⟨f0, ⟨f1, f2⟩ | ⟨f1, f2⟩⟩
        · exact absurd (by omega) f2
        · omega
        · exact absurd f1 a2
      · rcases f with ⟨f1, f2⟩ | ⟨f0, ⟨f1, f2⟩ | ⟨f1, ⟨f2, f3⟩ | ⟨f2, f3, f4⟩⟩⟩
        · exact absurd (by omega) f2
        · exact absurd a1 f2
        · omega
        · exact absurd a3 ((hHE c a0.1.1 a0.1.2 a0.2.1 a0.2.2).mpr f2)
      · rcases f with ⟨f1, f2⟩ | ⟨f0, ⟨f1, f2⟩ | ⟨f1, ⟨f2, f3⟩ | ⟨f2, f3, f4⟩⟩⟩
        · exact absurd (by omega) f2
        · exact absurd a1 f2
        · exact absurd ((hHE c a0.1.1 a0.1.2 a0.2.1 a0.2.2).mp a2) f3
        · omega
    · exfalso
      rcases a with ⟨a1, a2⟩ | ⟨a0, ⟨a1, a2⟩ | ⟨a1, ⟨a2, a3⟩ | ⟨a2, a3, a4⟩⟩⟩
      · exact a2 (by omega)
      · exact a2 f1
      · exact absurd a3 ((hHE c a0.1.1 a0.1.2 a0.2.1 a0.2.2).mpr f2)
      · omega
  · have g := (hHE c a0.1 a0.2 a00.1 a00.2).mp a2
    rcases d2 with ⟨e2, f⟩ | ⟨⟨f0, f00⟩, f1, f2, f3, f4, f5, f6, f7, f8, f9⟩
    · exfalso
      rcases f with ⟨f1, f2⟩ | ⟨f0, ⟨f1, f2⟩ | ⟨f1, ⟨f2, f3⟩ | ⟨f2, f3, f4⟩⟩⟩
      · exact f2 (by omega)
      · exact f2 a1
      · exact f3 g
      · omega
    · obtain ⟨k0, k1, k2, k3, k4⟩ := k
      have e24 : T1 111 0 24 = T 106 0 6 := by omega
      rw [e24] at f6 f7 f8 f9
      refine ⟨by omega, by omega, fun i s t => ?_⟩
      rw [k1, k2, k3, k4]
      by_cases w : i = T 106 0 6
      · rw [w, a6.1, a7.1, a8.1, a9.1, f6.1, f7.1, f8.1, f9.1]
        exact ⟨rfl, rfl, rfl, by omega⟩
      · rw [a6.2 i w, a7.2 i w, a8.2 i w, a9.2 i w, f6.2 i w, f7.2 i w, f8.2 i w, f9.2 i w, rd1, rd2, rd3, rd4]
        exact h2 i s (by omega)

