-- plan on both sides
def FO9_ (e : Int) (q : Fx9_) : Prop := (0 ≤ q.2.1 ∧ q.2.1 < e) ∧ 0 ≤ q.2.2.1 ∧ q.2.2.1 < e
theorem pp9_p {L r i : Int} (hL : 0 < L) (hr : 0 ≤ r) : 0 ≤ pa9_ L r i ∧ 0 ≤ pb9_ L r i := by
  by_cases z : i = 0
  · rw [z, pa9_0, pb9_0]
    omega
  · rw [pa9_i z, pb9_i z]
    exact ⟨Int.emod_nonneg _ (by omega), Int.emod_nonneg _ (by omega)⟩
theorem hm9_p {L r u i : Int} (hL : 0 < L) (hr : 0 ≤ r) : 0 ≤ hm9_ L r u i ∧ 0 ≤ aw9_ L r u i := by
  have h := pp9_p (i := i) hL hr
  by_cases z : pq9_ r i = u
  · rw [(hm9_b z).1, (hm9_b z).2]
    exact ⟨h.2, h.1⟩
  · rw [(hm9_a z).1, (hm9_a z).2]
    exact h
theorem rl9_m {e L r u rd dt : Int} {l : List Fx9_} (hL : 0 < L) (hr : 0 ≤ r) (h : ∀ q ∈ l, FO9_ e q) : ∀ i : Nat, ∀ q ∈ rl9_ e L r u rd dt i l, FO9_ e q
  | 0 => h
  | i + 1 => by
      have g := rl9_m (u := u) (rd := rd) (dt := dt) hL hr h i
      have p := hm9_p (u := u) (i := i) hL hr
      show ∀ q ∈ fa9_ e rd dt (hm9_ L r u i) (aw9_ L r u i) (rl9_ e L r u rd dt i l), FO9_ e q
      by_cases z : hm9_ L r u i < e ∧ aw9_ L r u i < e
      · rw [fa9_y z]
        intro q hq
        rcases List.mem_append.mp hq with hq | hq
        · exact g q hq
        · rw [List.mem_singleton.mp hq]
          exact ⟨⟨p.1, z.1⟩, p.2, z.2⟩
      · rw [fa9_n z]
        exact g
theorem ll9_m {e L g f E : Int} {l : List Fx9_} (hL : 0 < L) (h : ∀ q ∈ l, FO9_ e q) : ∀ r : Nat, ∀ q ∈ ll9_ e L g f E r l, FO9_ e q
  | 0 => h
  | r + 1 => rl9_m hL (Int.natCast_nonneg r) (ll9_m hL h r) _
theorem pl9_m {e L f E : Int} (hL : 0 < L) : ∀ g : Nat, ∀ q ∈ pl9_ e L f E g, FO9_ e q
  | 0 => fun q hq => by cases hq
  | g + 1 => ll9_m hL (pl9_m hL g) _
/-- what plan leaves of the reference's rows -/
def PQ9_ (T T' : Zt) (c : Int) : Prop := am2_ T T' c ∧ T' 210 0 c = T 111 0 29 ∧ T' 211 0 c = T' 111 0 29 - T 111 0 29 ∧ (∀ z, z ≠ c → T' 210 0 z = T 210 0 z ∧ T' 211 0 z = T 211 0 z ∧ T' 209 0 z = T 209 0 z) ∧ (∀ j, T' 207 0 j = T 207 0 j) ∧ ∀ j, T' 208 0 j = T 208 0 j
theorem enr_p {T T1 T2 : Zt} {c f x1 x2 : Int} (h : ENR_ T) (hm : MAR_ T) (ht : TXR_ T) (hd : T 108 0 13 = T 111 0 3) (hd0 : 0 ≤ T 108 0 13) (h0 : 0 ≤ T 106 0 4) (hN : T 106 0 2 ≤ 4) (hb5 : ∀ d, 0 ≤ T 100 d 5 ∧ T 100 d 5 ≤ 12) (d1 : PH9_ T T1 c f x1) (r : krn_ T T1) (rp : krp_ T T1) (rt : ktr_ T T1) (r3 : T1 111 0 3 = T 111 0 3) (hi : T1 106 0 2 = T 106 0 2) (d2 : PR9_ T1 T2 c f x2) (s2 : (x2 < 0 ∧ T2 = T1) ∨ PQ9_ T1 T2 c) (k : ken_ T1 T2) (km : kem_ T1 T2) (hi2 : T2 106 0 2 = T1 106 0 2) : x1 = x2 ∧ ENR_ T2 ∧ MAR_ T2 := by
  obtain ⟨t1, t2, t3, t4, t5⟩ := ht
  by_cases hc : 0 ≤ c ∧ c < T 106 0 2
  · obtain ⟨z1, z2, z3, z4, z5, z6⟩ := h.1 c hc.1 hc.2
    have tc := (t5 c hc.1 hc.2).1
    have q6 := tc 6 (by omega) (by omega)
    have q7 := tc 7 (by omega) (by omega)
    have rc := r.2 c
    have e8 : T1 208 0 c = T 100 c 5 := by omega
    have e9 : T1 209 0 c = T 100 c 6 := by omega
    have e6 : T1 205 0 (23 * c + 6) = T 401 c 6 := by rw [rt.2.2.2.2]; omega
    have e7 : T1 205 0 (23 * c + 7) = T 401 c 7 := by rw [rt.2.2.2.2]; omega
    have am := an9_m (x := T 100 c 5) (by have := hb5 c; omega)
    have e29 : T1 111 0 29 = T 106 0 4 := by have := rp.1; have := hm.1; omega
    unfold PR9_ at d2
    rw [e8, e9, e6, e7, e29, r3, ← hd, Int.mul_comm (T 401 c 6) (T 100 c 5 + T 100 c 5 % 2 - 1), Int.mul_comm (T 401 c 6) (T 100 c 5 * (T 100 c 5 - 1) / 2)] at d2
    unfold PH9_ at d1
    rw [am] at d1
    have hc2 : 0 ≤ c ∧ c < T1 111 0 6 := by have := rt.2.2.1; omega
    have both : x1 = x2 ∧ ((T1 = T ∧ T2 = T1) ∨ (SJ_ T T1 c ∧ PQ9_ T1 T2 c ∧ T2 209 0 c = 1 ∧ 2 ≤ T 100 c 5 ∧ AP9_ T T1 c (pl9_ (T 100 c 5) (T 100 c 5 + T 100 c 5 % 2 - 1) f (T 401 c 7) (T 401 c 6).toNat) ∧ AR9_ T1 T2 c (pl9_ (T 100 c 5) (T 100 c 5 + T 100 c 5 % 2 - 1) f (T 401 c 7) (T 401 c 6).toNat))) := by
      rcases d1 with ⟨a0, a⟩ | ⟨a1, a2, a3, a4, a5, a6, a7, a8, a9⟩
      · rcases d2 with ⟨b0, b⟩ | ⟨b1, b2, b3, b4, b5, b6, b7, b8, b9⟩
        · exact ⟨by omega, Or.inl ⟨a0, b0⟩⟩
        · exfalso
          omega
      · rcases d2 with ⟨b0, b⟩ | ⟨b1, b2, b3, b4, b5, b6, b7, b8, b9⟩
        · exfalso
          omega
        · exact ⟨by omega, Or.inr ⟨a8, s2.resolve_left (fun z => by omega), b8, by omega, a9, b9⟩⟩
    obtain ⟨hx, g⟩ := both
    refine ⟨hx, ?_⟩
    rcases g with ⟨rfl, rfl⟩ | ⟨g1, g2, g3, g4, g5, g6⟩
    · exact ⟨h, hm⟩
    · obtain ⟨⟨-, -, -⟩, fj, od, -, ⟨s6, s7, s8⟩, oc⟩ := g1
      obtain ⟨am2, p1, p2, p3, p4, p5⟩ := g2
      refine ⟨⟨fun d p q => ?_, fun d p q => ?_⟩, ?_, fun m p q => ?_⟩
      · have kd := k.1 d
        have rd := r.2 d
        have p5d := p5 d
        by_cases y : d = c
        · subst y
          have fj5 : T1 100 d 5 = T 100 d 5 := fj 100 d 5 rfl
          have l1 := g5.1
          have l2 := g6.1
          refine ⟨by omega, by omega, by omega, by omega, fun j s t => ?_, fun b s t => ?_⟩
          · rw [k.2.1, fj 403 d j rfl, p4, r.1]
            exact z5 j s (by omega)
          · rw [k.2.2, kd.1, fj5, k.2.1, fj 404 d b rfl, fj 403 d _ rfl]
            exact z6 b s t
        · obtain ⟨x1, x2, x3, x4, x5, x6⟩ := h.1 d p (by omega)
          have o5 := oc d 5 y
          have o6 := oc d 6 y
          have o7 := oc d 7 y
          have o8 := oc d 8 y
          have pd := p3 d y
          refine ⟨by omega, by omega, by omega, by omega, fun j s t => ?_, fun b s t => ?_⟩
          · rw [k.2.1, fj 403 d j rfl, p4, r.1]
            exact x5 j s (by omega)
          · rw [k.2.2, kd.1, o5, k.2.1, fj 404 d b rfl, fj 403 d _ rfl]
            exact x6 b s t
      · have rd := r.2 d
        have pd := p3 d (by omega)
        have p5d := p5 d
        have zd := h.2 d (by omega) q
        omega
      · have l1 := g5.1
        have l2 := g6.1
        have y := km.1
        omega
      · have l1 := g5.1
        have l2 := g6.1
        have y := km.1
        have km2 := km.2 m
        by_cases w : m < T 106 0 4
        · have a := am2.2.1 m (by omega)
          have b := rp.2 m
          have o0 := od m 0 w
          have o2 := od m 2 w
          have o3 := od m 3 w
          have o4 := od m 4 w
          have x := hm.2 m p w
          omega
        · have hk : (m - T 106 0 4).toNat < (pl9_ (T 100 c 5) (T 100 c 5 + T 100 c 5 % 2 - 1) f (T 401 c 7) (T 401 c 6).toNat).length := by omega
          have hq := List.getElem?_eq_getElem hk
          have a := g5.2 _ _ hq
          have b := g6.2 _ _ hq
          have fo := pl9_m (e := T 100 c 5) (f := f) (E := T 401 c 7) (show 0 < T 100 c 5 + T 100 c 5 % 2 - 1 by omega) _ _ (List.getElem_mem hk)
          rw [show T 106 0 4 + (((m - T 106 0 4).toNat : Nat) : Int) = m by omega] at a
          rw [e29, show T 106 0 4 + (((m - T 106 0 4).toNat : Nat) : Int) = m by omega, r.1, r.1, ← z5 _ fo.1.1 fo.1.2, ← z5 _ fo.2.1 fo.2.2] at b
          omega
  · have a : T1 = T ∧ x1 = -2 := by
      rcases d1 with ⟨a0, a⟩ | ⟨a1, _⟩
      · exact ⟨a0, by omega⟩
      · exact absurd a1 hc
    have b : T2 = T1 ∧ x2 = -2 := by
      have := rt.2.2.1
      rcases d2 with ⟨b0, b⟩ | ⟨b1, _⟩
      · exact ⟨b0, by omega⟩
      · exact absurd b1 (by omega)
    obtain ⟨rfl, a2⟩ := a
    obtain ⟨rfl, b2⟩ := b
    exact ⟨by omega, h, hm⟩
/-- a competition on both sides: its entries -/
theorem enr_c {T T1 T2 : Zt} (h : ENR_ T) (h0 : 0 ≤ T 106 0 2) (hq : (T1 106 0 2 = T 106 0 2 ∧ ken_ T T1) ∨ (nc_ T T1 ∧ ∀ j, 0 ≤ j → j < 12 → T1 404 (T 106 0 2) j = -1)) (r : krn_ T T1) (k : ken_ T1 T2) (r2 : krn_ T1 T2) (hi2 : T2 106 0 2 = T1 106 0 2) : ENR_ T2 := by
  refine enr_k (T := T1) ?_ hi2 k r2
  rcases hq with ⟨e, k1⟩ | ⟨⟨f, ⟨n1, n2⟩, ho, -, -, ⟨y5, y6, y7, y8⟩, -⟩, hs⟩
  · exact enr_k h e k1 r
  · refine ⟨fun c a b => ?_, fun c a b => ?_⟩
    · have rc := r.2 c
      by_cases z : c = T 106 0 2
      · subst z
        have z0 := h.2 _ (Int.le_refl _) n2
        refine ⟨by omega, by omega, by omega, by omega, fun j p q => by omega, fun d p q => Or.inl (hs d p q)⟩
      · obtain ⟨x1, x2, x3, x4, x5, x6⟩ := h.1 c a (by omega)
        have o5 := ho 100 c 5 (Or.inl rfl) z
        have o6 := ho 100 c 6 (Or.inl rfl) z
        have o7 := ho 100 c 7 (Or.inl rfl) z
        have o8 := ho 100 c 8 (Or.inl rfl) z
        have o3 : ∀ j, T1 403 c j = T 403 c j := fun j => ho 403 c j (Or.inr (Or.inr (Or.inr (Or.inl rfl)))) z
        have o4 : ∀ j, T1 404 c j = T 404 c j := fun j => ho 404 c j (Or.inr (Or.inr (Or.inr (Or.inr rfl)))) z
        refine ⟨by omega, by omega, by omega, by omega, fun j p q => ?_, fun d p q => ?_⟩
        · rw [o3, r.1]
          exact x5 j p (by omega)
        · rw [o4, o5, o3]
          exact x6 d p q
    · have rc := r.2 c
      have zc := h.2 c (by omega) b
      omega

