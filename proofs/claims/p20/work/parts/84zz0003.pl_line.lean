theorem kn9_ (k : Nat) (j : Int) (h : k < 400) : fw_ [(448, []), (449, []), (533, [])] k j = false ∧ fw_ [(533, [])] k j = false := by
  have a : ∀ n : Nat, 400 ≤ n → (k == n) = false := fun n b => by
    rw [beq_eq_false_iff_ne]
    omega
  constructor <;> simp [fw_, a 448 (by decide), a 449 (by decide), a 533 (by decide)]
/-- whether a person may play -/
theorem pl_elig {T T1 : Zt} {N q m t x1 x2 : Int} (hT : ok_T T) (hI : IC_ N T) (hP : PLR_ T) (hX : TXR_ T) (hM : MAR_ T) (hE : ENR_ T) (hD : DAR_ T) (hN : CNR_ T) (f1 : fr_ [(533, [])] T T1) (d1 : ((x1 = -2 ∧ ¬ ((0 ≤ q ∧ q < T 108 0 3) ∧ 0 ≤ m ∧ m < T 106 0 4)) ∨ (((0 ≤ q ∧ q < T 108 0 3) ∧ 0 ≤ m ∧ m < T 106 0 4) ∧ ((x1 = -3 ∧ ¬ (0 ≤ t ∧ t ≤ 1)) ∨ ((0 ≤ t ∧ t ≤ 1) ∧ x1 = wyH_ T q m t))))) (d2 : ((x2 = -2 ∧ ¬ ((0 ≤ q ∧ q < T1 111 0 15) ∧ 0 ≤ m ∧ m < T1 111 0 29)) ∨ (((0 ≤ q ∧ q < T1 111 0 15) ∧ 0 ≤ m ∧ m < T1 111 0 29) ∧ ((x2 = -3 ∧ ¬ (0 ≤ t ∧ t ≤ 1)) ∨ ((0 ≤ t ∧ t ≤ 1) ∧ x2 = wyR_ T1 q m t))))) : x1 = x2 := by
  have mm := hM.1
  have c29 : T1 111 0 29 = T 111 0 29 := f1 111 0 29 rfl
  have c15 : T1 111 0 15 = T 111 0 15 := f1 111 0 15 rfl
  have n2 := hN.2.1
  rcases d1 with ⟨rfl, a⟩ | ⟨a, d1⟩
  · rcases d2 with ⟨rfl, -⟩ | ⟨b, -⟩
    · rfl
    · exfalso; omega
  · obtain ⟨-, d2⟩ := d2.resolve_left (fun z => z.2 (by omega))
    have k : wyR_ T1 q m t = wyR_ T q m t := wyR_k (fun k j a b => f1 k 0 j (kn9_ k j (by omega)).2) (f1 111 0 16 rfl) c29
    rw [k, ← wy_q hT hI hP hX hM hE hD a.2] at d2
    omega
/-- a line-up -/
theorem pl_line {T T1 T2 : Zt} {N q m t x1 x2 : Int} (hT : ok_T T) (hI : IC_ N T) (hR : IR_ T) (hP : PLR_ T) (hL : LDR_ T) (hX : TXR_ T) (hM : MAR_ T) (hE : ENR_ T) (hD : DAR_ T) (hN : CNR_ T) (f1 : fr_ [(448, []), (449, []), (533, [])] T T1) (d1 : ((x1 = -2 ∧ ¬ ((0 ≤ q ∧ q < T 108 0 3) ∧ 0 ≤ m ∧ m < T 106 0 4) ∧ SHN_ T T1) ∨ (((0 ≤ q ∧ q < T 108 0 3) ∧ 0 ≤ m ∧ m < T 106 0 4) ∧ ((x1 = -3 ∧ ¬ (0 ≤ t ∧ t ≤ 1) ∧ SHN_ T T1) ∨ ((0 ≤ t ∧ t ≤ 1) ∧ ((x1 = -4 ∧ ¬ (T 102 m 6 = -1 ∧ T 102 m 10 = 0) ∧ SHN_ T T1) ∨ ((T 102 m 6 = -1 ∧ T 102 m 10 = 0) ∧ ((x1 = -5 ∧ T 401 (T 102 m 0) 9 + 4 ≤ T 449 m t ∧ SHN_ T T1) ∨ (T 449 m t < T 401 (T 102 m 0) 9 + 4 ∧ ((wyH_ T q m t ≠ 0 ∧ x1 = -10 - wyH_ T q m t ∧ SHN_ T T1) ∨ (wyH_ T q m t = 0 ∧ x1 = T 449 m t + 1 ∧ SHH_ T T1 m t q))))))))))) (f2 : fr_ [(239, []), (240, [])] T1 T2) (d2 : ((SH_ T2 ∧ ∀ z, T1 239 0 z ≤ T2 239 0 z) ∧ ((x2 = -2 ∧ ¬ ((0 ≤ q ∧ q < T1 111 0 15) ∧ 0 ≤ m ∧ m < T1 111 0 29) ∧ T1 = T2) ∨ (((0 ≤ q ∧ q < T1 111 0 15) ∧ 0 ≤ m ∧ m < T1 111 0 29) ∧ ((x2 = -3 ∧ ¬ (0 ≤ t ∧ t ≤ 1) ∧ T1 = T2) ∨ ((0 ≤ t ∧ t ≤ 1) ∧ ((x2 = -4 ∧ T1 235 0 m ≠ 0 ∧ T1 = T2) ∨ (T1 235 0 m = 0 ∧ ((x2 = -5 ∧ T1 239 0 (2 * m + t) = T1 205 0 (23 * T1 230 0 m + 9) + 4 ∧ T1 = T2) ∨ (T1 239 0 (2 * m + t) ≠ T1 205 0 (23 * T1 230 0 m + 9) + 4 ∧ ((wyR_ T1 q m t ≠ 0 ∧ x2 = -10 - wyR_ T1 q m t ∧ T1 = T2) ∨ (wyR_ T1 q m t = 0 ∧ x2 = T1 239 0 (2 * m + t) + 1 ∧ SRR_ T1 T2 m t q)))))))))))) : x1 = x2 ∧ PLR_ T2 := by
  have mm := hM.1
  have c4 : T1 106 0 4 = T 106 0 4 := f1 106 0 4 rfl
  have c29 : T1 111 0 29 = T 111 0 29 := f1 111 0 29 rfl
  have c15 : T1 111 0 15 = T 111 0 15 := f1 111 0 15 rfl
  have v4 : T2 106 0 4 = T1 106 0 4 := f2 106 0 4 rfl
  have v29 : T2 111 0 29 = T1 111 0 29 := f2 111 0 29 rfl
  have n2 := hN.2.1
  have kR : ∀ j, KRM_ T T1 j := fun j => kqm_s (ks_f f1 (by decide +kernel))
  have kH : ∀ j, KHM_ T1 T2 j := fun j => khm_s (ks_f f2 (by decide +kernel))
  obtain ⟨-, d2⟩ := d2
  have stay : SHN_ T T1 → T1 = T2 → PLR_ T2 := fun s e => by
    subst e
    refine plr_s (m := -1) hP c4 c29 (fun z => absurd z (by decide)) (fun j _ _ _ => ⟨?_, kR j⟩) (fun j _ _ => ⟨f1 236 0 j rfl, f1 237 0 j rfl⟩)
    refine ⟨fun K i d => ?_, ⟨f1 102 j 0 rfl, f1 102 j 6 rfl, f1 102 j 10 rfl⟩, ⟨f1 103 j 0 rfl, f1 103 j 14 rfl, f1 103 j 15 rfl, f1 103 j 17 rfl⟩, fun w => f1 401 _ w rfl, fun _ i _ _ => f1 190 _ i rfl⟩
    rcases dk_c d with rfl | rfl | rfl | rfl | rfl | rfl | rfl | rfl | rfl | rfl | ⟨rfl, _⟩
    · exact s.1 j i
    · exact s.2 j i
    all_goals exact f1 _ j i rfl
  rcases d1 with ⟨rfl, a, s⟩ | ⟨a, d1⟩
  · rcases d2 with ⟨rfl, -, e⟩ | ⟨b, -⟩
    · exact ⟨rfl, stay s e⟩
    · exfalso; omega
  · obtain ⟨-, d2⟩ := d2.resolve_left (fun z => z.2.1 (by omega))
    have hm := a.2
    have g := hP.1 m hm.1 hm.2
    rcases d1 with ⟨rfl, b, s⟩ | ⟨b, d1⟩
    · rcases d2 with ⟨rfl, -, e⟩ | ⟨y, -⟩
      · exact ⟨rfl, stay s e⟩
      · exact absurd y b
    · obtain ⟨-, d2⟩ := d2.resolve_left (fun z => z.2.1 b)
      have t7 := pm_0 g.2
      have t2 : T1 235 0 m = T 235 0 m := f1 235 0 m rfl
      rcases d1 with ⟨rfl, c, s⟩ | ⟨c, d1⟩
      · rcases d2 with ⟨rfl, -, e⟩ | ⟨y, -⟩
        · exact ⟨rfl, stay s e⟩
        · exfalso; omega
      · obtain ⟨-, d2⟩ := d2.resolve_left (fun z => z.2.1 (by omega))
        have hc : 0 ≤ T 102 m 0 ∧ T 102 m 0 < T 106 0 2 := (hI.1.2.1 m hm.1 hm.2).2
        have e230 : T1 230 0 m = T 102 m 0 := (f1 230 0 m rfl).trans (hM.2 m hm.1 hm.2).1.symm
        have e9 : T1 205 0 (23 * T1 230 0 m + 9) = T 401 (T 102 m 0) 9 := by
          rw [e230, f1 205 0 (23 * T 102 m 0 + 9) rfl]
          exact ((hX.2.2.2.2 _ hc.1 hc.2).1 9 (by decide) (by decide)).symm
        have sm := g.1.1 t b.1 b.2
        have e39 : T1 239 0 (2 * m + t) = T 239 0 (2 * m + t) := f1 239 0 _ rfl
        have sh := (hR.2.2.2.2.2.2.1 m t hm.1 (by have n4 : T 106 0 4 ≤ 400 := (bd_f hT 106 4 tl_6_4 0).2; omega) b.1 b.2).1 (by omega)
        have e9b : T 205 0 (23 * T 230 0 m + 9) = T 401 (T 102 m 0) 9 := by
          rw [← (hM.2 m hm.1 hm.2).1]
          exact ((hX.2.2.2.2 _ hc.1 hc.2).1 9 (by decide) (by decide)).symm
        have kr := hI.1.2.2.2.1 _ hc.1 hc.2
        have k : wyR_ T1 q m t = wyH_ T q m t := (wyR_k (fun k j a b => f1 k 0 j (kn9_ k j (by omega)).1) (f1 111 0 16 rfl) c29).trans (wy_q hT hI hP hX hM hE hD hm).symm
        rw [e9, k] at d2
        rcases d1 with ⟨rfl, u, s⟩ | ⟨u, d1⟩
        · rcases d2 with ⟨rfl, -, e⟩ | ⟨y, -⟩
          · exact ⟨rfl, stay s e⟩
          · exfalso; omega
        · obtain ⟨-, d2⟩ := d2.resolve_left (fun z => by have := z.2.1; omega)
          rcases d1 with ⟨w, e1, s⟩ | ⟨w, e1, s⟩
          · rcases d2 with ⟨-, e2, e⟩ | ⟨y, -⟩
            · exact ⟨by omega, stay s e⟩
            · exact absurd y w
          · rcases d2 with ⟨y, -⟩ | ⟨-, e2, s2⟩
            · exact absurd w y
            · have pn : plc_ T m q = -1 := by
                refine Classical.byContradiction (fun z => ?_)
                by_cases o1 : co9_c T q (T 102 m 5) ≠ cz_ (t = 0) (T 102 m 3) (T 102 m 4)
                · rw [wyH_1 o1] at w; exact absurd w (by decide)
                · by_cases o2 : 0 < bnH_ T q m
                  · rw [wyH_2 o1 o2] at w; exact absurd w (by decide)
                  · rw [wyH_3 o1 o2 z] at w; exact absurd w (by decide)
              have pa : PAA_ T m := by
                rcases g.2 with y | y | y
                · exact y
                · exfalso; have := y.2.1; omega
                · exact absurd c.2 y.2.1
              obtain ⟨s1, s3, s4, s5⟩ := s
              obtain ⟨r1, r3, r4, r5⟩ := s2
              have e49 : ∀ i j, T2 449 i j = T1 449 i j := fun i j => f2 449 i j rfl
              have e48 : ∀ i j, T2 448 i j = T1 448 i j := fun i j => f2 448 i j rfl
              have k39 : ∀ j, T1 239 0 j = T 239 0 j := fun j => f1 239 0 j rfl
              have k40 : ∀ j, T1 240 0 j = T 240 0 j := fun j => f1 240 0 j rfl
              have nq : ∀ y, t * 10 ≤ y → y < t * 10 + T 449 m t → T 448 m y ≠ q := fun y y0 y1 e => by
                have p0 := pl_sl1 (q := q) g.1 (s := 0) (by decide) (by decide)
                by_cases o1 : plN_ T m q 0 (T 449 m 0).toNat 0 = -1
                · rw [plc_1 o1] at pn
                  rcases (by omega : t = 0 ∨ t = 1) with tc | tc
                  · rw [tc] at y0 y1
                    have n := plN_n (T 449 m 0).toNat 0 (by decide) (by decide) o1 y (by omega) (by omega)
                    rw [show (0 : Int) * 10 + y = y by omega] at n
                    exact n e
                  · rw [tc] at y0 y1
                    have n := plN_n (T 449 m 1).toNat 0 (by decide) (by decide) pn (y - 10) (by omega) (by omega)
                    rw [show (1 : Int) * 10 + (y - 10) = y by omega] at n
                    exact n e
                · rw [plc_0 o1] at pn
                  exact o1 pn
              refine ⟨by omega, plr_s (m := m) hP (by omega) (by omega) (fun _ _ => ⟨⟨fun t' u0 u1 => ?_, fun t' x u0 u1 x0 x1 => ?_, fun t' x y u0 u1 x0 x1 y0 y1 e => ?_⟩, Or.inl ?_⟩) (fun j j0 j1 nj => ⟨?_, ?_⟩) (fun j _ _ => ⟨(f2 236 0 j rfl).trans (f1 236 0 j rfl), (f2 237 0 j rfl).trans (f1 237 0 j rfl)⟩)⟩
              · have y := g.1.1 t' u0 u1
                rw [e49]
                by_cases o1 : t' = t
                · rw [o1] at y ⊢
                  omega
                · rw [r5 _ (by omega), k39, s5 m t' (fun z => o1 z.2)]
                  exact y
              · have y := g.1.1 t' u0 u1
                rw [e49] at x1
                rw [e48]
                by_cases o1 : t' = t
                · rw [o1] at x0 x1 y
                  rw [s3] at x1
                  by_cases o2 : x = t * 10 + T 449 m t
                  · rw [o2, s1, show 20 * m + (t * 10 + T 449 m t) = 10 * (2 * m + t) + T1 239 0 (2 * m + t) by omega]
                    exact r1
                  · rw [r4 _ (by omega), k40, s4 m x (fun z => o2 z.2)]
                    exact g.1.2.1 t x b.1 b.2 x0 (by omega)
                · rw [s5 m t' (fun z => o1 z.2)] at x1
                  rw [r4 _ (by omega), k40, s4 m x (fun z => by have := z.2; omega)]
                  exact g.1.2.1 t' x u0 u1 x0 x1
              · have y9 := g.1.1 t' u0 u1
                rw [e49] at x1 y1
                rw [e48, e48] at e
                by_cases o1 : t' = t
                · rw [o1] at x0 x1 y0 y1
                  rw [s3] at x1 y1
                  by_cases o2 : x = t * 10 + T 449 m t
                  · by_cases o3 : y = t * 10 + T 449 m t
                    · omega
                    · rw [o2, s1, s4 m y (fun z => o3 z.2)] at e
                      exact absurd e.symm (nq y y0 (by omega))
                  · by_cases o3 : y = t * 10 + T 449 m t
                    · rw [o3, s1, s4 m x (fun z => o2 z.2)] at e
                      exact absurd e (nq x x0 (by omega))
                    · rw [s4 m x (fun z => o2 z.2), s4 m y (fun z => o3 z.2)] at e
                      exact g.1.2.2 t x y b.1 b.2 x0 (by omega) y0 (by omega) e
                · rw [s5 m t' (fun z => o1 z.2)] at x1 y1
                  rw [s4 m x (fun z => by have := z.2; omega), s4 m y (fun z => by have := z.2; omega)] at e
                  exact g.1.2.2 t' x y u0 u1 x0 x1 y0 y1 e
              · unfold PAA_ at pa ⊢
                rw [f2 102 m 6 rfl, f1 102 m 6 rfl, f2 102 m 10 rfl, f1 102 m 10 rfl, f2 235 0 m rfl, f1 235 0 m rfl, f2 236 0 m rfl, f1 236 0 m rfl, f2 237 0 m rfl, f1 237 0 m rfl, f2 254 0 m rfl, f1 254 0 m rfl, f2 256 0 m rfl, f1 256 0 m rfl]
                exact pa
              · refine khm_t ⟨fun K i d => ?_, ⟨f1 102 j 0 rfl, f1 102 j 6 rfl, f1 102 j 10 rfl⟩, ⟨f1 103 j 0 rfl, f1 103 j 14 rfl, f1 103 j 15 rfl, f1 103 j 17 rfl⟩, fun w => f1 401 _ w rfl, fun _ i _ _ => f1 190 _ i rfl⟩ (kH j)
                rcases dk_c d with rfl | rfl | rfl | rfl | rfl | rfl | rfl | rfl | rfl | rfl | ⟨rfl, _⟩
                · exact s4 j i (fun z => nj z.1)
                · exact s5 j i (fun z => nj z.1)
                all_goals exact f1 _ j i rfl
              · refine kqm_t (kR j) ⟨?_, rw_k (fun k x c => by rcases c with rfl | rfl | rfl | rfl <;> exact f2 _ 0 x rfl) (fun x => f2 252 0 x rfl) (f2 253 0 j rfl) (f2 254 0 j rfl), f2 254 0 j rfl, f2 256 0 j rfl⟩
                funext K i
                by_cases y : dm_ K i = true
                · rw [rp_d y, rp_d y]
                  rcases dm_c y with ⟨z1, z2, z3, z4, z5⟩ | ⟨z1, z2, z3, z4, z5⟩ | ⟨z1, z2, z3, z4, z5⟩ | ⟨z1, z2, z3, z4, z5⟩ | ⟨z1, z2, z3, z4, z5⟩ | ⟨z1, z2, z3, z4, z5⟩ | ⟨z1, z2, z3, z4, z5⟩ | ⟨z1, z2, z3, z4, z5⟩ | ⟨z1, z2, z3, z4, z5⟩ | ⟨z1, z2, z3, z4, z5⟩ | ⟨z1, z2, z4, z5⟩ | ⟨z1, z2, z4, z5⟩ | ⟨z1, z2, z4, z5⟩ | ⟨z1, z2, z4, z5⟩ | ⟨z1, z2, z4, z5⟩ <;> rw [z4, z5] <;> first | exact f2 _ 0 _ rfl | exact r5 _ (by omega) | exact r4 _ (by omega)
                · rw [rp_z y, rp_z y]
