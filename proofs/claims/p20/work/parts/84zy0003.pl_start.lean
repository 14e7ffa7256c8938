theorem rw_0 {T : Zt} {m : Int} (h : T 254 0 m = 0) : rw9_ T m = [] := List.eq_nil_of_length_eq_zero (by rw [rw_n, h]; rfl)
/-- whether a match is told only -/
theorem pm_0 {T : Zt} {m : Int} (h : PM_ T m) : (T 102 m 6 = -1 ∧ T 102 m 10 = 0) ↔ T 235 0 m = 0 := by
  rcases h with z | z | z
  · exact ⟨fun _ => z.2.2.1, fun _ => ⟨z.1, z.2.1⟩⟩
  · have y := z.2.2.1
    have w := z.2.1
    constructor
    · intro u; omega
    · intro u; omega
  · have y := z.2.2.2.1
    obtain ⟨n, -, ps⟩ := y
    have e := ps.1.2.2.1.2.2
    rw [rp_35] at e
    have u := z.2.1
    constructor
    · intro v; omega
    · intro v; omega
theorem pm_3 {T : Zt} {m : Int} (h : PM_ T m) : T 102 m 6 = -1 ↔ T 235 0 m ≠ 3 := by
  rcases h with z | z | z
  · have y := z.2.2.1
    have w := z.1
    constructor
    · intro u; omega
    · intro u; omega
  · have y := z.2.2.1
    have w := z.2.1
    constructor
    · intro u; omega
    · intro u; omega
  · obtain ⟨n, -, ps⟩ := z.2.2.2.1
    have e := ps.1.2.2.1.2.2
    rw [rp_35] at e
    have u := z.1
    constructor
    · intro v; omega
    · intro v; omega
/-- a start -/
theorem pl_start {T T1 T2 : Zt} {N m x1 x2 : Int} (hI : IC_ N T) (hR : IR_ T) (hP : PLR_ T) (hL : LDR_ T) (hX : TXR_ T) (hM : MAR_ T) (hD : DAR_ T) (hN : CNR_ T) (f1 : fr_ [(153, []), (103, []), (102, [10]), (466, []), (467, []), (468, []), (469, []), (470, []), (471, []), (472, []), (473, []), (190, []), (191, [0])] T T1) (d1 : (LP_ N T1 ∧ lh_ T T1 ∧ T1 191 0 0 ≤ T 191 0 0 + 600 ∧ NA_ T1 ∧ ∀ k i j, i ≠ m → k ≠ 190 → k ≠ 191 → T1 k i j = T k i j) ∧ ((x1 = -2 ∧ ¬ (0 ≤ m ∧ m < T 106 0 4) ∧ T = T1) ∨ ((0 ≤ m ∧ m < T 106 0 4) ∧ ((x1 = -4 ∧ ¬ ((T 102 m 6 = -1 ∧ T 102 m 10 = 0) ∧ T 102 m 5 = T 108 0 13 ∧ T 401 (T 102 m 0) 9 ≤ T 449 m 0 ∧ T 401 (T 102 m 0) 9 ≤ T 449 m 1) ∧ T = T1) ∨ (x1 = 1 ∧ ((T 102 m 6 = -1 ∧ T 102 m 10 = 0) ∧ T 102 m 5 = T 108 0 13 ∧ T 401 (T 102 m 0) 9 ≤ T 449 m 0 ∧ T 401 (T 102 m 0) 9 ≤ T 449 m 1) ∧ T1 102 m 10 ≠ 0 ∧ T1 103 m 0 = T 102 m 0 ∧ (∃ z : Sg_, (∀ (k : Nat) (j : Int), k = 448 ∨ k = 449 → z k j = rs9_ T m k j) ∧ rs9_ T1 m = bb9_ (rlm_ (fun w => T 401 (T 102 m 0) w)) z) ∧ T1 103 m 14 = T 191 0 0 ∧ T1 103 m 16 = T 191 0 0 + 1 ∧ T1 103 m 15 = 0 ∧ T1 103 m 17 = 0 ∧ (∀ x1 j, x1 < T 191 0 0 → T1 190 x1 j = T 190 x1 j) ∧ ∀ k i j, i ≠ m → k ≠ 190 → k ≠ 191 → T1 k i j = T k i j))))) (f2 : fr_ [(244, []), (241, []), (242, []), (243, []), (245, []), (246, []), (236, []), (237, []), (235, [])] T1 T2) (d2 : ((FM_ T2 ∧ ZS_ T2 ∧ GX_ T2 (-1)) ∧ ((x2 = -2 ∧ ¬ (0 ≤ m ∧ m < T1 111 0 29) ∧ T1 = T2) ∨ ((0 ≤ m ∧ m < T1 111 0 29) ∧ ((x2 = -4 ∧ ¬ (T1 235 0 m = 0 ∧ T1 234 0 m = T1 111 0 3 ∧ T1 205 0 (23 * T1 230 0 m + 9) ≤ T1 239 0 (2 * m) ∧ T1 205 0 (23 * T1 230 0 m + 9) ≤ T1 239 0 (2 * m + 1)) ∧ T1 = T2) ∨ (x2 = 1 ∧ (T1 235 0 m = 0 ∧ T1 234 0 m = T1 111 0 3 ∧ T1 205 0 (23 * T1 230 0 m + 9) ≤ T1 239 0 (2 * m) ∧ T1 205 0 (23 * T1 230 0 m + 9) ≤ T1 239 0 (2 * m + 1)) ∧ BGR_ m (rlm_ (fun w => T1 205 0 (23 * T1 230 0 m + w))) (rp9_ T1 m) (rp9_ T2 m) ∧ ro9_ T1 T2 m)))))) : x1 = x2 ∧ PLR_ T2 ∧ LDR_ T2 := by
  have c4 : T1 106 0 4 = T 106 0 4 := f1 106 0 4 rfl
  have c29 : T1 111 0 29 = T 111 0 29 := f1 111 0 29 rfl
  have v4 : T2 106 0 4 = T1 106 0 4 := f2 106 0 4 rfl
  have v29 : T2 111 0 29 = T1 111 0 29 := f2 111 0 29 rfl
  have mm := hM.1
  have kR : ∀ j, KRM_ T T1 j := fun j => kqm_s (ks_f f1 (by decide +kernel))
  have kH : ∀ j, KHM_ T1 T2 j := fun j => khm_s (ks_f f2 (by decide +kernel))
  obtain ⟨⟨-, lh, -, -, -⟩, d1⟩ := d1
  obtain ⟨-, d2⟩ := d2
  rcases d1 with ⟨rfl, hn, rfl⟩ | ⟨hm, d1⟩
  · rcases d2 with ⟨rfl, -, rfl⟩ | ⟨hm2, -⟩
    · exact ⟨rfl, hP, hL⟩
    · exfalso; omega
  · have g := hP.1 m hm.1 hm.2
    obtain ⟨-, d2⟩ := d2.resolve_left (fun z => z.2.1 (by omega))
    have hc : 0 ≤ T 102 m 0 ∧ T 102 m 0 < T 106 0 2 := (hI.1.2.1 m hm.1 hm.2).2
    have e230 : T1 230 0 m = T 102 m 0 := (f1 230 0 m rfl).trans (hM.2 m hm.1 hm.2).1.symm
    have r2 : rlm_ (fun w => T1 205 0 (23 * T1 230 0 m + w)) = ruH_ T m := Eq.trans (rlm_e (fun w _ _ => by
      show T1 205 0 (23 * T1 230 0 m + w) = T 205 0 (23 * T 230 0 m + w)
      rw [f1 230 0 m rfl, f1 205 0 (23 * T 230 0 m + w) rfl])) (ru_q hX (hM.2 m hm.1 hm.2).1 hc)
    have e9 : T1 205 0 (23 * T1 230 0 m + 9) = T 401 (T 102 m 0) 9 := by
      rw [e230, f1 205 0 (23 * T 102 m 0 + 9) rfl]
      exact ((hX.2.2.2.2 _ hc.1 hc.2).1 9 (by decide) (by decide)).symm
    have s0 := g.1.1 0 (by decide) (by decide)
    have s1 := g.1.1 1 (by decide) (by decide)
    rw [Int.add_zero] at s0
    have t0 : T1 239 0 (2 * m) = T 239 0 (2 * m) := f1 239 0 _ rfl
    have t1 : T1 239 0 (2 * m + 1) = T 239 0 (2 * m + 1) := f1 239 0 _ rfl
    have t2 : T1 235 0 m = T 235 0 m := f1 235 0 m rfl
    have t3 : T1 234 0 m = T 234 0 m := f1 234 0 m rfl
    have t4 : T1 111 0 3 = T 111 0 3 := f1 111 0 3 rfl
    have t5 := hD m hm.1 hm.2
    have t6 := hN.2.2.2
    have t7 := pm_0 g.2
    rw [r2, (kR m).1, e9] at d2
    rcases d1 with ⟨rfl, a1, rfl⟩ | ⟨rfl, a1, a2, a3, ⟨z, z1, z2⟩, a4, a5, a6, a7, a8, a9⟩
    · rcases d2 with ⟨rfl, -, rfl⟩ | ⟨-, y, -⟩
      · exact ⟨rfl, hP, hL⟩
      · exfalso; omega
    · rcases d2 with ⟨-, y, -⟩ | ⟨rfl, -, b1, b2⟩
      · exfalso; omega
      · have pa : PAA_ T m := by
          rcases g.2 with y | y | y
          · exact y
          · exfalso; have := y.2.1; omega
          · exact absurd a1.1.2 y.2.1
        have rb := rb_m hR.2.1 hX hc
        have g9 : ruH_ T m 9 = T 401 (T 102 m 0) 9 := rlm_v (f := fun w => T 401 (T 102 m 0) w) (by decide) (by decide)
        have z49 : ∀ t, z 449 t = T 449 m t := fun t => (z1 449 t (Or.inr rfl)).trans (rs_d rfl)
        have z48 : ∀ t, z 448 t = T 448 m t := fun t => (z1 448 t (Or.inl rfl)).trans (rs_d rfl)
        have sb := si_bg (m := m) (r := ruH_ T m) (a0 := rp9_ T m) (b := rp9_ T2 m) (a := z) rb (fun t u0 u1 => by
            have y := g.1.1 t u0 u1
            rw [g9, z49]
            rcases (by omega : t = 0 ∨ t = 1) with c | c
            · rw [c] at y ⊢; omega
            · rw [c] at y ⊢; omega) (fun t x y u0 u1 x0 x1 y0 y1 e => by
            rw [z49] at x1 y1
            rw [z48, z48] at e
            exact g.1.2.2 t x y u0 u1 x0 x1 y0 y1 e) (fun t u0 u1 => by
            rw [rp_39 u0 u1, z49]
            exact (g.1.1 t u0 u1).1) (fun t x u0 u1 x0 x1 => by
            have y := g.1.1 t u0 u1
            rw [z49] at x1
            rw [rp_40 (by omega) (by omega), z48]
            exact g.1.2.1 t x u0 u1 x0 x1) b1
        have es : rs9_ T2 m = bb9_ (ruH_ T m) z := (rs_n (kH m).1).trans z2
        have e0 : T2 102 m 0 = T 102 m 0 := (f2 102 m 0 rfl).trans (f1 102 m 0 rfl)
        have e401 : ∀ i w, T2 401 i w = T 401 i w := fun i w => (f2 401 i w rfl).trans (f1 401 i w rfl)
        have er : ruH_ T2 m = ruH_ T m := rlm_e (fun w _ _ => by
          show T2 401 (T2 102 m 0) w = T 401 (T 102 m 0) w
          rw [e0, e401])
        have q15 : T2 103 m 15 = T1 103 m 15 := f2 103 m 15 rfl
        have q17 : T2 103 m 17 = T1 103 m 17 := f2 103 m 17 rfl
        have q54 : T2 254 0 m = 0 := (f2 254 0 m rfl).trans ((f1 254 0 m rfl).trans pa.2.2.2.2.2.1)
        have q56 : T2 256 0 m = 0 := (f2 256 0 m rfl).trans ((f1 256 0 m rfl).trans pa.2.2.2.2.2.2)
        have hpc : PCC_ T2 m := by
          refine ⟨(f2 102 m 6 rfl).trans ((f1 102 m 6 rfl).trans pa.1), ?_, ?_, ⟨0, by omega, ?_⟩, ?_, fun t u0 u1 => ?_, ?_, by omega⟩
          · rw [f2 102 m 10 rfl]; exact a2
          · rw [f2 103 m 0 rfl, a3, e0]
          · rw [er, es]
            exact sb.1
          · rw [es]
            exact sb.2
          · rw [e0, e401, f2 449 m t rfl, f1 449 m t rfl]
            rcases (by omega : t = 0 ∨ t = 1) with c | c
            · rw [c]; omega
            · rw [c]; omega
          · rw [rw_0 q54, q15, a6]
            rfl
        have oth : ∀ j, j ≠ m → T1 102 j 10 = T 102 j 10 ∧ T1 103 j 14 = T 103 j 14 ∧ T1 103 j 16 = T 103 j 16 := fun j n => ⟨a9 102 j 10 n (by decide) (by decide), a9 103 j 14 n (by decide) (by decide), a9 103 j 16 n (by decide) (by decide)⟩
        have lo : ∀ j, 0 ≤ j → j < T 106 0 4 → T 102 j 10 ≠ 0 → T 103 j 14 < T 191 0 0 ∧ T 103 j 16 < T 191 0 0 := fun j a b c => ⟨(hI.2.2.2.1 j a b c).1.2.2.2.2.2.1, (hI.2.2.2.1 j a b c).1.2.2.2.2.2.2.1⟩
        have e44 : T1 104 0 4 = T 104 0 4 := f1 104 0 4 rfl
        have e15 : T1 109 0 15 = T 109 0 15 := f1 109 0 15 rfl
        have hL1 : LDR_ T1 := by
          obtain ⟨⟨h1, h2⟩, h3⟩ := hL
          have l2 := lh.2
          refine ⟨⟨by omega, by omega⟩, fun i i0 i1 ip => ?_⟩
          rw [c4] at i1
          by_cases w : i = m
          · rw [w]
            refine ⟨by omega, fun j j0 j1 jp n => ?_⟩
            rw [c4] at j1
            have y := oth j n
            rw [y.1] at jp
            have v := lo j j0 j1 jp
            omega
          · have y := oth i w
            rw [y.1] at ip
            have v := lo i i0 i1 ip
            have u := h3 i i0 i1 ip
            refine ⟨by have := u.1; omega, fun j j0 j1 jp n => ?_⟩
            rw [c4] at j1
            by_cases o : j = m
            · rw [o]
              omega
            · have y2 := oth j o
              rw [y2.1] at jp
              have u2 := u.2 j j0 j1 jp n
              omega
        refine ⟨rfl, plr_s (m := m) hP (by omega) (by omega) (fun _ _ => ⟨shm_c g.1 (fun t => (f2 449 m t rfl).trans (f1 449 m t rfl)) (fun t => (f2 448 m t rfl).trans (f1 448 m t rfl)) (fun t _ _ => (f2 239 0 _ rfl).trans (f1 239 0 _ rfl)) (fun x _ _ => (f2 240 0 _ rfl).trans (f1 240 0 _ rfl)), Or.inr (Or.inr hpc)⟩) (fun j j0 j1 nj => ⟨khm_t ⟨fun k i d => a9 k j i nj (dk_n d).1 (dk_n d).2.1, ⟨f1 102 j 0 rfl, f1 102 j 6 rfl, (oth j nj).1⟩, ⟨a9 103 j 0 nj (by decide) (by decide), (oth j nj).2.1, a9 103 j 15 nj (by decide) (by decide), a9 103 j 17 nj (by decide) (by decide)⟩, fun w => f1 401 _ w rfl, fun q i _ _ => a8 _ i (lo j j0 j1 q).1⟩ (kH j), kqm_t (kR j) ⟨b2 j nj, rw_k (fun k x c => by rcases c with rfl | rfl | rfl | rfl <;> exact f2 _ 0 x rfl) (fun x => f2 252 0 x rfl) (f2 253 0 j rfl) (f2 254 0 j rfl), f2 254 0 j rfl, f2 256 0 j rfl⟩⟩) (fun j j0 j1 => ?_), ldr_k hL1 ⟨f2 104 0 4 rfl, f2 109 0 15 rfl, f2 191 0 0 rfl, v4⟩ (fun i => ⟨f2 102 i 10 rfl, f2 103 i 14 rfl, f2 103 i 16 rfl⟩)⟩
        have w := rpe_ (b2 j (by omega))
        have y1 : T1 236 0 j = T 236 0 j := f1 236 0 j rfl
        have y2 : T1 237 0 j = T 237 0 j := f1 237 0 j rfl
        omega
