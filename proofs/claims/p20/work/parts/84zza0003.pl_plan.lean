/-- a plan -/
theorem pl_plan {T T1 T2 : Zt} {N c : Int} (hI : IC_ N T) (hR : IR_ T) (hP : PLR_ T) (hL : LDR_ T) (hM : MAR_ T) (hD : DAR_ T) (hC : CLM_ T) (i2 : IC_ (N + 1) T2) (j2 : IR_ T2) (hE2 : ENR_ T2) (hN2 : CNR_ T2) (c4 : T 106 0 2 ≤ 4) (cl3_ : ∀ i, 0 ≤ T2 102 i 3 ∧ T2 102 i 3 < 12) (cl4_ : ∀ i, 0 ≤ T2 102 i 4 ∧ T2 102 i 4 < 12) (h40 : T2 111 0 29 ≤ 400) (sk : SQ8_ T T1) (g : (T1 = T ∧ T2 = T1) ∨ ((0 ≤ c ∧ c < T 106 0 2) ∧ SJ_ T T1 c ∧ PQ9_ T1 T2 c ∧ ∃ l, AP9_ T T1 c l ∧ AR9_ T1 T2 c l)) (f2 : fr_ [(230, []), (231, []), (232, []), (233, []), (234, []), (235, []), (238, []), (253, []), (255, []), (111, [29]), (209, []), (210, []), (211, [])] T1 T2) : PLR_ T2 ∧ LDR_ T2 ∧ DAR_ T2 ∧ CLM_ T2 := by
  rcases g with ⟨rfl, rfl⟩ | ⟨hc, ⟨-, f1, od, -, ⟨s6, s7, s8⟩, oc⟩, ⟨⟨am1, am2, am3, am4⟩, -, -, -, -, -⟩, l, ⟨p1, p2⟩, q1, q2⟩
  · exact ⟨hP, hL, hD, hC⟩
  · have c29 : T1 111 0 29 = T 111 0 29 := f1 111 0 29 rfl
    have v4 : T2 106 0 4 = T1 106 0 4 := f2 106 0 4 rfl
    have mm := hM.1
    have kH : ∀ j, KHM_ T1 T2 j := fun j => khm_s (ks_f f2 (by decide +kernel))
    have new : ∀ m, T 106 0 4 ≤ m → m < T1 106 0 4 → ∃ (k : Nat) (q : Fx9_), m = T 106 0 4 + (k : Int) ∧ l[k]? = some q := fun m a b => by
      have hk : (m - T 106 0 4).toNat < l.length := by omega
      exact ⟨(m - T 106 0 4).toNat, l[(m - T 106 0 4).toNat], by omega, List.getElem?_eq_getElem hk⟩
    have old : ∀ j, 0 ≤ j → j < T 106 0 4 → KHM_ T T2 j ∧ KRM_ T T2 j := fun j j0 j1 => by
      refine ⟨khm_t ⟨fun K i d => ?_, ⟨od j 0 j1, od j 6 j1, od j 10 j1⟩, ⟨f1 103 j 0 rfl, f1 103 j 14 rfl, f1 103 j 15 rfl, f1 103 j 17 rfl⟩, fun w => f1 401 _ w rfl, fun _ i _ _ => f1 190 _ i rfl⟩ (kH j), kqm_t (kqm_s (ks_f f1 (by decide +kernel))) ⟨?_, rw_k (fun k x c => by rcases c with rfl | rfl | rfl | rfl <;> exact f2 _ 0 x rfl) (fun x => f2 252 0 x rfl) (am2 j (by omega)).2.2.2.2.2.2.2.1 (f2 254 0 j rfl), f2 254 0 j rfl, f2 256 0 j rfl⟩⟩
      · rcases dk_c d with rfl | rfl | rfl | rfl | rfl | rfl | rfl | rfl | rfl | rfl | ⟨rfl, _⟩
        · exact sk.1 448 j i (Or.inl rfl) j1
        · exact sk.1 449 j i (Or.inr rfl) j1
        all_goals exact f1 _ j i rfl
      · funext K i
        by_cases y : dm_ K i = true
        · rw [rp_d y, rp_d y]
          rcases dm_c y with ⟨z1, z2, z3, z4, z5⟩ | ⟨z1, z2, z3, z4, z5⟩ | ⟨z1, z2, z3, z4, z5⟩ | ⟨z1, z2, z3, z4, z5⟩ | ⟨z1, z2, z3, z4, z5⟩ | ⟨z1, z2, z3, z4, z5⟩ | ⟨z1, z2, z3, z4, z5⟩ | ⟨z1, z2, z3, z4, z5⟩ | ⟨z1, z2, z3, z4, z5⟩ | ⟨z1, z2, z3, z4, z5⟩ | ⟨z1, z2, z4, z5⟩ | ⟨z1, z2, z4, z5⟩ | ⟨z1, z2, z4, z5⟩ | ⟨z1, z2, z4, z5⟩ | ⟨z1, z2, z4, z5⟩ <;> rw [z4, z5] <;> first | exact f2 _ 0 _ rfl | exact (am2 j (by omega)).2.2.2.2.2.1
        · rw [rp_z y, rp_z y]
    refine ⟨⟨fun j j0 j1 => ?_, fun j j0 j1 => ?_⟩, ?_, fun j j0 j1 => ?_, fun j j0 j1 => ?_⟩
    · by_cases z : j < T 106 0 4
      · have g := hP.1 j j0 z
        have k := old j j0 z
        exact ⟨shm_k g.1 k.1 k.2, pm_k g.2 k.1 k.2⟩
      · obtain ⟨k, q, e, hq⟩ := new j (by omega) (by omega)
        have y := p2 k q hq
        have w := q2 k q hq
        rw [show T1 111 0 29 + (k : Int) = j by omega] at w
        rw [← e] at y
        have s9 := hR.2.2.2.2.2.2.1 j
        have e49 : ∀ t, 0 ≤ t → T2 449 j t = 0 := fun t t0 => (f2 449 j t rfl).trans (sk.2 j t (by omega) (by omega) t0)
        have e39 : ∀ t, 0 ≤ t → t ≤ 1 → T2 239 0 (2 * j + t) = 0 := fun t t0 t1 => (f2 239 0 _ rfl).trans ((f1 239 0 _ rfl).trans ((s9 t (by omega) (by omega) t0 t1).2 (by omega)))
        have rz := hR.2.2.2.2.2.2.2.2.2.1 j (by omega) (by omega)
        have hz := hP.2 j (by omega) (by omega)
        refine ⟨⟨fun t t0 t1 => ?_, fun t x t0 t1 x0 x1 => ?_, fun t x y t0 t1 x0 x1 y0 y1 e => ?_⟩, Or.inl ⟨?_, ?_, w.2.2.2.2.2.1, ?_, ?_, ?_, ?_⟩⟩
        · rw [e39 t t0 t1, e49 t t0]
          exact ⟨rfl, by decide, by decide⟩
        · rw [e49 t t0] at x1
          exfalso; omega
        · rw [e49 t t0] at x1
          exfalso; omega
        · rw [f2 102 j 6 rfl]; exact y.2.2.2.2.2.1
        · rw [f2 102 j 10 rfl]; exact y.2.2.2.2.2.2.2
        · exact (f2 236 0 j rfl).trans ((f1 236 0 j rfl).trans hz.1)
        · exact (f2 237 0 j rfl).trans ((f1 237 0 j rfl).trans hz.2)
        · exact (f2 254 0 j rfl).trans ((f1 254 0 j rfl).trans rz.1)
        · exact (f2 256 0 j rfl).trans ((f1 256 0 j rfl).trans rz.2)
    · have hz := hP.2 j (by omega) j1
      have y1 : T2 236 0 j = T 236 0 j := (f2 236 0 j rfl).trans (f1 236 0 j rfl)
      have y2 : T2 237 0 j = T 237 0 j := (f2 237 0 j rfl).trans (f1 237 0 j rfl)
      omega
    · have e10 : ∀ j, 0 ≤ j → j < T2 106 0 4 → T2 102 j 10 ≠ 0 → j < T 106 0 4 ∧ T 102 j 10 ≠ 0 := fun j j0 j1 jp => by
        by_cases z : j < T 106 0 4
        · rw [f2 102 j 10 rfl, od j 10 z] at jp
          exact ⟨z, jp⟩
        · exfalso
          obtain ⟨k, q, e, hq⟩ := new j (by omega) (by omega)
          have y := p2 k q hq
          rw [← e] at y
          rw [f2 102 j 10 rfl] at jp
          exact jp y.2.2.2.2.2.2.2
      have e14 : ∀ j, T2 103 j 14 = T 103 j 14 := fun j => (f2 103 j 14 rfl).trans (f1 103 j 14 rfl)
      have e16 : ∀ j, T2 103 j 16 = T 103 j 16 := fun j => (f2 103 j 16 rfl).trans (f1 103 j 16 rfl)
      have e44 : T2 104 0 4 = T 104 0 4 := (f2 104 0 4 rfl).trans (f1 104 0 4 rfl)
      have e15 : T2 109 0 15 = T 109 0 15 := (f2 109 0 15 rfl).trans (f1 109 0 15 rfl)
      have e91 : T2 191 0 0 = T 191 0 0 := (f2 191 0 0 rfl).trans (f1 191 0 0 rfl)
      refine ⟨by have := hL.1; omega, fun i i0 i1 ip => ?_⟩
      have y := e10 i i0 i1 ip
      have u := hL.2 i i0 y.1 y.2
      rw [e14, e16, e44, e15]
      refine ⟨u.1, fun j j0 j1 jp n => ?_⟩
      have y2 := e10 j j0 j1 jp
      rw [e14, e16]
      exact u.2 j j0 y2.1 y2.2 n
    · by_cases z : j < T 106 0 4
      · rw [f2 102 j 5 rfl, od j 5 z, (am2 j (by omega)).2.2.2.2.1, f1 234 0 j rfl]
        exact hD j j0 z
      · obtain ⟨k, q, e, hq⟩ := new j (by omega) (by omega)
        have y := p2 k q hq
        have w := q2 k q hq
        rw [show T1 111 0 29 + (k : Int) = j by omega] at w
        rw [← e] at y
        rw [f2 102 j 5 rfl, y.2.2.2.2.1, w.2.2.2.2.1]
    · have e108 : T2 108 0 2 = T 108 0 2 := (f2 108 0 2 rfl).trans (f1 108 0 2 rfl)
      by_cases z : j < T 106 0 4
      · rw [f2 102 j 3 rfl, f2 102 j 4 rfl, od j 3 z, od j 4 z, e108]
        exact hC j j0 z
      · have b2 : T2 106 0 2 = T 106 0 2 := (f2 106 0 2 rfl).trans (f1 106 0 2 rfl)
        have h7 : T2 100 c 7 = T1 100 c 7 := f2 100 c 7 rfl
        have h8 : T2 100 c 8 = T1 100 c 8 := f2 100 c 8 rfl
        have ks := i2.1.2.2.2.2.1 c hc.1 (by omega) j (by omega) (by omega)
        have en := hE2.1 c hc.1 (by omega)
        have ee := (j2.2.2.2.1 c hc.1 (by omega)).1
        have n2 := hN2.1
        have key : ∀ b, 0 ≤ b → b < 12 → 0 ≤ T2 404 c b → b < T2 108 0 2 := fun b b0 b1 s => by
          rcases en.2.2.2.2.2 b b0 b1 with y | ⟨y1, y2, y3⟩
          · omega
          · have u := en.2.2.2.2.1 _ y1 y2
            have v := ee _ y1 (by have := en.1; omega)
            rw [← u, y3] at v
            omega
        exact ⟨key _ (cl3_ j).1 (cl3_ j).2 ks.2.1, key _ (cl4_ j).1 (cl4_ j).2 ks.2.2⟩
