/-- a walkover -/
theorem pl_walk {T T1 T2 : Zt} {N m s x1 x2 : Int} (hI : IC_ N T) (hP : PLR_ T) (hL : LDR_ T) (hX : TXR_ T) (hM : MAR_ T) (hD : DAR_ T) (hN : CNR_ T) (f1 : fr_ [(102, [6])] T T1) (d1 : ((x1 = -2 ∧ ¬ (0 ≤ m ∧ m < T 106 0 4) ∧ T = T1) ∨ ((0 ≤ m ∧ m < T 106 0 4) ∧ ((x1 = -3 ∧ ¬ (0 ≤ s ∧ s ≤ 1) ∧ T = T1) ∨ ((0 ≤ s ∧ s ≤ 1) ∧ ((x1 = -4 ∧ ¬ ((T 102 m 6 = -1 ∧ T 102 m 10 = 0) ∧ T 102 m 5 ≤ T 108 0 13) ∧ T = T1) ∨ (x1 = 1 ∧ ((T 102 m 6 = -1 ∧ T 102 m 10 = 0) ∧ T 102 m 5 ≤ T 108 0 13) ∧ T1 = up_ T 102 m 6 s))))))) (f2 : fr_ [(235, []), (236, []), (237, [])] T1 T2) (d2 : ((FM_ T2 ∧ ZS_ T2 ∧ GX_ T2 (-1)) ∧ ((x2 = -2 ∧ ¬ (0 ≤ m ∧ m < T1 111 0 29) ∧ T1 = T2) ∨ ((0 ≤ m ∧ m < T1 111 0 29) ∧ ((x2 = -3 ∧ ¬ (0 ≤ s ∧ s ≤ 1) ∧ T1 = T2) ∨ ((0 ≤ s ∧ s ≤ 1) ∧ ((x2 = -4 ∧ ¬ (T1 235 0 m = 0 ∧ T1 234 0 m ≤ T1 111 0 3) ∧ T1 = T2) ∨ (x2 = 1 ∧ (T1 235 0 m = 0 ∧ T1 234 0 m ≤ T1 111 0 3) ∧ T2 235 0 m = 3 ∧ (s = 0 → T2 236 0 m = 0 ∧ T2 237 0 m = T1 205 0 (23 * T1 230 0 m + 12)) ∧ (s = 1 → T2 236 0 m = T1 205 0 (23 * T1 230 0 m + 12) ∧ T2 237 0 m = 0) ∧ ro9_ T1 T2 m)))))))) : x1 = x2 ∧ PLR_ T2 ∧ LDR_ T2 := by
  have c4 : T1 106 0 4 = T 106 0 4 := f1 106 0 4 rfl
  have c29 : T1 111 0 29 = T 111 0 29 := f1 111 0 29 rfl
  have v4 : T2 106 0 4 = T1 106 0 4 := f2 106 0 4 rfl
  have v29 : T2 111 0 29 = T1 111 0 29 := f2 111 0 29 rfl
  have mm := hM.1
  have kR : ∀ j, KRM_ T T1 j := fun j => kqm_s (ks_f f1 (by decide +kernel))
  have kH : ∀ j, KHM_ T1 T2 j := fun j => khm_s (ks_f f2 (by decide +kernel))
  have hL2 : LDR_ T2 := ldr_k hL ⟨(f2 104 0 4 rfl).trans (f1 104 0 4 rfl), (f2 109 0 15 rfl).trans (f1 109 0 15 rfl), (f2 191 0 0 rfl).trans (f1 191 0 0 rfl), v4.trans c4⟩ (fun i => ⟨(f2 102 i 10 rfl).trans (f1 102 i 10 rfl), (f2 103 i 14 rfl).trans (f1 103 i 14 rfl), (f2 103 i 16 rfl).trans (f1 103 i 16 rfl)⟩)
  obtain ⟨-, d2⟩ := d2
  rcases d1 with ⟨rfl, hn, rfl⟩ | ⟨hm, d1⟩
  · rcases d2 with ⟨rfl, -, rfl⟩ | ⟨hm2, -⟩
    · exact ⟨rfl, hP, hL⟩
    · exfalso; omega
  · have g := hP.1 m hm.1 hm.2
    obtain ⟨-, d2⟩ := d2.resolve_left (fun z => z.2.1 (by omega))
    rcases d1 with ⟨rfl, hn, rfl⟩ | ⟨hs, d1⟩
    · rcases d2 with ⟨rfl, -, rfl⟩ | ⟨y, -⟩
      · exact ⟨rfl, hP, hL⟩
      · exact absurd y hn
    · obtain ⟨-, d2⟩ := d2.resolve_left (fun z => z.2.1 hs)
      have hc : 0 ≤ T 102 m 0 ∧ T 102 m 0 < T 106 0 2 := (hI.1.2.1 m hm.1 hm.2).2
      have e230 : T1 230 0 m = T 102 m 0 := (f1 230 0 m rfl).trans (hM.2 m hm.1 hm.2).1.symm
      have e12 : T1 205 0 (23 * T1 230 0 m + 12) = T 401 (T 102 m 0) 12 := by
        rw [e230, f1 205 0 (23 * T 102 m 0 + 12) rfl]
        exact ((hX.2.2.2.2 _ hc.1 hc.2).1 12 (by decide) (by decide)).symm
      have t2 : T1 235 0 m = T 235 0 m := f1 235 0 m rfl
      have t3 : T1 234 0 m = T 234 0 m := f1 234 0 m rfl
      have t4 : T1 111 0 3 = T 111 0 3 := f1 111 0 3 rfl
      have t5 := hD m hm.1 hm.2
      have t6 := hN.2.2.2
      have t7 := pm_0 g.2
      rw [e12] at d2
      rcases d1 with ⟨rfl, a1, rfl⟩ | ⟨rfl, a1, a2⟩
      · rcases d2 with ⟨rfl, -, rfl⟩ | ⟨-, y, -⟩
        · exact ⟨rfl, hP, hL⟩
        · exfalso; omega
      · rcases d2 with ⟨-, y, -⟩ | ⟨rfl, -, b1, b2, b3, b4⟩
        · exfalso; omega
        · have pa : PAA_ T m := by
            rcases g.2 with y | y | y
            · exact y
            · exfalso; have := y.2.1; omega
            · exact absurd a1.1.2 y.2.1
          have e6 : T2 102 m 6 = s := (f2 102 m 6 rfl).trans (up_f a2)
          have q10 : T2 102 m 10 = 0 := (f2 102 m 10 rfl).trans ((f1 102 m 10 rfl).trans pa.2.1)
          have q54 : T2 254 0 m = 0 := (f2 254 0 m rfl).trans ((f1 254 0 m rfl).trans pa.2.2.2.2.2.1)
          have q56 : T2 256 0 m = 0 := (f2 256 0 m rfl).trans ((f1 256 0 m rfl).trans pa.2.2.2.2.2.2)
          have e0 : T2 102 m 0 = T 102 m 0 := (f2 102 m 0 rfl).trans (f1 102 m 0 rfl)
          have e401 : ∀ i w, T2 401 i w = T 401 i w := fun i w => (f2 401 i w rfl).trans (f1 401 i w rfl)
          have hpb : PBB_ T2 m := by
            refine ⟨q10, b1, ?_, q54, q56⟩
            rw [e0, e401, e6]
            rcases (by omega : s = 0 ∨ s = 1) with c | c
            · exact Or.inl ⟨c, b2 c⟩
            · exact Or.inr ⟨c, b3 c⟩
          refine ⟨rfl, plr_s (m := m) hP (by omega) (by omega) (fun _ _ => ⟨shm_c g.1 (fun t => (f2 449 m t rfl).trans (f1 449 m t rfl)) (fun t => (f2 448 m t rfl).trans (f1 448 m t rfl)) (fun t _ _ => (f2 239 0 _ rfl).trans (f1 239 0 _ rfl)) (fun x _ _ => (f2 240 0 _ rfl).trans (f1 240 0 _ rfl)), Or.inr (Or.inl hpb)⟩) (fun j j0 j1 nj => ⟨khm_t ⟨fun k i d => up_g a2 (fun z => nj z.2.1), ⟨f1 102 j 0 rfl, up_g a2 (fun z => nj z.2.1), f1 102 j 10 rfl⟩, ⟨f1 103 j 0 rfl, f1 103 j 14 rfl, f1 103 j 15 rfl, f1 103 j 17 rfl⟩, fun w => f1 401 _ w rfl, fun q i _ _ => f1 190 _ i rfl⟩ (kH j), kqm_t (kR j) ⟨b4 j nj, rw_k (fun k x c => by rcases c with rfl | rfl | rfl | rfl <;> exact f2 _ 0 x rfl) (fun x => f2 252 0 x rfl) (f2 253 0 j rfl) (f2 254 0 j rfl), f2 254 0 j rfl, f2 256 0 j rfl⟩⟩) (fun j j0 j1 => ?_), hL2⟩
          have w := rpe_ (b4 j (by omega))
          have y1 : T1 236 0 j = T 236 0 j := f1 236 0 j rfl
          have y2 : T1 237 0 j = T 237 0 j := f1 237 0 j rfl
          omega
