-- the plays of both sides alike: events and reviews
/-- an event -/
theorem pl_event {T T1 T2 : Zt} {N m k s p q x1 x2 : Int} (hI : IC_ N T) (hR : IR_ T) (hb5 : T 106 0 5 ≤ 3000) (hP : PLR_ T) (hL : LDR_ T) (hC : RCR_ T) (hX : TXR_ T) (hM : MAR_ T) (i2 : IC_ (N + 1) T2) (j2 : IR_ T2) (f1 : fr_ [(106, [5]), (103, [3, 4, 5, 14, 15]), (466, []), (467, []), (468, []), (472, []), (471, []), (469, []), (470, []), (473, []), (190, []), (191, [0])] T T1) (d1 : (LP_ (N + 1) T1 ∧ lh_ T T1 ∧ T1 191 0 0 ≤ T 191 0 0 + 600) ∧ ((x1 = -2 ∧ ¬ (0 ≤ m ∧ m < T 106 0 4) ∧ T = T1) ∨ ((0 ≤ m ∧ m < T 106 0 4) ∧ ((T 102 m 10 = 0 ∧ x1 = -11 ∧ T = T1) ∨ (¬ (T 102 m 10 = 0) ∧ ((lw9_ (rlm_ (fun w => T 401 (T 103 m 0) w)) (rs9_ T m) k s p q ≠ 0 ∧ x1 = -10 - lw9_ (rlm_ (fun w => T 401 (T 103 m 0) w)) (rs9_ T m) k s p q ∧ T = T1) ∨ (lw9_ (rlm_ (fun w => T 401 (T 103 m 0) w)) (rs9_ T m) k s p q = 0 ∧ 3000 ≤ T 106 0 5 ∧ x1 = -5 ∧ T = T1) ∨ (lw9_ (rlm_ (fun w => T 401 (T 103 m 0) w)) (rs9_ T m) k s p q = 0 ∧ T 106 0 5 < 3000 ∧ T1 106 0 5 = T 106 0 5 + 1 ∧ rs9_ T1 m = ca9_ (rlm_ (fun w => T 401 (T 103 m 0) w)) (rs9_ T m) k s p q ∧ hr9_ T1 (T1 103 m 14) (T1 103 m 15).toNat = hr9_ T (T 103 m 14) (T 103 m 15).toNat ++ [(k, s, p, q)] ∧ x1 = T1 103 m 15 ∧ T1 103 m 15 = T 103 m 15 + 1 ∧ T1 103 m 17 = T 103 m 17 ∧ OMH_ T T1 m))))))) (f2 : fr_ [(111, [47]), (248, []), (249, []), (250, []), (251, []), (252, []), (253, []), (254, []), (256, []), (244, []), (241, []), (242, []), (243, []), (245, []), (246, []), (236, []), (237, []), (235, [])] T1 T2) (d2 : (FM_ T2 ∧ RX_ T2 [] ∧ ZS_ T2 ∧ GX_ T2 (-1) ∧ (∀ j, j ≠ m ∨ T1 111 0 29 ≤ j → T2 254 0 j = T1 254 0 j ∧ T2 256 0 j = T1 256 0 j) ∧ ((x2 = -2 ∧ ¬ (0 ≤ m ∧ m < T1 111 0 29) ∧ T1 = T2) ∨ ((0 ≤ m ∧ m < T1 111 0 29) ∧ ((lwR_ (rlm_ (fun w => T1 205 0 (23 * T1 230 0 m + w))) (rp9_ T1 m) k s p q ≠ 0 ∧ x2 = -10 - lwR_ (rlm_ (fun w => T1 205 0 (23 * T1 230 0 m + w))) (rp9_ T1 m) k s p q ∧ T1 = T2) ∨ (lwR_ (rlm_ (fun w => T1 205 0 (23 * T1 230 0 m + w))) (rp9_ T1 m) k s p q = 0 ∧ T1 111 0 47 = 3000 ∧ x2 = -5 ∧ T1 = T2) ∨ (lwR_ (rlm_ (fun w => T1 205 0 (23 * T1 230 0 m + w))) (rp9_ T1 m) k s p q = 0 ∧ T1 111 0 47 ≠ 3000 ∧ T2 111 0 47 = T1 111 0 47 + 1 ∧ rp9_ T2 m = plR_ (rlm_ (fun w => T1 205 0 (23 * T1 230 0 m + w))) (rp9_ T1 m) m k s p q ∧ rw9_ T2 m = rw9_ T1 m ++ [(k, s, p, q)] ∧ x2 = T2 254 0 m ∧ T2 256 0 m = T1 256 0 m ∧ OMR_ T1 T2 m)))))) : x1 = x2 ∧ PLR_ T2 ∧ LDR_ T2 ∧ RCR_ T2 := by
  have c4 : T1 106 0 4 = T 106 0 4 := f1 106 0 4 rfl
  have c29 : T1 111 0 29 = T 111 0 29 := f1 111 0 29 rfl
  have c47 : T1 111 0 47 = T 111 0 47 := f1 111 0 47 rfl
  have v4 : T2 106 0 4 = T1 106 0 4 := f2 106 0 4 rfl
  have v5 : T2 106 0 5 = T1 106 0 5 := f2 106 0 5 rfl
  have v29 : T2 111 0 29 = T1 111 0 29 := f2 111 0 29 rfl
  have mm := hM.1
  have h5 : T 106 0 5 = T 111 0 47 := hC
  have kR : ∀ j, KRM_ T T1 j := fun j => kqm_s (ks_f f1 (by decide +kernel))
  have kH : ∀ j, KHM_ T1 T2 j := fun j => khm_s (ks_f f2 (by decide +kernel))
  obtain ⟨⟨-, lh, -⟩, d1⟩ := d1
  obtain ⟨-, -, -, -, -, d2⟩ := d2
  rcases d1 with ⟨rfl, hn, rfl⟩ | ⟨hm, d1⟩
  · rcases d2 with ⟨rfl, -, rfl⟩ | ⟨hm2, -⟩
    · exact ⟨rfl, hP, hL, hC⟩
    · exfalso; omega
  · have g := hP.1 m hm.1 hm.2
    obtain ⟨-, d2⟩ := d2.resolve_left (fun z => z.2.1 (by omega))
    have hc : 0 ≤ T 102 m 0 ∧ T 102 m 0 < T 106 0 2 := (hI.1.2.1 m hm.1 hm.2).2
    have r2 : rlm_ (fun w => T1 205 0 (23 * T1 230 0 m + w)) = ruH_ T m := Eq.trans (rlm_e (fun w _ _ => by
      show T1 205 0 (23 * T1 230 0 m + w) = T 205 0 (23 * T 230 0 m + w)
      rw [f1 230 0 m rfl, f1 205 0 (23 * T 230 0 m + w) rfl])) (ru_q hX (hM.2 m hm.1 hm.2).1 hc)
    rw [r2, (kR m).1] at d2
    rcases d1 with ⟨h0, rfl, rfl⟩ | ⟨h0, d1⟩
    · have l1 : lwR_ (ruH_ T m) (rp9_ T m) k s p q = 1 := lwR_1 (by
        rw [rp_35]
        rcases g.2 with z | z | z
        · have := z.2.2.1; omega
        · have := z.2.1; omega
        · exact absurd h0 z.2.1)
      rw [l1] at d2
      rcases d2 with ⟨-, e, rfl⟩ | ⟨z, -⟩ | ⟨z, -⟩
      · exact ⟨by omega, hP, hL, hC⟩
      · exact absurd z (by decide)
      · exact absurd z (by decide)
    · have gc : PCC_ T m := by
        rcases g.2 with z | z | z
        · exact absurd z.2.1 h0
        · exact absurd z.1 h0
        · exact z
      obtain ⟨p1, p2, p3, ⟨n, pn, ps⟩, p5, p6, p7, p8⟩ := gc
      have lp := hI.2.2.2.1 m hm.1 hm.2 h0
      have l1 := lz_b lp.2.1
      have l2 := lz_b lp.2.2.1
      have l3 := lp.1
      have rb := rb_m hR.2.1 hX hc
      have r1 : rlm_ (fun w => T 401 (T 103 m 0) w) = ruH_ T m := by rw [p3]
      have el : lwR_ (ruH_ T m) (rp9_ T m) k s p q = lw9_ (ruH_ T m) (rs9_ T m) k s p q := lw_q ps.1 ps.2.1 (fun t a b => ps.2.2.2.2.2.2.2.2.2 t a b)
      rw [r1] at d1
      rw [el] at d2
      rcases d1 with ⟨a1, e1, rfl⟩ | ⟨a1, a2, e1, rfl⟩ | ⟨a1, a2, a3, a4, a5, e1, a6, a7, a8⟩
      · rcases d2 with ⟨-, e2, rfl⟩ | ⟨z, -⟩ | ⟨z, -⟩
        · exact ⟨by omega, hP, hL, hC⟩
        · exact absurd z a1
        · exact absurd z a1
      · rcases d2 with ⟨z, -⟩ | ⟨-, z, e2, rfl⟩ | ⟨-, z, -⟩
        · exact absurd a1 z
        · exact ⟨by omega, hP, hL, hC⟩
        · exfalso; omega
      · rcases d2 with ⟨z, -⟩ | ⟨-, z, -⟩ | ⟨-, b1, b2, b3, b4, e2, b5, b6⟩
        · exact absurd a1 z
        · exfalso; omega
        · have h3 := (lw_0 a1).1
          have es : rs9_ T2 m = ca9_ (ruH_ T m) (rs9_ T m) k s p q := (rs_n (kH m).1).trans a4
          have e0 : T2 102 m 0 = T 102 m 0 := (f2 102 m 0 rfl).trans (f1 102 m 0 rfl)
          have e401 : ∀ i w, T2 401 i w = T 401 i w := fun i w => (f2 401 i w rfl).trans (f1 401 i w rfl)
          have er : ruH_ T2 m = ruH_ T m := rlm_e (fun w _ _ => by
            show T2 401 (T2 102 m 0) w = T 401 (T 102 m 0) w
            rw [e0, e401])
          have q15 : T2 103 m 15 = T1 103 m 15 := f2 103 m 15 rfl
          have q17 : T2 103 m 17 = T1 103 m 17 := f2 103 m 17 rfl
          have hpc : PCC_ T2 m := by
            refine ⟨(f2 102 m 6 rfl).trans ((f1 102 m 6 rfl).trans p1), ?_, ?_, ⟨n + 3, by omega, ?_⟩, ?_, fun t t0 t1 => ?_, ?_, ?_⟩
            · rw [f2 102 m 10 rfl, f1 102 m 10 rfl]; exact p2
            · rw [f2 103 m 0 rfl, f1 103 m 0 rfl, e0]; exact p3
            · rw [er, b3, es]
              exact si_ca ps rb a1 (fn_t p5 h3) (by omega)
            · rw [es]
              exact fn_ca rb p5 a1
            · rw [e0, e401, f2 449 m t rfl, f1 449 m t rfl]
              exact p6 t t0 t1
            · rw [b4, (kR m).2.1, ← p7, ← a5, f2 103 m 14 rfl, f2 103 m 15 rfl]
              exact hrw_e (fun j _ _ => f2 190 _ j rfl)
            · rw [q17, a7, p8, b5, (kR m).2.2.2]
          have lq := (i2.2.2.2.1 m hm.1 (by omega) hpc.2.1).1
          have ln := pcc_n hpc lq.1 (rx_n j2.2.2.2.2.2.2.2.2.1 hm.1 (by omega))
          have hL1 : LDR_ T1 := ldr_o hL hI.2.2.2.1 hm h0 a8 c4 (f1 102 m 10 rfl) (f1 104 0 4 rfl) (f1 109 0 15 rfl) lh.2 (Or.inr (f1 103 m 16 rfl))
          refine ⟨by omega, plr_s (m := m) hP (by omega) (by omega) (fun _ _ => ⟨shm_c g.1 (fun t => (f2 449 m t rfl).trans (f1 449 m t rfl)) (fun t => (f2 448 m t rfl).trans (f1 448 m t rfl)) (fun t _ _ => (f2 239 0 _ rfl).trans (f1 239 0 _ rfl)) (fun x _ _ => (f2 240 0 _ rfl).trans (f1 240 0 _ rfl)), Or.inr (Or.inr hpc)⟩) (fun j j0 j1 nj => ⟨khm_t (khm_o hL hI.2.2.2.1 hm h0 a8 j0 j1 nj (fun i w => f1 401 i w rfl)) (kH j), kqm_t (kR j) (kqm_o b6 nj j0 (by omega))⟩) (fun j j0 j1 => ?_), ldr_k hL1 ⟨f2 104 0 4 rfl, f2 109 0 15 rfl, f2 191 0 0 rfl, v4⟩ (fun i => ⟨f2 102 i 10 rfl, f2 103 i 14 rfl, f2 103 i 16 rfl⟩), ?_⟩
          · have y := rpe_ (b6.1 j (by omega))
            have y1 : T1 236 0 j = T 236 0 j := f1 236 0 j rfl
            have y2 : T1 237 0 j = T 237 0 j := f1 237 0 j rfl
            omega
          · show T2 106 0 5 = T2 111 0 47
            omega
