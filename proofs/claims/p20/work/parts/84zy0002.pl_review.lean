/-- kinds and sides, told by both -/
theorem ev_kk {r k s : Int} : ((k = 0 ∨ (0 ≤ s ∧ s ≤ 1)) ∧ ((r = 0 ∧ 0 ≤ k ∧ k ≤ 5) ∨ (r = 1 ∧ (k = 1 ∨ k = 5)) ∨ (r = 2 ∧ (k = 1 ∨ k = 6)) ∨ (¬ r = 0 ∧ ¬ r = 1 ∧ ¬ r = 2 ∧ 1 ≤ k ∧ k ≤ 4))) ↔ (((r = 0 ∧ 0 ≤ k ∧ k ≤ 5) ∨ (r = 1 ∧ (k = 1 ∨ k = 5)) ∨ (r = 2 ∧ (k = 1 ∨ k = 6)) ∨ (¬ r = 0 ∧ ¬ r = 1 ∧ ¬ r = 2 ∧ 1 ≤ k ∧ k ≤ 4)) ∧ ((r = 0 ∧ k = 0) ∨ (0 ≤ s ∧ s ≤ 1))) := by
  constructor
  · rintro ⟨a, b⟩
    refine ⟨b, ?_⟩
    rcases a with a | a
    · refine Or.inl ⟨?_, a⟩
      rcases b with b | b | b | b
      · exact b.1
      · omega
      · omega
      · omega
    · exact Or.inr a
  · rintro ⟨b, a⟩
    refine ⟨?_, b⟩
    rcases a with a | a
    · exact Or.inl a.2
    · exact Or.inr a
/-- a review -/
theorem pl_review {T T1 T2 : Zt} {N m i k s p q x1 x2 : Int} (hI : IC_ N T) (hR : IR_ T) (hP : PLR_ T) (hL : LDR_ T) (hC : RCR_ T) (hX : TXR_ T) (hM : MAR_ T) (i2 : IC_ (N + 1) T2) (j2 : IR_ T2) (f1 : fr_ [(103, [3, 4, 5, 15, 16, 17]), (466, []), (467, []), (468, []), (469, []), (472, []), (473, []), (470, []), (471, []), (190, []), (191, [0])] T T1) (d1 : (LP_ (N + 1) T1 ∧ lh_ T T1 ∧ T1 191 0 0 ≤ T 191 0 0 + 600) ∧ ((x1 = -2 ∧ ¬ ((0 ≤ m ∧ m < T 106 0 4) ∧ ¬ (T 102 m 10 = 0) ∧ 0 ≤ i ∧ i < T 103 m 15) ∧ T = T1) ∨ (((0 ≤ m ∧ m < T 106 0 4) ∧ ¬ (T 102 m 10 = 0) ∧ 0 ≤ i ∧ i < T 103 m 15) ∧ OMH_ T T1 m ∧ ((k = -1 ∧ RNH_ (rlm_ (fun w => T 401 (T 103 m 0) w)) m x1 T T1 ((hr9_ T (T 103 m 14) (T 103 m 15).toNat).eraseIdx i.toNat)) ∨ (k ≠ -1 ∧ ((¬ ((k = 0 ∨ (0 ≤ s ∧ s ≤ 1)) ∧ (((rlm_ (fun w => T 401 (T 103 m 0) w)) 0 = 0 ∧ 0 ≤ k ∧ k ≤ 5) ∨ ((rlm_ (fun w => T 401 (T 103 m 0) w)) 0 = 1 ∧ (k = 1 ∨ k = 5)) ∨ ((rlm_ (fun w => T 401 (T 103 m 0) w)) 0 = 2 ∧ (k = 1 ∨ k = 6)) ∨ (¬ (rlm_ (fun w => T 401 (T 103 m 0) w)) 0 = 0 ∧ ¬ (rlm_ (fun w => T 401 (T 103 m 0) w)) 0 = 1 ∧ ¬ (rlm_ (fun w => T 401 (T 103 m 0) w)) 0 = 2 ∧ 1 ≤ k ∧ k ≤ 4))) ∧ x1 = -12 ∧ T = T1) ∨ (((k = 0 ∨ (0 ≤ s ∧ s ≤ 1)) ∧ (((rlm_ (fun w => T 401 (T 103 m 0) w)) 0 = 0 ∧ 0 ≤ k ∧ k ≤ 5) ∨ ((rlm_ (fun w => T 401 (T 103 m 0) w)) 0 = 1 ∧ (k = 1 ∨ k = 5)) ∨ ((rlm_ (fun w => T 401 (T 103 m 0) w)) 0 = 2 ∧ (k = 1 ∨ k = 6)) ∨ (¬ (rlm_ (fun w => T 401 (T 103 m 0) w)) 0 = 0 ∧ ¬ (rlm_ (fun w => T 401 (T 103 m 0) w)) 0 = 1 ∧ ¬ (rlm_ (fun w => T 401 (T 103 m 0) w)) 0 = 2 ∧ 1 ≤ k ∧ k ≤ 4))) ∧ ¬ ((rlm_ (fun w => T 401 (T 103 m 0) w)) 0 ≠ 3 ∨ k ≠ 1 ∨ (1 ≤ q ∧ q ≤ 4)) ∧ x1 = -17 ∧ T = T1) ∨ (((k = 0 ∨ (0 ≤ s ∧ s ≤ 1)) ∧ (((rlm_ (fun w => T 401 (T 103 m 0) w)) 0 = 0 ∧ 0 ≤ k ∧ k ≤ 5) ∨ ((rlm_ (fun w => T 401 (T 103 m 0) w)) 0 = 1 ∧ (k = 1 ∨ k = 5)) ∨ ((rlm_ (fun w => T 401 (T 103 m 0) w)) 0 = 2 ∧ (k = 1 ∨ k = 6)) ∨ (¬ (rlm_ (fun w => T 401 (T 103 m 0) w)) 0 = 0 ∧ ¬ (rlm_ (fun w => T 401 (T 103 m 0) w)) 0 = 1 ∧ ¬ (rlm_ (fun w => T 401 (T 103 m 0) w)) 0 = 2 ∧ 1 ≤ k ∧ k ≤ 4))) ∧ ((rlm_ (fun w => T 401 (T 103 m 0) w)) 0 ≠ 3 ∨ k ≠ 1 ∨ (1 ≤ q ∧ q ≤ 4)) ∧ (hr9_ T (T 103 m 14) (T 103 m 15).toNat)[i.toNat]? = some (k, s, p, q) ∧ x1 = -20 ∧ T = T1) ∨ (((k = 0 ∨ (0 ≤ s ∧ s ≤ 1)) ∧ (((rlm_ (fun w => T 401 (T 103 m 0) w)) 0 = 0 ∧ 0 ≤ k ∧ k ≤ 5) ∨ ((rlm_ (fun w => T 401 (T 103 m 0) w)) 0 = 1 ∧ (k = 1 ∨ k = 5)) ∨ ((rlm_ (fun w => T 401 (T 103 m 0) w)) 0 = 2 ∧ (k = 1 ∨ k = 6)) ∨ (¬ (rlm_ (fun w => T 401 (T 103 m 0) w)) 0 = 0 ∧ ¬ (rlm_ (fun w => T 401 (T 103 m 0) w)) 0 = 1 ∧ ¬ (rlm_ (fun w => T 401 (T 103 m 0) w)) 0 = 2 ∧ 1 ≤ k ∧ k ≤ 4))) ∧ ((rlm_ (fun w => T 401 (T 103 m 0) w)) 0 ≠ 3 ∨ k ≠ 1 ∨ (1 ≤ q ∧ q ≤ 4)) ∧ ¬ ((hr9_ T (T 103 m 14) (T 103 m 15).toNat)[i.toNat]? = some (k, s, p, q)) ∧ RNH_ (rlm_ (fun w => T 401 (T 103 m 0) w)) m x1 T T1 ((hr9_ T (T 103 m 14) (T 103 m 15).toNat).set i.toNat (k, s, p, q))))))))) (f2 : fr_ [(252, []), (253, []), (255, []), (254, []), (256, []), (244, []), (241, []), (242, []), (243, []), (245, []), (246, []), (236, []), (237, []), (235, []), (248, []), (249, []), (250, []), (251, [])] T1 T2) (d2 : (FM_ T2 ∧ RX_ T2 [] ∧ ZS_ T2 ∧ GX_ T2 (-1) ∧ (∀ j, j ≠ m ∨ T1 111 0 29 ≤ j → T2 254 0 j = T1 254 0 j ∧ T2 256 0 j = T1 256 0 j) ∧ ((x2 = -2 ∧ ¬ ((0 ≤ m ∧ m < T1 111 0 29) ∧ 0 ≤ i ∧ i < T1 254 0 m) ∧ T1 = T2) ∨ (((0 ≤ m ∧ m < T1 111 0 29) ∧ 0 ≤ i ∧ i < T1 254 0 m) ∧ OMR_ T1 T2 m ∧ ((k = -1 ∧ RNR_ (rlm_ (fun w => T1 205 0 (23 * T1 230 0 m + w))) m x2 T1 T2 ((rw9_ T1 m).eraseIdx i.toNat)) ∨ (k ≠ -1 ∧ ((¬ ((((rlm_ (fun w => T1 205 0 (23 * T1 230 0 m + w))) 0 = 0 ∧ 0 ≤ k ∧ k ≤ 5) ∨ ((rlm_ (fun w => T1 205 0 (23 * T1 230 0 m + w))) 0 = 1 ∧ (k = 1 ∨ k = 5)) ∨ ((rlm_ (fun w => T1 205 0 (23 * T1 230 0 m + w))) 0 = 2 ∧ (k = 1 ∨ k = 6)) ∨ (¬ (rlm_ (fun w => T1 205 0 (23 * T1 230 0 m + w))) 0 = 0 ∧ ¬ (rlm_ (fun w => T1 205 0 (23 * T1 230 0 m + w))) 0 = 1 ∧ ¬ (rlm_ (fun w => T1 205 0 (23 * T1 230 0 m + w))) 0 = 2 ∧ 1 ≤ k ∧ k ≤ 4)) ∧ (((rlm_ (fun w => T1 205 0 (23 * T1 230 0 m + w))) 0 = 0 ∧ k = 0) ∨ (0 ≤ s ∧ s ≤ 1))) ∧ x2 = -12 ∧ T1 = T2) ∨ (((((rlm_ (fun w => T1 205 0 (23 * T1 230 0 m + w))) 0 = 0 ∧ 0 ≤ k ∧ k ≤ 5) ∨ ((rlm_ (fun w => T1 205 0 (23 * T1 230 0 m + w))) 0 = 1 ∧ (k = 1 ∨ k = 5)) ∨ ((rlm_ (fun w => T1 205 0 (23 * T1 230 0 m + w))) 0 = 2 ∧ (k = 1 ∨ k = 6)) ∨ (¬ (rlm_ (fun w => T1 205 0 (23 * T1 230 0 m + w))) 0 = 0 ∧ ¬ (rlm_ (fun w => T1 205 0 (23 * T1 230 0 m + w))) 0 = 1 ∧ ¬ (rlm_ (fun w => T1 205 0 (23 * T1 230 0 m + w))) 0 = 2 ∧ 1 ≤ k ∧ k ≤ 4)) ∧ (((rlm_ (fun w => T1 205 0 (23 * T1 230 0 m + w))) 0 = 0 ∧ k = 0) ∨ (0 ≤ s ∧ s ≤ 1))) ∧ ¬ ((rlm_ (fun w => T1 205 0 (23 * T1 230 0 m + w))) 0 ≠ 3 ∨ k ≠ 1 ∨ (1 ≤ q ∧ q ≤ 4)) ∧ x2 = -17 ∧ T1 = T2) ∨ (((((rlm_ (fun w => T1 205 0 (23 * T1 230 0 m + w))) 0 = 0 ∧ 0 ≤ k ∧ k ≤ 5) ∨ ((rlm_ (fun w => T1 205 0 (23 * T1 230 0 m + w))) 0 = 1 ∧ (k = 1 ∨ k = 5)) ∨ ((rlm_ (fun w => T1 205 0 (23 * T1 230 0 m + w))) 0 = 2 ∧ (k = 1 ∨ k = 6)) ∨ (¬ (rlm_ (fun w => T1 205 0 (23 * T1 230 0 m + w))) 0 = 0 ∧ ¬ (rlm_ (fun w => T1 205 0 (23 * T1 230 0 m + w))) 0 = 1 ∧ ¬ (rlm_ (fun w => T1 205 0 (23 * T1 230 0 m + w))) 0 = 2 ∧ 1 ≤ k ∧ k ≤ 4)) ∧ (((rlm_ (fun w => T1 205 0 (23 * T1 230 0 m + w))) 0 = 0 ∧ k = 0) ∨ (0 ≤ s ∧ s ≤ 1))) ∧ ((rlm_ (fun w => T1 205 0 (23 * T1 230 0 m + w))) 0 ≠ 3 ∨ k ≠ 1 ∨ (1 ≤ q ∧ q ≤ 4)) ∧ (rw9_ T1 m)[i.toNat]? = some (k, s, p, q) ∧ x2 = -20 ∧ T1 = T2) ∨ (((((rlm_ (fun w => T1 205 0 (23 * T1 230 0 m + w))) 0 = 0 ∧ 0 ≤ k ∧ k ≤ 5) ∨ ((rlm_ (fun w => T1 205 0 (23 * T1 230 0 m + w))) 0 = 1 ∧ (k = 1 ∨ k = 5)) ∨ ((rlm_ (fun w => T1 205 0 (23 * T1 230 0 m + w))) 0 = 2 ∧ (k = 1 ∨ k = 6)) ∨ (¬ (rlm_ (fun w => T1 205 0 (23 * T1 230 0 m + w))) 0 = 0 ∧ ¬ (rlm_ (fun w => T1 205 0 (23 * T1 230 0 m + w))) 0 = 1 ∧ ¬ (rlm_ (fun w => T1 205 0 (23 * T1 230 0 m + w))) 0 = 2 ∧ 1 ≤ k ∧ k ≤ 4)) ∧ (((rlm_ (fun w => T1 205 0 (23 * T1 230 0 m + w))) 0 = 0 ∧ k = 0) ∨ (0 ≤ s ∧ s ≤ 1))) ∧ ((rlm_ (fun w => T1 205 0 (23 * T1 230 0 m + w))) 0 ≠ 3 ∨ k ≠ 1 ∨ (1 ≤ q ∧ q ≤ 4)) ∧ ¬ ((rw9_ T1 m)[i.toNat]? = some (k, s, p, q)) ∧ RNR_ (rlm_ (fun w => T1 205 0 (23 * T1 230 0 m + w))) m x2 T1 T2 ((rw9_ T1 m).set i.toNat (k, s, p, q)))))))))) : x1 = x2 ∧ PLR_ T2 ∧ LDR_ T2 ∧ RCR_ T2 := by
  have c4 : T1 106 0 4 = T 106 0 4 := f1 106 0 4 rfl
  have c29 : T1 111 0 29 = T 111 0 29 := f1 111 0 29 rfl
  have v4 : T2 106 0 4 = T1 106 0 4 := f2 106 0 4 rfl
  have v29 : T2 111 0 29 = T1 111 0 29 := f2 111 0 29 rfl
  have mm := hM.1
  have kR : ∀ j, KRM_ T T1 j := fun j => kqm_s (ks_f f1 (by decide +kernel))
  have kH : ∀ j, KHM_ T1 T2 j := fun j => khm_s (ks_f f2 (by decide +kernel))
  have hC2 : RCR_ T2 := by
    show T2 106 0 5 = T2 111 0 47
    rw [f2 106 0 5 rfl, f1 106 0 5 rfl, f2 111 0 47 rfl, f1 111 0 47 rfl]
    exact hC
  obtain ⟨⟨-, lh, -⟩, d1⟩ := d1
  obtain ⟨-, -, -, -, -, d2⟩ := d2
  have n54 : ∀ j, 0 ≤ j → j < T 106 0 4 → (T 102 j 10 = 0 → T 254 0 j = 0) ∧ (T 102 j 10 ≠ 0 → T 103 j 15 = T 254 0 j ∧ PCC_ T j) := fun j j0 j1 => by
    rcases (hP.1 j j0 j1).2 with z | z | z
    · exact ⟨fun _ => z.2.2.2.2.2.1, fun y => absurd z.2.1 y⟩
    · exact ⟨fun _ => z.2.2.2.1, fun y => absurd z.1 y⟩
    · exact ⟨fun y => absurd y z.2.1, fun y => ⟨pcc_n z (hI.2.2.2.1 j j0 j1 y).1.1 (rx_n hR.2.2.2.2.2.2.2.2.1 j0 (by omega)), z⟩⟩
  have q54 : T1 254 0 m = T 254 0 m := (kR m).2.2.1
  rcases d1 with ⟨rfl, hn, rfl⟩ | ⟨⟨hm, h0, hi0, hi1⟩, oh, d1⟩
  · rcases d2 with ⟨rfl, -, rfl⟩ | ⟨⟨hm2, hj0, hj1⟩, -⟩
    · exact ⟨rfl, hP, hL, hC⟩
    · exfalso
      have y := n54 m hm2.1 (by omega)
      by_cases z : T 102 m 10 = 0
      · have := y.1 z; omega
      · have := (y.2 z).1; exact hn ⟨by omega, z, hj0, by omega⟩
  · have y := (n54 m hm.1 hm.2).2 h0
    have hpc := y.2
    have hm2 : 0 ≤ m ∧ m < T1 111 0 29 := by clear d1 d2; omega
    obtain ⟨-, orr, d2⟩ := d2.resolve_left (fun z => z.2.1 ⟨hm2, hi0, by have := y.1; clear d1 d2 z; omega⟩)
    have hc : 0 ≤ T 102 m 0 ∧ T 102 m 0 < T 106 0 2 := (hI.1.2.1 m hm.1 hm.2).2
    have rb := rb_m hR.2.1 hX hc
    have r2 : rlm_ (fun w => T1 205 0 (23 * T1 230 0 m + w)) = ruH_ T m := Eq.trans (rlm_e (fun w _ _ => by
      show T1 205 0 (23 * T1 230 0 m + w) = T 205 0 (23 * T 230 0 m + w)
      rw [f1 230 0 m rfl, f1 205 0 (23 * T 230 0 m + w) rfl])) (ru_q hX (hM.2 m hm.1 hm.2).1 hc)
    have r1 : rlm_ (fun w => T 401 (T 103 m 0) w) = ruH_ T m := by rw [hpc.2.2.1]
    rw [r1, hpc.2.2.2.2.2.2.1] at d1
    rw [r2, (kR m).2.1] at d2
    have lp := hI.2.2.2.1 m hm.1 hm.2 h0
    have l1 := lz_b lp.2.1
    have l3 := lp.1
    have lw : (rw9_ T m).length ≤ 2000 := by
      clear d1 d2
      rw [rw_n]
      omega
    have go : ∀ l : List Rw_, l.length ≤ 3000 → RNH_ (ruH_ T m) m x1 T T1 l → RNR_ (ruH_ T m) m x2 T1 T2 l → x1 = x2 ∧ PLR_ T2 ∧ LDR_ T2 ∧ RCR_ T2 := fun l hl a b => by
      clear d1 d2
      have e10 : T2 102 m 10 ≠ 0 := by
        rw [f2 102 m 10 rfl, f1 102 m 10 rfl]
        exact h0
      have lq := (i2.2.2.2.1 m hm.1 (by omega) e10).1
      have pr := pl_run (N := N) hpc rb hl l3.2.1 (kR m) (kH m) ⟨f1 102 m 6 rfl, f1 102 m 10 rfl, f1 102 m 0 rfl, f1 103 m 0 rfl⟩ (fun i w => f1 401 i w rfl) (fun t => f1 449 m t rfl) (fun i j => f2 190 i j rfl) lq.1 a b
      have hL1 : LDR_ T1 := ldr_o hL hI.2.2.2.1 hm h0 oh c4 (f1 102 m 10 rfl) (f1 104 0 4 rfl) (f1 109 0 15 rfl) lh.2 (Or.inl (f1 103 m 14 rfl))
      refine ⟨pr.1, plr_s (m := m) hP (by omega) (by omega) (fun _ _ => ⟨shm_c (hP.1 m hm.1 hm.2).1 (fun t => (f2 449 m t rfl).trans (f1 449 m t rfl)) (fun t => (f2 448 m t rfl).trans (f1 448 m t rfl)) (fun t _ _ => (f2 239 0 _ rfl).trans (f1 239 0 _ rfl)) (fun x _ _ => (f2 240 0 _ rfl).trans (f1 240 0 _ rfl)), Or.inr (Or.inr pr.2)⟩) (fun j j0 j1 nj => ⟨khm_t (khm_o hL hI.2.2.2.1 hm h0 oh j0 j1 nj (fun i w => f1 401 i w rfl)) (kH j), kqm_t (kR j) (kqm_o orr nj j0 (by omega))⟩) (fun j j0 j1 => ?_), ldr_k hL1 ⟨f2 104 0 4 rfl, f2 109 0 15 rfl, f2 191 0 0 rfl, v4⟩ (fun i => ⟨f2 102 i 10 rfl, f2 103 i 14 rfl, f2 103 i 16 rfl⟩), hC2⟩
      have w := rpe_ (orr.1 j (by omega))
      have y1 : T1 236 0 j = T 236 0 j := f1 236 0 j rfl
      have y2 : T1 237 0 j = T 237 0 j := f1 237 0 j rfl
      omega
    rcases d1 with ⟨a0, a1⟩ | ⟨a0, d1⟩
    · rcases d2 with ⟨-, b1⟩ | ⟨b0, -⟩
      · exact go _ (by have := List.length_eraseIdx_le (rw9_ T m) i.toNat; clear d2; omega) a1 b1
      · exact absurd a0 b0
    · obtain ⟨-, d2⟩ := d2.resolve_left (fun z => a0 z.1)
      rcases d1 with ⟨a1, e1, rfl⟩ | ⟨a1, a2, e1, rfl⟩ | ⟨a1, a2, a3, e1, rfl⟩ | ⟨a1, a2, a3, a4⟩
      · rcases d2 with ⟨-, e2, rfl⟩ | ⟨z, -⟩ | ⟨z, -⟩ | ⟨z, -⟩
        · exact ⟨e1.trans e2.symm, hP, hL, hC⟩
        · exact absurd (ev_kk.mpr z) a1
        · exact absurd (ev_kk.mpr z) a1
        · exact absurd (ev_kk.mpr z) a1
      · rcases d2 with ⟨z, -⟩ | ⟨-, -, e2, rfl⟩ | ⟨-, z, -⟩ | ⟨-, z, -⟩
        · exact absurd (ev_kk.mp a1) z
        · exact ⟨e1.trans e2.symm, hP, hL, hC⟩
        · exact absurd z a2
        · exact absurd z a2
      · rcases d2 with ⟨z, -⟩ | ⟨-, z, -⟩ | ⟨-, -, -, e2, rfl⟩ | ⟨-, -, z, -⟩
        · exact absurd (ev_kk.mp a1) z
        · exact absurd a2 z
        · exact ⟨e1.trans e2.symm, hP, hL, hC⟩
        · exact absurd a3 z
      · rcases d2 with ⟨z, -⟩ | ⟨-, z, -⟩ | ⟨-, -, z, -⟩ | ⟨-, -, -, b4⟩
        · exact absurd (ev_kk.mp a1) z
        · exact absurd a2 z
        · exact absurd z a3
        · exact go _ (by rw [List.length_set]; exact Nat.le_trans lw (by decide)) a4 b4
