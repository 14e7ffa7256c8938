-- the plays of both sides alike: events and reviews
/-- an event -/
theorem pl_event {T T1 T2 : Zt} {N m k s p q x1 x2 : Int} (hI : IC_ N T) (hR : IR_ T) (hb5 : T 106 0 5 ≤ 3000) (hP : PLR_ T) (hL : LDR_ T) (hC : RCR_ T) (hX : TXR_ T) (hM : MAR_ T) (i2 : IC_ (N + 1) T2) (j2 : IR_ T2) (f1 : fr_ [(106, [5]), (103, [3, 4, 5, 14, 15]), (466, []), (467, []), (468, []), (472, []), (471, []), (469, []), (470, []), (473, []), (190, []), (191, [0])] T T1) (d1 : (LP_ (N + 1) T1 ∧ lh_ T T1 ∧ T1 191 0 0 ≤ T 191 0 0 + 600) ∧ ((x1 = -2 ∧ ¬ (0 ≤ m ∧ m < T 106 0 4) ∧ T = T1) ∨ ((0 ≤ m ∧ m < T 106 0 4) ∧ ((T 102 m 10 = 0 ∧ x1 = -11 ∧ T = T1) ∨ (¬ (T 102 m 10 = 0) ∧ ((lw9_ (rlm_ (fun w => T 401 (T 103 m 0) w)) (rs9_ T m) k s p q ≠ 0 ∧ x1 = -10 - lw9_ (rlm_ (fun w => T 401 (T 103 m 0) w)) (rs9_ T m) k s p q ∧ T = T1) ∨ (lw9_ (rlm_ (fun w => T 401 (T 103 m 0) w)) (rs9_ T m) k s p q = 0 ∧ 3000 ≤ T 106 0 5 ∧ x1 = -5 ∧ T = T1) ∨ (lw9_ (rlm_ (fun w => T 401 (T 103 m 0) w)) (rs9_ T m) k s p q = 0 ∧ T 106 0 5 < 3000 ∧ T1 106 0 5 = T 106 0 5 + 1 ∧ rs9_ T1 m = ca9_ (rlm_ (fun w => T 401 (T 103 m 0) w)) (rs9_ T m) k s p q ∧ hr9_ T1 (T1 103 m 14) (T1 103 m 15).toNat = hr9_ T (T 103 m 14) (T 103 m 15).toNat ++ [(k, s, p, q)] ∧ x1 = T1 103 m 15 ∧ T1 103 m 15 = T 103 m 15 + 1 ∧ T1 103 m 17 = T 103 m 17 ∧ OMH_ T T1 m))))))) (f2 : fr_ [(111, [47]), (248, []), (249, []), (250, []), (251, []), (252, []), (253, []), (254, []), (256, []), (244, []), (241, []), (242, []), (243, []), (245, []), (246, []), (236, []), (237, []), (235, [])] T1 T2) (d2 : (FM_ T2 ∧ RX_ T2 [] ∧ ZS_ T2 ∧ GX_ T2 (-1) ∧ (∀ j, j ≠ m ∨ T1 111 0 29 ≤ j → T2 254 0 j = T1 254 0 j ∧ T2 256 0 j = T1 256 0 j) ∧ ((x2 = -2 ∧ ¬ (0 ≤ m ∧ m < T1 111 0 29) ∧ T1 = T2) ∨ ((0 ≤ m ∧ m < T1 111 0 29) ∧ ((lwR_ (rlm_ (fun w => T1 205 0 (23 * T1 230 0 m + w))) (rp9_ T1 m) k s p q ≠ 0 ∧ x2 = -10 - lwR_ (rlm_ (fun w => T1 205 0 (23 * T1 230 0 m + w))) (rp9_ T1 m) k s p q ∧ T1 = T2) ∨ (lwR_ (rlm_ (fun w => T1 205 0 (23 * T1 230 0 m + w))) (rp9_ T1 m) k s p q = 0 ∧ T1 111 0 47 = 3000 ∧ x2 = -5 ∧ T1 = T2) ∨ (lwR_ (rlm_ (fun w => T1 205 0 (23 * T1 230 0 m + w))) (rp9_ T1 m) k s p q = 0 ∧ T1 111 0 47 ≠ 3000 ∧ T2 111 0 47 = T1 111 0 47 + 1 ∧ rp9_ T2 m = plR_ (rlm_ (fun w => T1 205 0 (23 * T1 230 0 m + w))) (rp9_ T1 m) m k s p q ∧ rw9_ T2 m = rw9_ T1 m ++ [(k, s, p, q)] ∧ x2 = T2 254 0 m ∧ T2 256 0 m = T1 256 0 m ∧ OMR_ T1 T2 m)))))) : x1 = x2 ∧ PLR_ T2 ∧ LDR_ T2 ∧ RCR_ T2 := by
  have c4 : T1 106 0 4 = T 106 0 4 := f1 106 0 4 rfl
  have c29 : T1 111 0 29 = T 111 0 29 := f1 111 0 29 rfl
  have c47 : T1 111 0 47 = T 111 0 47 := f1 111 0 47 rfl
  have v4 : T2 106 0 4 = T1 106 0 4 := f2 106 0 4 rfl
  have v5 : T2 106 0 5 = T1 106 0 5 := f2 106 0 5 rfl
  have v29 : T2 111 0 29 = T1 111 0 29 := f2 111 0 29 rfl
  have mm := hM.1
  have h5 : T 106 0 5 = T 111 0 47 := hC
  have kR : ∀ j, KRM_ T T1 j := fun j => kqm_s (ks_f f1 (by decide +kernel))
  have kH : ∀ j, KHM_ T1 T2 j := fun j => khm_s (ks_f f2 (by decide +kernel))
  obtain ⟨⟨-, lh, -⟩, d1⟩ := d1
  obtain ⟨-, -, -, -, -, d2⟩ := d2
  rcases d1 with ⟨rfl, hn, rfl⟩ | ⟨hm, d1⟩
  · rcases d2 with ⟨rfl, -, rfl⟩ | ⟨hm2, -⟩
    · exact ⟨rfl, hP, hL, hC⟩
    · exfalso; omega
  · have g := hP.1 m hm.1 hm.2
    obtain ⟨-, d2⟩ := d2.resolve_left (fun z => z.2.1 (by omega))
    have hc : 0 ≤ T 102 m 0 ∧ T 102 m 0 < T 106 0 2 := (hI.1.2.1 m hm.1 hm.2).2
    have r2 : rlm_ (fun w => T1 205 0 (23 * T1 230 0 m + w)) = ruH_ T m := Eq.trans (rlm_e (fun w _ _ => by
      show T1 205 0 (23 * T1 230 0 m + w) = T 205 0 (23 * T 230 0 m + w)
      rw [f1 230 0 m rfl, f1 205 0 (23 * T 230 0 m + w) rfl])) (ru_q hX (hM.2 m hm.1 hm.2).1 hc)
    rw [r2, (kR m).1] at d2
    rcases d1 with ⟨h0, rfl, rfl⟩ | ⟨h0, d1⟩
    · have l1 : lwR_ (ruH_ T m) (rp9_ T m) k s p q = 1 := lwR_1 (by
        rw [rp_35]
        rcases g.2 with z | z | z
        · have := z.2.2.1; omega
        · have := z.2.1; omega
        · exact absurd h0 z.2.1)
      rw [l1] at d2
      rcases d2 with ⟨-, e, rfl⟩ | ⟨z, -⟩ | ⟨z, -⟩
      · exact ⟨by omega, hP, hL, hC⟩
      · exact absurd z (by decide)
      · exact absurd z (by decide)
    · have gc : PCC_ T m := by
        rcases g.2 with z | z | z
        · exact absurd z.2.1 h0
        · exact absurd z.1 h0
        · exact z
      obtain ⟨p1, p2, p3, ⟨n, pn, ps⟩, p5, p6, p7, p8⟩ := gc
      have lp := hI.2.2.2.1 m hm.1 hm.2 h0
      have l1 := lz_b lp.2.1
      have l2 := lz_b lp.2.2.1
      have l3 := lp.1
      have rb := rb_m hR.2.1 hX hc
      have r1 : rlm_ (fun w => T 401 (T 103 m 0) w) = ruH_ T m := by rw [p3]
      have el : lwR_ (ruH_ T m) (rp9_ T m) k s p q = lw9_ (ruH_ T m) (rs9_ T m) k s p q := lw_q ps.1 ps.2.1 (fun t a b => ps.2.2.2.2.2.2.2.2.2 t a b)
      rw [r1] at d1
      rw [el] at d2
      rcases d1 with ⟨a1, e1, rfl⟩ | ⟨a1, a2, e1, rfl⟩ | ⟨a1, a2, a3, a4, a5, e1, a6, a7, a8⟩
      · rcases d2 with ⟨-, e2, rfl⟩ | ⟨z, -⟩ | ⟨z, -⟩
        · exact ⟨by omega, hP, hL, hC⟩
        · exact absurd z a1
        · exact absurd z a1
      · rcases d2 with ⟨z, -⟩ | ⟨-, z, e2, rfl⟩ | ⟨-, z, -⟩
        · exact absurd a1 z
        · exact ⟨by omega, hP, hL, hC⟩
        · exfalso; omega
      · rcases d2 with ⟨z, -⟩ | ⟨-, z, -⟩ | ⟨-, b1, b2, b3, b4, e2, b5, b6⟩
        · exact absurd a1 z
        · exfalso; omega
        · have h3 := (lw_0 a1).1
          have es : rs9_ T2 m = ca9_ (ruH_ T m) (rs9_ T m) k s p q := (rs_n (kH m).1).trans a4
          have e0 : T2 102 m 0 = T 102 m 0 := (f2 102 m 0 rfl).trans (f1 102 m 0 rfl)
          have e401 : ∀ i w, T2 401 i w = T 401 i w := fun i w => (f2 401 i w rfl).trans (f1 401 i w rfl)
          have er : ruH_ T2 m = ruH_ T m := rlm_e (fun w _ _ => by
            show T2 401 (T2 102 m 0) w = T 401 (T 102 m 0) w
            rw [e0, e401])
          have q15 : T2 103 m 15 = T1 103 m 15 := f2 103 m 15 rfl
          have q17 : T2 103 m 17 = T1 103 m 17 := f2 103 m 17 rfl
          have hpc : PCC_ T2 m := by
            refine ⟨(f2 102 m 6 rfl).trans ((f1 102 m 6 rfl).trans p1), ?_, ?_, ⟨n + 3, by omega, ?_⟩, ?_, fun t t0 t1 => ?_, ?_, ?_⟩
            · rw [f2 102 m 10 rfl, f1 102 m 10 rfl]; exact p2
            · rw [f2 103 m 0 rfl, f1 103 m 0 rfl, e0]; exact p3
            · rw [er, b3, es]
              exact si_ca ps rb a1 (fn_t p5 h3) (by omega)
            · rw [es]
              exact fn_ca rb p5 a1
            · rw [e0, e401, f2 449 m t rfl, f1 449 m t rfl]
              exact p6 t t0 t1
            · rw [b4, (kR m).2.1, ← p7, ← a5, f2 103 m 14 rfl, f2 103 m 15 rfl]
              exact hrw_e (fun j _ _ => f2 190 _ j rfl)
            · rw [q17, a7, p8, b5, (kR m).2.2.2]
          have lq := (i2.2.2.2.1 m hm.1 (by omega) hpc.2.1).1
          have ln := pcc_n hpc lq.1 (rx_n j2.2.2.2.2.2.2.2.2.1 hm.1 (by omega))
          have hL1 : LDR_ T1 := ldr_o hL hI.2.2.2.1 hm h0 a8 c4 (f1 102 m 10 rfl) (f1 104 0 4 rfl) (f1 109 0 15 rfl) lh.2 (Or.inr (f1 103 m 16 rfl))
          refine ⟨by omega, plr_s (m := m) hP (by omega) (by omega) (fun _ _ => ⟨shm_c g.1 (fun t => (f2 449 m t rfl).trans (f1 449 m t rfl)) (fun t => (f2 448 m t rfl).trans (f1 448 m t rfl)) (fun t _ _ => (f2 239 0 _ rfl).trans (f1 239 0 _ rfl)) (fun x _ _ => (f2 240 0 _ rfl).trans (f1 240 0 _ rfl)), Or.inr (Or.inr hpc)⟩) (fun j j0 j1 nj => ⟨khm_t (khm_o hL hI.2.2.2.1 hm h0 a8 j0 j1 nj (fun i w => f1 401 i w rfl)) (kH j), kqm_t (kR j) (kqm_o b6 nj j0 (by omega))⟩) (fun j j0 j1 => ?_), ldr_k hL1 ⟨f2 104 0 4 rfl, f2 109 0 15 rfl, f2 191 0 0 rfl, v4⟩ (fun i => ⟨f2 102 i 10 rfl, f2 103 i 14 rfl, f2 103 i 16 rfl⟩), ?_⟩
          · have y := rpe_ (b6.1 j (by omega))
            have y1 : T1 236 0 j = T 236 0 j := f1 236 0 j rfl
            have y2 : T1 237 0 j = T 237 0 j := f1 237 0 j rfl
            omega
          · show T2 106 0 5 = T2 111 0 47
            omega
/-- each row of a run is kept or put aside -/
theorem rn_len {r : Int → Int} : ∀ (l : List Rw_) (x : Rz_), ((l.foldl (stH_ r) x).2.1.length : Int) + (l.foldl (stH_ r) x).2.2 = (x.2.1.length : Int) + x.2.2 + (l.length : Int)
  | [], x => by
    show (x.2.1.length : Int) + x.2.2 = (x.2.1.length : Int) + x.2.2 + ((0 : Nat) : Int)
    omega
  | (k, s, q, o) :: l, x => by
    have h := rn_len (r := r) l (stH_ r x (k, s, q, o))
    show ((l.foldl (stH_ r) (stH_ r x (k, s, q, o))).2.1.length : Int) + (l.foldl (stH_ r) (stH_ r x (k, s, q, o))).2.2 = (x.2.1.length : Int) + x.2.2 + ((l.length + 1 : Nat) : Int)
    have e : ((stH_ r x (k, s, q, o)).2.1.length : Int) + (stH_ r x (k, s, q, o)).2.2 = (x.2.1.length : Int) + x.2.2 + 1 := by
      by_cases z : lw9_ r x.1 k s q o = 0
      · rw [stH_t z]
        show ((x.2.1 ++ [(k, s, q, o)]).length : Int) + x.2.2 = (x.2.1.length : Int) + x.2.2 + 1
        rw [List.length_append]
        show ((x.2.1.length + 1 : Nat) : Int) + x.2.2 = _
        omega
      · rw [stH_f z]
        show (x.2.1.length : Int) + (x.2.2 + 1) = _
        omega
    omega
theorem rn_lh {r : Int → Int} {a : Sg_} {l : List Rw_} : ((rnH_ r a l).2.1.length : Int) + (rnH_ r a l).2.2 = (l.length : Int) := by
  have h := rn_len (r := r) l (a, [], 0)
  have e : ((a, ([] : List Rw_), (0 : Int)) : Rz_).2.1.length = 0 := rfl
  have e2 : ((a, ([] : List Rw_), (0 : Int)) : Rz_).2.2 = 0 := rfl
  rw [e, e2] at h
  unfold rnH_
  omega
/-- a play run anew -/
theorem pl_run {T T1 T2 : Zt} {N m x1 x2 : Int} {l : List Rw_} (hpc : PCC_ T m) (rb : RB9_ (ruH_ T m)) (hl : l.length ≤ 3000) (h17 : 0 ≤ T 103 m 17) (kR : KRM_ T T1 m) (kH : KHM_ T1 T2 m) (e16 : T1 102 m 6 = T 102 m 6 ∧ T1 102 m 10 = T 102 m 10 ∧ T1 102 m 0 = T 102 m 0 ∧ T1 103 m 0 = T 103 m 0) (e401 : ∀ i w, T1 401 i w = T 401 i w) (e449 : ∀ t, T1 449 m t = T 449 m t) (f190 : ∀ i j, T2 190 i j = T1 190 i j) (h15 : 0 ≤ T2 103 m 15) (a : RNH_ (ruH_ T m) m x1 T T1 l) (b : RNR_ (ruH_ T m) m x2 T1 T2 l) : x1 = x2 ∧ PCC_ T2 m := by
  obtain ⟨p1, p2, p3, ⟨n, pn, ps⟩, p5, p6, p7, p8⟩ := hpc
  obtain ⟨a1, a2, a3, a4⟩ := a
  obtain ⟨bb, b0, b1, b2, b3, b4⟩ := b
  obtain ⟨k1, ⟨k2, k3, k4⟩, ⟨k5, k6, k7, k8⟩, k9, k0⟩ := kH
  obtain ⟨e1, e2, e3, e4⟩ := e16
  rw [kR.1] at b0
  have ws := ps.2.1
  have eq := ps.1
  have g9 : ruH_ T m 9 = T 401 (T 102 m 0) 9 := rlm_v (f := fun w => T 401 (T 102 m 0) w) (by decide) (by decide)
  have r49 : ∀ t, rs9_ T m 449 t = T 449 m t := fun t => rs_d rfl
  have sb := si_bg (m := m) (r := ruH_ T m) (a0 := rp9_ T m) (b := bb) (a := rs9_ T m) rb (fun t t0 t1 => by
      have y := ws.1 t t0 t1
      have z := p6 t t0 t1
      rw [g9]
      rw [r49] at y ⊢
      omega) ws.2.2.2.2 (fun t t0 t1 => (eq_j eq t0 t1).1) (fun t x t0 t1 x0 x1 => (eq.2.2.2.2 t x t0 t1 x0 x1).1) b0
  have rn := rn_q (m := m) (l := l) rb sb.1 sb.2 (by omega)
  have es : rs9_ T2 m = (rnH_ (ruH_ T m) (bb9_ (ruH_ T m) (rs9_ T m)) l).1 := (rs_n k1).trans a1
  have e5 : x1 = x2 := by rw [a3, b3, rn.2.2]
  have e0 : T2 102 m 0 = T 102 m 0 := by omega
  have e41 : ∀ w, T2 401 (T 102 m 0) w = T 401 (T 102 m 0) w := fun w => by
    rw [e3] at k9
    exact (k9 w).trans (e401 _ w)
  have er : ruH_ T2 m = ruH_ T m := rlm_e (fun w _ _ => by
    show T2 401 (T2 102 m 0) w = T 401 (T 102 m 0) w
    rw [e0, e41])
  have ll := congrArg List.length a2
  rw [hrw_l] at ll
  have lr := rn_lh (r := ruH_ T m) (a := bb9_ (ruH_ T m) (rs9_ T m)) (l := l)
  refine ⟨e5, by omega, by omega, by omega, ⟨3 * (l.length : Int), by omega, ?_⟩, ?_, fun t t0 t1 => ?_, ?_, ?_⟩
  · rw [er, b1, es]
    exact rn.1
  · rw [es]
    exact rn.2.1
  · rw [e0, e41, show T2 449 m t = T 449 m t from (k1 449 t rfl).trans (e449 t)]
    exact p6 t t0 t1
  · rw [b2, rn.2.2, ← a2, k6, k7]
    exact hrw_e (fun j _ _ => f190 _ j)
  · rw [k8, a4, b4, kR.2.2.2, p8, e5]
/-- kinds and sides, told by both -/
theorem ev_kk {r k s : Int} : ((k = 0 ∨ (0 ≤ s ∧ s ≤ 1)) ∧ ((r = 0 ∧ 0 ≤ k ∧ k ≤ 5) ∨ (r = 1 ∧ (k = 1 ∨ k = 5)) ∨ (r = 2 ∧ (k = 1 ∨ k = 6)) ∨ (¬ r = 0 ∧ ¬ r = 1 ∧ ¬ r = 2 ∧ 1 ≤ k ∧ k ≤ 4))) ↔ (((r = 0 ∧ 0 ≤ k ∧ k ≤ 5) ∨ (r = 1 ∧ (k = 1 ∨ k = 5)) ∨ (r = 2 ∧ (k = 1 ∨ k = 6)) ∨ (¬ r = 0 ∧ ¬ r = 1 ∧ ¬ r = 2 ∧ 1 ≤ k ∧ k ≤ 4)) ∧ ((r = 0 ∧ k = 0) ∨ (0 ≤ s ∧ s ≤ 1))) := by
  constructor
  · rintro ⟨a, b⟩
    refine ⟨b, ?_⟩
    rcases a with a | a
    · refine Or.inl ⟨?_, a⟩
      rcases b with b | b | b | b
      · exact b.1
      · omega
      · omega
      · omega
    · exact Or.inr a
  · rintro ⟨b, a⟩
    refine ⟨?_, b⟩
    rcases a with a | a
    · exact Or.inl a.2
    · exact Or.inr a
/-- a review -/
theorem pl_review {T T1 T2 : Zt} {N m i k s p q x1 x2 : Int} (hI : IC_ N T) (hR : IR_ T) (hP : PLR_ T) (hL : LDR_ T) (hC : RCR_ T) (hX : TXR_ T) (hM : MAR_ T) (i2 : IC_ (N + 1) T2) (j2 : IR_ T2) (f1 : fr_ [(103, [3, 4, 5, 15, 16, 17]), (466, []), (467, []), (468, []), (469, []), (472, []), (473, []), (470, []), (471, []), (190, []), (191, [0])] T T1) (d1 : (LP_ (N + 1) T1 ∧ lh_ T T1 ∧ T1 191 0 0 ≤ T 191 0 0 + 600) ∧ ((x1 = -2 ∧ ¬ ((0 ≤ m ∧ m < T 106 0 4) ∧ ¬ (T 102 m 10 = 0) ∧ 0 ≤ i ∧ i < T 103 m 15) ∧ T = T1) ∨ (((0 ≤ m ∧ m < T 106 0 4) ∧ ¬ (T 102 m 10 = 0) ∧ 0 ≤ i ∧ i < T 103 m 15) ∧ OMH_ T T1 m ∧ ((k = -1 ∧ RNH_ (rlm_ (fun w => T 401 (T 103 m 0) w)) m x1 T T1 ((hr9_ T (T 103 m 14) (T 103 m 15).toNat).eraseIdx i.toNat)) ∨ (k ≠ -1 ∧ ((¬ ((k = 0 ∨ (0 ≤ s ∧ s ≤ 1)) ∧ (((rlm_ (fun w => T 401 (T 103 m 0) w)) 0 = 0 ∧ 0 ≤ k ∧ k ≤ 5) ∨ ((rlm_ (fun w => T 401 (T 103 m 0) w)) 0 = 1 ∧ (k = 1 ∨ k = 5)) ∨ ((rlm_ (fun w => T 401 (T 103 m 0) w)) 0 = 2 ∧ (k = 1 ∨ k = 6)) ∨ (¬ (rlm_ (fun w => T 401 (T 103 m 0) w)) 0 = 0 ∧ ¬ (rlm_ (fun w => T 401 (T 103 m 0) w)) 0 = 1 ∧ ¬ (rlm_ (fun w => T 401 (T 103 m 0) w)) 0 = 2 ∧ 1 ≤ k ∧ k ≤ 4))) ∧ x1 = -12 ∧ T = T1) ∨ (((k = 0 ∨ (0 ≤ s ∧ s ≤ 1)) ∧ (((rlm_ (fun w => T 401 (T 103 m 0) w)) 0 = 0 ∧ 0 ≤ k ∧ k ≤ 5) ∨ ((rlm_ (fun w => T 401 (T 103 m 0) w)) 0 = 1 ∧ (k = 1 ∨ k = 5)) ∨ ((rlm_ (fun w => T 401 (T 103 m 0) w)) 0 = 2 ∧ (k = 1 ∨ k = 6)) ∨ (¬ (rlm_ (fun w => T 401 (T 103 m 0) w)) 0 = 0 ∧ ¬ (rlm_ (fun w => T 401 (T 103 m 0) w)) 0 = 1 ∧ ¬ (rlm_ (fun w => T 401 (T 103 m 0) w)) 0 = 2 ∧ 1 ≤ k ∧ k ≤ 4))) ∧ ¬ ((rlm_ (fun w => T 401 (T 103 m 0) w)) 0 ≠ 3 ∨ k ≠ 1 ∨ (1 ≤ q ∧ q ≤ 4)) ∧ x1 = -17 ∧ T = T1) ∨ (((k = 0 ∨ (0 ≤ s ∧ s ≤ 1)) ∧ (((rlm_ (fun w => T 401 (T 103 m 0) w)) 0 = 0 ∧ 0 ≤ k ∧ k ≤ 5) ∨ ((rlm_ (fun w => T 401 (T 103 m 0) w)) 0 = 1 ∧ (k = 1 ∨ k = 5)) ∨ ((rlm_ (fun w => T 401 (T 103 m 0) w)) 0 = 2 ∧ (k = 1 ∨ k = 6)) ∨ (¬ (rlm_ (fun w => T 401 (T 103 m 0) w)) 0 = 0 ∧ ¬ (rlm_ (fun w => T 401 (T 103 m 0) w)) 0 = 1 ∧ ¬ (rlm_ (fun w => T 401 (T 103 m 0) w)) 0 = 2 ∧ 1 ≤ k ∧ k ≤ 4))) ∧ ((rlm_ (fun w => T 401 (T 103 m 0) w)) 0 ≠ 3 ∨ k ≠ 1 ∨ (1 ≤ q ∧ q ≤ 4)) ∧ (hr9_ T (T 103 m 14) (T 103 m 15).toNat)[i.toNat]? = some (k, s, p, q) ∧ x1 = -20 ∧ T = T1) ∨ (((k = 0 ∨ (0 ≤ s ∧ s ≤ 1)) ∧ (((rlm_ (fun w => T 401 (T 103 m 0) w)) 0 = 0 ∧ 0 ≤ k ∧ k ≤ 5) ∨ ((rlm_ (fun w => T 401 (T 103 m 0) w)) 0 = 1 ∧ (k = 1 ∨ k = 5)) ∨ ((rlm_ (fun w => T 401 (T 103 m 0) w)) 0 = 2 ∧ (k = 1 ∨ k = 6)) ∨ (¬ (rlm_ (fun w => T 401 (T 103 m 0) w)) 0 = 0 ∧ ¬ (rlm_ (fun w => T 401 (T 103 m 0) w)) 0 = 1 ∧ ¬ (rlm_ (fun w => T 401 (T 103 m 0) w)) 0 = 2 ∧ 1 ≤ k ∧ k ≤ 4))) ∧ ((rlm_ (fun w => T 401 (T 103 m 0) w)) 0 ≠ 3 ∨ k ≠ 1 ∨ (1 ≤ q ∧ q ≤ 4)) ∧ ¬ ((hr9_ T (T 103 m 14) (T 103 m 15).toNat)[i.toNat]? = some (k, s, p, q)) ∧ RNH_ (rlm_ (fun w => T 401 (T 103 m 0) w)) m x1 T T1 ((hr9_ T (T 103 m 14) (T 103 m 15).toNat).set i.toNat (k, s, p, q))))))))) (f2 : fr_ [(252, []), (253, []), (255, []), (254, []), (256, []), (244, []), (241, []), (242, []), (243, []), (245, []), (246, []), (236, []), (237, []), (235, []), (248, []), (249, []), (250, []), (251, [])] T1 T2) (d2 : (FM_ T2 ∧ RX_ T2 [] ∧ ZS_ T2 ∧ GX_ T2 (-1) ∧ (∀ j, j ≠ m ∨ T1 111 0 29 ≤ j → T2 254 0 j = T1 254 0 j ∧ T2 256 0 j = T1 256 0 j) ∧ ((x2 = -2 ∧ ¬ ((0 ≤ m ∧ m < T1 111 0 29) ∧ 0 ≤ i ∧ i < T1 254 0 m) ∧ T1 = T2) ∨ (((0 ≤ m ∧ m < T1 111 0 29) ∧ 0 ≤ i ∧ i < T1 254 0 m) ∧ OMR_ T1 T2 m ∧ ((k = -1 ∧ RNR_ (rlm_ (fun w => T1 205 0 (23 * T1 230 0 m + w))) m x2 T1 T2 ((rw9_ T1 m).eraseIdx i.toNat)) ∨ (k ≠ -1 ∧ ((¬ ((((rlm_ (fun w => T1 205 0 (23 * T1 230 0 m + w))) 0 = 0 ∧ 0 ≤ k ∧ k ≤ 5) ∨ ((rlm_ (fun w => T1 205 0 (23 * T1 230 0 m + w))) 0 = 1 ∧ (k = 1 ∨ k = 5)) ∨ ((rlm_ (fun w => T1 205 0 (23 * T1 230 0 m + w))) 0 = 2 ∧ (k = 1 ∨ k = 6)) ∨ (¬ (rlm_ (fun w => T1 205 0 (23 * T1 230 0 m + w))) 0 = 0 ∧ ¬ (rlm_ (fun w => T1 205 0 (23 * T1 230 0 m + w))) 0 = 1 ∧ ¬ (rlm_ (fun w => T1 205 0 (23 * T1 230 0 m + w))) 0 = 2 ∧ 1 ≤ k ∧ k ≤ 4)) ∧ (((rlm_ (fun w => T1 205 0 (23 * T1 230 0 m + w))) 0 = 0 ∧ k = 0) ∨ (0 ≤ s ∧ s ≤ 1))) ∧ x2 = -12 ∧ T1 = T2) ∨ (((((rlm_ (fun w => T1 205 0 (23 * T1 230 0 m + w))) 0 = 0 ∧ 0 ≤ k ∧ k ≤ 5) ∨ ((rlm_ (fun w => T1 205 0 (23 * T1 230 0 m + w))) 0 = 1 ∧ (k = 1 ∨ k = 5)) ∨ ((rlm_ (fun w => T1 205 0 (23 * T1 230 0 m + w))) 0 = 2 ∧ (k = 1 ∨ k = 6)) ∨ (¬ (rlm_ (fun w => T1 205 0 (23 * T1 230 0 m + w))) 0 = 0 ∧ ¬ (rlm_ (fun w => T1 205 0 (23 * T1 230 0 m + w))) 0 = 1 ∧ ¬ (rlm_ (fun w => T1 205 0 (23 * T1 230 0 m + w))) 0 = 2 ∧ 1 ≤ k ∧ k ≤ 4)) ∧ (((rlm_ (fun w => T1 205 0 (23 * T1 230 0 m + w))) 0 = 0 ∧ k = 0) ∨ (0 ≤ s ∧ s ≤ 1))) ∧ ¬ ((rlm_ (fun w => T1 205 0 (23 * T1 230 0 m + w))) 0 ≠ 3 ∨ k ≠ 1 ∨ (1 ≤ q ∧ q ≤ 4)) ∧ x2 = -17 ∧ T1 = T2) ∨ (((((rlm_ (fun w => T1 205 0 (23 * T1 230 0 m + w))) 0 = 0 ∧ 0 ≤ k ∧ k ≤ 5) ∨ ((rlm_ (fun w => T1 205 0 (23 * T1 230 0 m + w))) 0 = 1 ∧ (k = 1 ∨ k = 5)) ∨ ((rlm_ (fun w => T1 205 0 (23 * T1 230 0 m + w))) 0 = 2 ∧ (k = 1 ∨ k = 6)) ∨ (¬ (rlm_ (fun w => T1 205 0 (23 * T1 230 0 m + w))) 0 = 0 ∧ ¬ (rlm_ (fun w => T1 205 0 (23 * T1 230 0 m + w))) 0 = 1 ∧ ¬ (rlm_ (fun w => T1 205 0 (23 * T1 230 0 m + w))) 0 = 2 ∧ 1 ≤ k ∧ k ≤ 4)) ∧ (((rlm_ (fun w => T1 205 0 (23 * T1 230 0 m + w))) 0 = 0 ∧ k = 0) ∨ (0 ≤ s ∧ s ≤ 1))) ∧ ((rlm_ (fun w => T1 205 0 (23 * T1 230 0 m + w))) 0 ≠ 3 ∨ k ≠ 1 ∨ (1 ≤ q ∧ q ≤ 4)) ∧ (rw9_ T1 m)[i.toNat]? = some (k, s, p, q) ∧ x2 = -20 ∧ T1 = T2) ∨ (((((rlm_ (fun w => T1 205 0 (23 * T1 230 0 m + w))) 0 = 0 ∧ 0 ≤ k ∧ k ≤ 5) ∨ ((rlm_ (fun w => T1 205 0 (23 * T1 230 0 m + w))) 0 = 1 ∧ (k = 1 ∨ k = 5)) ∨ ((rlm_ (fun w => T1 205 0 (23 * T1 230 0 m + w))) 0 = 2 ∧ (k = 1 ∨ k = 6)) ∨ (¬ (rlm_ (fun w => T1 205 0 (23 * T1 230 0 m + w))) 0 = 0 ∧ ¬ (rlm_ (fun w => T1 205 0 (23 * T1 230 0 m + w))) 0 = 1 ∧ ¬ (rlm_ (fun w => T1 205 0 (23 * T1 230 0 m + w))) 0 = 2 ∧ 1 ≤ k ∧ k ≤ 4)) ∧ (((rlm_ (fun w => T1 205 0 (23 * T1 230 0 m + w))) 0 = 0 ∧ k = 0) ∨ (0 ≤ s ∧ s ≤ 1))) ∧ ((rlm_ (fun w => T1 205 0 (23 * T1 230 0 m + w))) 0 ≠ 3 ∨ k ≠ 1 ∨ (1 ≤ q ∧ q ≤ 4)) ∧ ¬ ((rw9_ T1 m)[i.toNat]? = some (k, s, p, q)) ∧ RNR_ (rlm_ (fun w => T1 205 0 (23 * T1 230 0 m + w))) m x2 T1 T2 ((rw9_ T1 m).set i.toNat (k, s, p, q)))))))))) : x1 = x2 ∧ PLR_ T2 ∧ LDR_ T2 ∧ RCR_ T2 := by
  have c4 : T1 106 0 4 = T 106 0 4 := f1 106 0 4 rfl
  have c29 : T1 111 0 29 = T 111 0 29 := f1 111 0 29 rfl
  have v4 : T2 106 0 4 = T1 106 0 4 := f2 106 0 4 rfl
  have v29 : T2 111 0 29 = T1 111 0 29 := f2 111 0 29 rfl
  have mm := hM.1
  have kR : ∀ j, KRM_ T T1 j := fun j => kqm_s (ks_f f1 (by decide +kernel))
  have kH : ∀ j, KHM_ T1 T2 j := fun j => khm_s (ks_f f2 (by decide +kernel))
  have hC2 : RCR_ T2 := by
    show T2 106 0 5 = T2 111 0 47
    rw [f2 106 0 5 rfl, f1 106 0 5 rfl, f2 111 0 47 rfl, f1 111 0 47 rfl]
    exact hC
  obtain ⟨⟨-, lh, -⟩, d1⟩ := d1
  obtain ⟨-, -, -, -, -, d2⟩ := d2
  have n54 : ∀ j, 0 ≤ j → j < T 106 0 4 → (T 102 j 10 = 0 → T 254 0 j = 0) ∧ (T 102 j 10 ≠ 0 → T 103 j 15 = T 254 0 j ∧ PCC_ T j) := fun j j0 j1 => by
    rcases (hP.1 j j0 j1).2 with z | z | z
    · exact ⟨fun _ => z.2.2.2.2.2.1, fun y => absurd z.2.1 y⟩
    · exact ⟨fun _ => z.2.2.2.1, fun y => absurd z.1 y⟩
    · exact ⟨fun y => absurd y z.2.1, fun y => ⟨pcc_n z (hI.2.2.2.1 j j0 j1 y).1.1 (rx_n hR.2.2.2.2.2.2.2.2.1 j0 (by omega)), z⟩⟩
  have q54 : T1 254 0 m = T 254 0 m := (kR m).2.2.1
  rcases d1 with ⟨rfl, hn, rfl⟩ | ⟨⟨hm, h0, hi0, hi1⟩, oh, d1⟩
  · rcases d2 with ⟨rfl, -, rfl⟩ | ⟨⟨hm2, hj0, hj1⟩, -⟩
    · exact ⟨rfl, hP, hL, hC⟩
    · exfalso
      have y := n54 m hm2.1 (by omega)
      by_cases z : T 102 m 10 = 0
      · have := y.1 z; omega
      · have := (y.2 z).1; exact hn ⟨by omega, z, hj0, by omega⟩
  · have y := (n54 m hm.1 hm.2).2 h0
    have hpc := y.2
    have hm2 : 0 ≤ m ∧ m < T1 111 0 29 := by clear d1 d2; omega
    obtain ⟨-, orr, d2⟩ := d2.resolve_left (fun z => z.2.1 ⟨hm2, hi0, by have := y.1; clear d1 d2 z; omega⟩)
    have hc : 0 ≤ T 102 m 0 ∧ T 102 m 0 < T 106 0 2 := (hI.1.2.1 m hm.1 hm.2).2
    have rb := rb_m hR.2.1 hX hc
    have r2 : rlm_ (fun w => T1 205 0 (23 * T1 230 0 m + w)) = ruH_ T m := Eq.trans (rlm_e (fun w _ _ => by
      show T1 205 0 (23 * T1 230 0 m + w) = T 205 0 (23 * T 230 0 m + w)
      rw [f1 230 0 m rfl, f1 205 0 (23 * T 230 0 m + w) rfl])) (ru_q hX (hM.2 m hm.1 hm.2).1 hc)
    have r1 : rlm_ (fun w => T 401 (T 103 m 0) w) = ruH_ T m := by rw [hpc.2.2.1]
    rw [r1, hpc.2.2.2.2.2.2.1] at d1
    rw [r2, (kR m).2.1] at d2
    have lp := hI.2.2.2.1 m hm.1 hm.2 h0
    have l1 := lz_b lp.2.1
    have l3 := lp.1
    have lw : (rw9_ T m).length ≤ 2000 := by
      clear d1 d2
      rw [rw_n]
      omega
    have go : ∀ l : List Rw_, l.length ≤ 3000 → RNH_ (ruH_ T m) m x1 T T1 l → RNR_ (ruH_ T m) m x2 T1 T2 l → x1 = x2 ∧ PLR_ T2 ∧ LDR_ T2 ∧ RCR_ T2 := fun l hl a b => by
      clear d1 d2
      have e10 : T2 102 m 10 ≠ 0 := by
        rw [f2 102 m 10 rfl, f1 102 m 10 rfl]
        exact h0
      have lq := (i2.2.2.2.1 m hm.1 (by omega) e10).1
      have pr := pl_run (N := N) hpc rb hl l3.2.1 (kR m) (kH m) ⟨f1 102 m 6 rfl, f1 102 m 10 rfl, f1 102 m 0 rfl, f1 103 m 0 rfl⟩ (fun i w => f1 401 i w rfl) (fun t => f1 449 m t rfl) (fun i j => f2 190 i j rfl) lq.1 a b
      have hL1 : LDR_ T1 := ldr_o hL hI.2.2.2.1 hm h0 oh c4 (f1 102 m 10 rfl) (f1 104 0 4 rfl) (f1 109 0 15 rfl) lh.2 (Or.inl (f1 103 m 14 rfl))
      refine ⟨pr.1, plr_s (m := m) hP (by omega) (by omega) (fun _ _ => ⟨shm_c (hP.1 m hm.1 hm.2).1 (fun t => (f2 449 m t rfl).trans (f1 449 m t rfl)) (fun t => (f2 448 m t rfl).trans (f1 448 m t rfl)) (fun t _ _ => (f2 239 0 _ rfl).trans (f1 239 0 _ rfl)) (fun x _ _ => (f2 240 0 _ rfl).trans (f1 240 0 _ rfl)), Or.inr (Or.inr pr.2)⟩) (fun j j0 j1 nj => ⟨khm_t (khm_o hL hI.2.2.2.1 hm h0 oh j0 j1 nj (fun i w => f1 401 i w rfl)) (kH j), kqm_t (kR j) (kqm_o orr nj j0 (by omega))⟩) (fun j j0 j1 => ?_), ldr_k hL1 ⟨f2 104 0 4 rfl, f2 109 0 15 rfl, f2 191 0 0 rfl, v4⟩ (fun i => ⟨f2 102 i 10 rfl, f2 103 i 14 rfl, f2 103 i 16 rfl⟩), hC2⟩
      have w := rpe_ (orr.1 j (by omega))
      have y1 : T1 236 0 j = T 236 0 j := f1 236 0 j rfl
      have y2 : T1 237 0 j = T 237 0 j := f1 237 0 j rfl
      omega
    rcases d1 with ⟨a0, a1⟩ | ⟨a0, d1⟩
    · rcases d2 with ⟨-, b1⟩ | ⟨b0, -⟩
      · exact go _ (by have := List.length_eraseIdx_le (rw9_ T m) i.toNat; clear d2; omega) a1 b1
      · exact absurd a0 b0
    · obtain ⟨-, d2⟩ := d2.resolve_left (fun z => a0 z.1)
      rcases d1 with ⟨a1, e1, rfl⟩ | ⟨a1, a2, e1, rfl⟩ | ⟨a1, a2, a3, e1, rfl⟩ | ⟨a1, a2, a3, a4⟩
      · rcases d2 with ⟨-, e2, rfl⟩ | ⟨z, -⟩ | ⟨z, -⟩ | ⟨z, -⟩
        · exact ⟨e1.trans e2.symm, hP, hL, hC⟩
        · exact absurd (ev_kk.mpr z) a1
        · exact absurd (ev_kk.mpr z) a1
        · exact absurd (ev_kk.mpr z) a1
      · rcases d2 with ⟨z, -⟩ | ⟨-, -, e2, rfl⟩ | ⟨-, z, -⟩ | ⟨-, z, -⟩
        · exact absurd (ev_kk.mp a1) z
        · exact ⟨e1.trans e2.symm, hP, hL, hC⟩
        · exact absurd z a2
        · exact absurd z a2
      · rcases d2 with ⟨z, -⟩ | ⟨-, z, -⟩ | ⟨-, -, -, e2, rfl⟩ | ⟨-, -, z, -⟩
        · exact absurd (ev_kk.mp a1) z
        · exact absurd a2 z
        · exact ⟨e1.trans e2.symm, hP, hL, hC⟩
        · exact absurd a3 z
      · rcases d2 with ⟨z, -⟩ | ⟨-, z, -⟩ | ⟨-, -, z, -⟩ | ⟨-, -, -, b4⟩
        · exact absurd (ev_kk.mp a1) z
        · exact absurd a2 z
        · exact absurd z a3
        · exact go _ (by rw [List.length_set]; exact Nat.le_trans lw (by decide)) a4 b4
theorem rw_0 {T : Zt} {m : Int} (h : T 254 0 m = 0) : rw9_ T m = [] := List.eq_nil_of_length_eq_zero (by rw [rw_n, h]; rfl)
/-- whether a match is told only -/
theorem pm_0 {T : Zt} {m : Int} (h : PM_ T m) : (T 102 m 6 = -1 ∧ T 102 m 10 = 0) ↔ T 235 0 m = 0 := by
  rcases h with z | z | z
  · exact ⟨fun _ => z.2.2.1, fun _ => ⟨z.1, z.2.1⟩⟩
  · have y := z.2.2.1
    have w := z.2.1
    constructor
    · intro u; omega
    · intro u; omega
  · have y := z.2.2.2.1
    obtain ⟨n, -, ps⟩ := y
    have e := ps.1.2.2.1.2.2
    rw [rp_35] at e
    have u := z.2.1
    constructor
    · intro v; omega
    · intro v; omega
theorem pm_3 {T : Zt} {m : Int} (h : PM_ T m) : T 102 m 6 = -1 ↔ T 235 0 m ≠ 3 := by
  rcases h with z | z | z
  · have y := z.2.2.1
    have w := z.1
    constructor
    · intro u; omega
    · intro u; omega
  · have y := z.2.2.1
    have w := z.2.1
    constructor
    · intro u; omega
    · intro u; omega
  · obtain ⟨n, -, ps⟩ := z.2.2.2.1
    have e := ps.1.2.2.1.2.2
    rw [rp_35] at e
    have u := z.1
    constructor
    · intro v; omega
    · intro v; omega
/-- a start -/
theorem pl_start {T T1 T2 : Zt} {N m x1 x2 : Int} (hI : IC_ N T) (hR : IR_ T) (hP : PLR_ T) (hL : LDR_ T) (hX : TXR_ T) (hM : MAR_ T) (hD : DAR_ T) (hN : CNR_ T) (f1 : fr_ [(153, []), (103, []), (102, [10]), (466, []), (467, []), (468, []), (469, []), (470, []), (471, []), (472, []), (473, []), (190, []), (191, [0])] T T1) (d1 : (LP_ N T1 ∧ lh_ T T1 ∧ T1 191 0 0 ≤ T 191 0 0 + 600 ∧ NA_ T1 ∧ ∀ k i j, i ≠ m → k ≠ 190 → k ≠ 191 → T1 k i j = T k i j) ∧ ((x1 = -2 ∧ ¬ (0 ≤ m ∧ m < T 106 0 4) ∧ T = T1) ∨ ((0 ≤ m ∧ m < T 106 0 4) ∧ ((x1 = -4 ∧ ¬ ((T 102 m 6 = -1 ∧ T 102 m 10 = 0) ∧ T 102 m 5 = T 108 0 13 ∧ T 401 (T 102 m 0) 9 ≤ T 449 m 0 ∧ T 401 (T 102 m 0) 9 ≤ T 449 m 1) ∧ T = T1) ∨ (x1 = 1 ∧ ((T 102 m 6 = -1 ∧ T 102 m 10 = 0) ∧ T 102 m 5 = T 108 0 13 ∧ T 401 (T 102 m 0) 9 ≤ T 449 m 0 ∧ T 401 (T 102 m 0) 9 ≤ T 449 m 1) ∧ T1 102 m 10 ≠ 0 ∧ T1 103 m 0 = T 102 m 0 ∧ (∃ z : Sg_, (∀ (k : Nat) (j : Int), k = 448 ∨ k = 449 → z k j = rs9_ T m k j) ∧ rs9_ T1 m = bb9_ (rlm_ (fun w => T 401 (T 102 m 0) w)) z) ∧ T1 103 m 14 = T 191 0 0 ∧ T1 103 m 16 = T 191 0 0 + 1 ∧ T1 103 m 15 = 0 ∧ T1 103 m 17 = 0 ∧ (∀ x1 j, x1 < T 191 0 0 → T1 190 x1 j = T 190 x1 j) ∧ ∀ k i j, i ≠ m → k ≠ 190 → k ≠ 191 → T1 k i j = T k i j))))) (f2 : fr_ [(244, []), (241, []), (242, []), (243, []), (245, []), (246, []), (236, []), (237, []), (235, [])] T1 T2) (d2 : ((FM_ T2 ∧ ZS_ T2 ∧ GX_ T2 (-1)) ∧ ((x2 = -2 ∧ ¬ (0 ≤ m ∧ m < T1 111 0 29) ∧ T1 = T2) ∨ ((0 ≤ m ∧ m < T1 111 0 29) ∧ ((x2 = -4 ∧ ¬ (T1 235 0 m = 0 ∧ T1 234 0 m = T1 111 0 3 ∧ T1 205 0 (23 * T1 230 0 m + 9) ≤ T1 239 0 (2 * m) ∧ T1 205 0 (23 * T1 230 0 m + 9) ≤ T1 239 0 (2 * m + 1)) ∧ T1 = T2) ∨ (x2 = 1 ∧ (T1 235 0 m = 0 ∧ T1 234 0 m = T1 111 0 3 ∧ T1 205 0 (23 * T1 230 0 m + 9) ≤ T1 239 0 (2 * m) ∧ T1 205 0 (23 * T1 230 0 m + 9) ≤ T1 239 0 (2 * m + 1)) ∧ BGR_ m (rlm_ (fun w => T1 205 0 (23 * T1 230 0 m + w))) (rp9_ T1 m) (rp9_ T2 m) ∧ ro9_ T1 T2 m)))))) : x1 = x2 ∧ PLR_ T2 ∧ LDR_ T2 := by
  have c4 : T1 106 0 4 = T 106 0 4 := f1 106 0 4 rfl
  have c29 : T1 111 0 29 = T 111 0 29 := f1 111 0 29 rfl
  have v4 : T2 106 0 4 = T1 106 0 4 := f2 106 0 4 rfl
  have v29 : T2 111 0 29 = T1 111 0 29 := f2 111 0 29 rfl
  have mm := hM.1
  have kR : ∀ j, KRM_ T T1 j := fun j => kqm_s (ks_f f1 (by decide +kernel))
  have kH : ∀ j, KHM_ T1 T2 j := fun j => khm_s (ks_f f2 (by decide +kernel))
  obtain ⟨⟨-, lh, -, -, -⟩, d1⟩ := d1
  obtain ⟨-, d2⟩ := d2
  rcases d1 with ⟨rfl, hn, rfl⟩ | ⟨hm, d1⟩
  · rcases d2 with ⟨rfl, -, rfl⟩ | ⟨hm2, -⟩
    · exact ⟨rfl, hP, hL⟩
    · exfalso; omega
  · have g := hP.1 m hm.1 hm.2
    obtain ⟨-, d2⟩ := d2.resolve_left (fun z => z.2.1 (by omega))
    have hc : 0 ≤ T 102 m 0 ∧ T 102 m 0 < T 106 0 2 := (hI.1.2.1 m hm.1 hm.2).2
    have e230 : T1 230 0 m = T 102 m 0 := (f1 230 0 m rfl).trans (hM.2 m hm.1 hm.2).1.symm
    have r2 : rlm_ (fun w => T1 205 0 (23 * T1 230 0 m + w)) = ruH_ T m := Eq.trans (rlm_e (fun w _ _ => by
      show T1 205 0 (23 * T1 230 0 m + w) = T 205 0 (23 * T 230 0 m + w)
      rw [f1 230 0 m rfl, f1 205 0 (23 * T 230 0 m + w) rfl])) (ru_q hX (hM.2 m hm.1 hm.2).1 hc)
    have e9 : T1 205 0 (23 * T1 230 0 m + 9) = T 401 (T 102 m 0) 9 := by
      rw [e230, f1 205 0 (23 * T 102 m 0 + 9) rfl]
      exact ((hX.2.2.2.2 _ hc.1 hc.2).1 9 (by decide) (by decide)).symm
    have s0 := g.1.1 0 (by decide) (by decide)
    have s1 := g.1.1 1 (by decide) (by decide)
    rw [Int.add_zero] at s0
    have t0 : T1 239 0 (2 * m) = T 239 0 (2 * m) := f1 239 0 _ rfl
    have t1 : T1 239 0 (2 * m + 1) = T 239 0 (2 * m + 1) := f1 239 0 _ rfl
    have t2 : T1 235 0 m = T 235 0 m := f1 235 0 m rfl
    have t3 : T1 234 0 m = T 234 0 m := f1 234 0 m rfl
    have t4 : T1 111 0 3 = T 111 0 3 := f1 111 0 3 rfl
    have t5 := hD m hm.1 hm.2
    have t6 := hN.2.2.2
    have t7 := pm_0 g.2
    rw [r2, (kR m).1, e9] at d2
    rcases d1 with ⟨rfl, a1, rfl⟩ | ⟨rfl, a1, a2, a3, ⟨z, z1, z2⟩, a4, a5, a6, a7, a8, a9⟩
    · rcases d2 with ⟨rfl, -, rfl⟩ | ⟨-, y, -⟩
      · exact ⟨rfl, hP, hL⟩
      · exfalso; omega
    · rcases d2 with ⟨-, y, -⟩ | ⟨rfl, -, b1, b2⟩
      · exfalso; omega
      · have pa : PAA_ T m := by
          rcases g.2 with y | y | y
          · exact y
          · exfalso; have := y.2.1; omega
          · exact absurd a1.1.2 y.2.1
        have rb := rb_m hR.2.1 hX hc
        have g9 : ruH_ T m 9 = T 401 (T 102 m 0) 9 := rlm_v (f := fun w => T 401 (T 102 m 0) w) (by decide) (by decide)
        have z49 : ∀ t, z 449 t = T 449 m t := fun t => (z1 449 t (Or.inr rfl)).trans (rs_d rfl)
        have z48 : ∀ t, z 448 t = T 448 m t := fun t => (z1 448 t (Or.inl rfl)).trans (rs_d rfl)
        have sb := si_bg (m := m) (r := ruH_ T m) (a0 := rp9_ T m) (b := rp9_ T2 m) (a := z) rb (fun t u0 u1 => by
            have y := g.1.1 t u0 u1
            rw [g9, z49]
            rcases (by omega : t = 0 ∨ t = 1) with c | c
            · rw [c] at y ⊢; omega
            · rw [c] at y ⊢; omega) (fun t x y u0 u1 x0 x1 y0 y1 e => by
            rw [z49] at x1 y1
            rw [z48, z48] at e
            exact g.1.2.2 t x y u0 u1 x0 x1 y0 y1 e) (fun t u0 u1 => by
            rw [rp_39 u0 u1, z49]
            exact (g.1.1 t u0 u1).1) (fun t x u0 u1 x0 x1 => by
            have y := g.1.1 t u0 u1
            rw [z49] at x1
            rw [rp_40 (by omega) (by omega), z48]
            exact g.1.2.1 t x u0 u1 x0 x1) b1
        have es : rs9_ T2 m = bb9_ (ruH_ T m) z := (rs_n (kH m).1).trans z2
        have e0 : T2 102 m 0 = T 102 m 0 := (f2 102 m 0 rfl).trans (f1 102 m 0 rfl)
        have e401 : ∀ i w, T2 401 i w = T 401 i w := fun i w => (f2 401 i w rfl).trans (f1 401 i w rfl)
        have er : ruH_ T2 m = ruH_ T m := rlm_e (fun w _ _ => by
          show T2 401 (T2 102 m 0) w = T 401 (T 102 m 0) w
          rw [e0, e401])
        have q15 : T2 103 m 15 = T1 103 m 15 := f2 103 m 15 rfl
        have q17 : T2 103 m 17 = T1 103 m 17 := f2 103 m 17 rfl
        have q54 : T2 254 0 m = 0 := (f2 254 0 m rfl).trans ((f1 254 0 m rfl).trans pa.2.2.2.2.2.1)
        have q56 : T2 256 0 m = 0 := (f2 256 0 m rfl).trans ((f1 256 0 m rfl).trans pa.2.2.2.2.2.2)
        have hpc : PCC_ T2 m := by
          refine ⟨(f2 102 m 6 rfl).trans ((f1 102 m 6 rfl).trans pa.1), ?_, ?_, ⟨0, by omega, ?_⟩, ?_, fun t u0 u1 => ?_, ?_, by omega⟩
          · rw [f2 102 m 10 rfl]; exact a2
          · rw [f2 103 m 0 rfl, a3, e0]
          · rw [er, es]
            exact sb.1
          · rw [es]
            exact sb.2
          · rw [e0, e401, f2 449 m t rfl, f1 449 m t rfl]
            rcases (by omega : t = 0 ∨ t = 1) with c | c
            · rw [c]; omega
            · rw [c]; omega
          · rw [rw_0 q54, q15, a6]
            rfl
        have oth : ∀ j, j ≠ m → T1 102 j 10 = T 102 j 10 ∧ T1 103 j 14 = T 103 j 14 ∧ T1 103 j 16 = T 103 j 16 := fun j n => ⟨a9 102 j 10 n (by decide) (by decide), a9 103 j 14 n (by decide) (by decide), a9 103 j 16 n (by decide) (by decide)⟩
        have lo : ∀ j, 0 ≤ j → j < T 106 0 4 → T 102 j 10 ≠ 0 → T 103 j 14 < T 191 0 0 ∧ T 103 j 16 < T 191 0 0 := fun j a b c => ⟨(hI.2.2.2.1 j a b c).1.2.2.2.2.2.1, (hI.2.2.2.1 j a b c).1.2.2.2.2.2.2.1⟩
        have e44 : T1 104 0 4 = T 104 0 4 := f1 104 0 4 rfl
        have e15 : T1 109 0 15 = T 109 0 15 := f1 109 0 15 rfl
        have hL1 : LDR_ T1 := by
          obtain ⟨⟨h1, h2⟩, h3⟩ := hL
          have l2 := lh.2
          refine ⟨⟨by omega, by omega⟩, fun i i0 i1 ip => ?_⟩
          rw [c4] at i1
          by_cases w : i = m
          · rw [w]
            refine ⟨by omega, fun j j0 j1 jp n => ?_⟩
            rw [c4] at j1
            have y := oth j n
            rw [y.1] at jp
            have v := lo j j0 j1 jp
            omega
          · have y := oth i w
            rw [y.1] at ip
            have v := lo i i0 i1 ip
            have u := h3 i i0 i1 ip
            refine ⟨by have := u.1; omega, fun j j0 j1 jp n => ?_⟩
            rw [c4] at j1
            by_cases o : j = m
            · rw [o]
              omega
            · have y2 := oth j o
              rw [y2.1] at jp
              have u2 := u.2 j j0 j1 jp n
              omega
        refine ⟨rfl, plr_s (m := m) hP (by omega) (by omega) (fun _ _ => ⟨shm_c g.1 (fun t => (f2 449 m t rfl).trans (f1 449 m t rfl)) (fun t => (f2 448 m t rfl).trans (f1 448 m t rfl)) (fun t _ _ => (f2 239 0 _ rfl).trans (f1 239 0 _ rfl)) (fun x _ _ => (f2 240 0 _ rfl).trans (f1 240 0 _ rfl)), Or.inr (Or.inr hpc)⟩) (fun j j0 j1 nj => ⟨khm_t ⟨fun k i d => a9 k j i nj (dk_n d).1 (dk_n d).2.1, ⟨f1 102 j 0 rfl, f1 102 j 6 rfl, (oth j nj).1⟩, ⟨a9 103 j 0 nj (by decide) (by decide), (oth j nj).2.1, a9 103 j 15 nj (by decide) (by decide), a9 103 j 17 nj (by decide) (by decide)⟩, fun w => f1 401 _ w rfl, fun q i _ _ => a8 _ i (lo j j0 j1 q).1⟩ (kH j), kqm_t (kR j) ⟨b2 j nj, rw_k (fun k x c => by rcases c with rfl | rfl | rfl | rfl <;> exact f2 _ 0 x rfl) (fun x => f2 252 0 x rfl) (f2 253 0 j rfl) (f2 254 0 j rfl), f2 254 0 j rfl, f2 256 0 j rfl⟩⟩) (fun j j0 j1 => ?_), ldr_k hL1 ⟨f2 104 0 4 rfl, f2 109 0 15 rfl, f2 191 0 0 rfl, v4⟩ (fun i => ⟨f2 102 i 10 rfl, f2 103 i 14 rfl, f2 103 i 16 rfl⟩)⟩
        have w := rpe_ (b2 j (by omega))
        have y1 : T1 236 0 j = T 236 0 j := f1 236 0 j rfl
        have y2 : T1 237 0 j = T 237 0 j := f1 237 0 j rfl
        omega
/-- a walkover -/
theorem pl_walk {T T1 T2 : Zt} {N m s x1 x2 : Int} (hI : IC_ N T) (hP : PLR_ T) (hL : LDR_ T) (hX : TXR_ T) (hM : MAR_ T) (hD : DAR_ T) (hN : CNR_ T) (f1 : fr_ [(102, [6])] T T1) (d1 : ((x1 = -2 ∧ ¬ (0 ≤ m ∧ m < T 106 0 4) ∧ T = T1) ∨ ((0 ≤ m ∧ m < T 106 0 4) ∧ ((x1 = -3 ∧ ¬ (0 ≤ s ∧ s ≤ 1) ∧ T = T1) ∨ ((0 ≤ s ∧ s ≤ 1) ∧ ((x1 = -4 ∧ ¬ ((T 102 m 6 = -1 ∧ T 102 m 10 = 0) ∧ T 102 m 5 ≤ T 108 0 13) ∧ T = T1) ∨ (x1 = 1 ∧ ((T 102 m 6 = -1 ∧ T 102 m 10 = 0) ∧ T 102 m 5 ≤ T 108 0 13) ∧ T1 = up_ T 102 m 6 s))))))) (f2 : fr_ [(235, []), (236, []), (237, [])] T1 T2) (d2 : ((FM_ T2 ∧ ZS_ T2 ∧ GX_ T2 (-1)) ∧ ((x2 = -2 ∧ ¬ (0 ≤ m ∧ m < T1 111 0 29) ∧ T1 = T2) ∨ ((0 ≤ m ∧ m < T1 111 0 29) ∧ ((x2 = -3 ∧ ¬ (0 ≤ s ∧ s ≤ 1) ∧ T1 = T2) ∨ ((0 ≤ s ∧ s ≤ 1) ∧ ((x2 = -4 ∧ ¬ (T1 235 0 m = 0 ∧ T1 234 0 m ≤ T1 111 0 3) ∧ T1 = T2) ∨ (x2 = 1 ∧ (T1 235 0 m = 0 ∧ T1 234 0 m ≤ T1 111 0 3) ∧ T2 235 0 m = 3 ∧ (s = 0 → T2 236 0 m = 0 ∧ T2 237 0 m = T1 205 0 (23 * T1 230 0 m + 12)) ∧ (s = 1 → T2 236 0 m = T1 205 0 (23 * T1 230 0 m + 12) ∧ T2 237 0 m = 0) ∧ ro9_ T1 T2 m)))))))) : x1 = x2 ∧ PLR_ T2 ∧ LDR_ T2 := by
  have c4 : T1 106 0 4 = T 106 0 4 := f1 106 0 4 rfl
  have c29 : T1 111 0 29 = T 111 0 29 := f1 111 0 29 rfl
  have v4 : T2 106 0 4 = T1 106 0 4 := f2 106 0 4 rfl
  have v29 : T2 111 0 29 = T1 111 0 29 := f2 111 0 29 rfl
  have mm := hM.1
  have kR : ∀ j, KRM_ T T1 j := fun j => kqm_s (ks_f f1 (by decide +kernel))
  have kH : ∀ j, KHM_ T1 T2 j := fun j => khm_s (ks_f f2 (by decide +kernel))
  have hL2 : LDR_ T2 := ldr_k hL ⟨(f2 104 0 4 rfl).trans (f1 104 0 4 rfl), (f2 109 0 15 rfl).trans (f1 109 0 15 rfl), (f2 191 0 0 rfl).trans (f1 191 0 0 rfl), v4.trans c4⟩ (fun i => ⟨(f2 102 i 10 rfl).trans (f1 102 i 10 rfl), (f2 103 i 14 rfl).trans (f1 103 i 14 rfl), (f2 103 i 16 rfl).trans (f1 103 i 16 rfl)⟩)
  obtain ⟨-, d2⟩ := d2
  rcases d1 with ⟨rfl, hn, rfl⟩ | ⟨hm, d1⟩
  · rcases d2 with ⟨rfl, -, rfl⟩ | ⟨hm2, -⟩
    · exact ⟨rfl, hP, hL⟩
    · exfalso; omega
  · have g := hP.1 m hm.1 hm.2
    obtain ⟨-, d2⟩ := d2.resolve_left (fun z => z.2.1 (by omega))
    rcases d1 with ⟨rfl, hn, rfl⟩ | ⟨hs, d1⟩
    · rcases d2 with ⟨rfl, -, rfl⟩ | ⟨y, -⟩
      · exact ⟨rfl, hP, hL⟩
      · exact absurd y hn
    · obtain ⟨-, d2⟩ := d2.resolve_left (fun z => z.2.1 hs)
      have hc : 0 ≤ T 102 m 0 ∧ T 102 m 0 < T 106 0 2 := (hI.1.2.1 m hm.1 hm.2).2
      have e230 : T1 230 0 m = T 102 m 0 := (f1 230 0 m rfl).trans (hM.2 m hm.1 hm.2).1.symm
      have e12 : T1 205 0 (23 * T1 230 0 m + 12) = T 401 (T 102 m 0) 12 := by
        rw [e230, f1 205 0 (23 * T 102 m 0 + 12) rfl]
        exact ((hX.2.2.2.2 _ hc.1 hc.2).1 12 (by decide) (by decide)).symm
      have t2 : T1 235 0 m = T 235 0 m := f1 235 0 m rfl
      have t3 : T1 234 0 m = T 234 0 m := f1 234 0 m rfl
      have t4 : T1 111 0 3 = T 111 0 3 := f1 111 0 3 rfl
      have t5 := hD m hm.1 hm.2
      have t6 := hN.2.2.2
      have t7 := pm_0 g.2
      rw [e12] at d2
      rcases d1 with ⟨rfl, a1, rfl⟩ | ⟨rfl, a1, a2⟩
      · rcases d2 with ⟨rfl, -, rfl⟩ | ⟨-, y, -⟩
        · exact ⟨rfl, hP, hL⟩
        · exfalso; omega
      · rcases d2 with ⟨-, y, -⟩ | ⟨rfl, -, b1, b2, b3, b4⟩
        · exfalso; omega
        · have pa : PAA_ T m := by
            rcases g.2 with y | y | y
            · exact y
            · exfalso; have := y.2.1; omega
            · exact absurd a1.1.2 y.2.1
          have e6 : T2 102 m 6 = s := (f2 102 m 6 rfl).trans (up_f a2)
          have q10 : T2 102 m 10 = 0 := (f2 102 m 10 rfl).trans ((f1 102 m 10 rfl).trans pa.2.1)
          have q54 : T2 254 0 m = 0 := (f2 254 0 m rfl).trans ((f1 254 0 m rfl).trans pa.2.2.2.2.2.1)
          have q56 : T2 256 0 m = 0 := (f2 256 0 m rfl).trans ((f1 256 0 m rfl).trans pa.2.2.2.2.2.2)
          have e0 : T2 102 m 0 = T 102 m 0 := (f2 102 m 0 rfl).trans (f1 102 m 0 rfl)
          have e401 : ∀ i w, T2 401 i w = T 401 i w := fun i w => (f2 401 i w rfl).trans (f1 401 i w rfl)
          have hpb : PBB_ T2 m := by
            refine ⟨q10, b1, ?_, q54, q56⟩
            rw [e0, e401, e6]
            rcases (by omega : s = 0 ∨ s = 1) with c | c
            · exact Or.inl ⟨c, b2 c⟩
            · exact Or.inr ⟨c, b3 c⟩
          refine ⟨rfl, plr_s (m := m) hP (by omega) (by omega) (fun _ _ => ⟨shm_c g.1 (fun t => (f2 449 m t rfl).trans (f1 449 m t rfl)) (fun t => (f2 448 m t rfl).trans (f1 448 m t rfl)) (fun t _ _ => (f2 239 0 _ rfl).trans (f1 239 0 _ rfl)) (fun x _ _ => (f2 240 0 _ rfl).trans (f1 240 0 _ rfl)), Or.inr (Or.inl hpb)⟩) (fun j j0 j1 nj => ⟨khm_t ⟨fun k i d => up_g a2 (fun z => nj z.2.1), ⟨f1 102 j 0 rfl, up_g a2 (fun z => nj z.2.1), f1 102 j 10 rfl⟩, ⟨f1 103 j 0 rfl, f1 103 j 14 rfl, f1 103 j 15 rfl, f1 103 j 17 rfl⟩, fun w => f1 401 _ w rfl, fun q i _ _ => f1 190 _ i rfl⟩ (kH j), kqm_t (kR j) ⟨b4 j nj, rw_k (fun k x c => by rcases c with rfl | rfl | rfl | rfl <;> exact f2 _ 0 x rfl) (fun x => f2 252 0 x rfl) (f2 253 0 j rfl) (f2 254 0 j rfl), f2 254 0 j rfl, f2 256 0 j rfl⟩⟩) (fun j j0 j1 => ?_), hL2⟩
          have w := rpe_ (b4 j (by omega))
          have y1 : T1 236 0 j = T 236 0 j := f1 236 0 j rfl
          have y2 : T1 237 0 j = T 237 0 j := f1 237 0 j rfl
          omega
-- bans and line-ups of both sides alike
theorem coc_k {T T' : Zt} {p d : Int} (e : ∀ (k : Nat) (j : Int), k = 217 ∨ k = 218 ∨ k = 219 ∨ k = 220 → T' k 0 j = T k 0 j) (e16 : T' 111 0 16 = T 111 0 16) : co9_c T' p d = co9_c T p d := by
  unfold co9_c
  rw [e16]
  exact cnn_k e _
theorem plN_n {T : Zt} {m q s : Int} : ∀ (n : Nat) (i : Int), 0 ≤ s → 0 ≤ i → plN_ T m q s n i = -1 → ∀ k, i ≤ k → k < i + (n : Int) → T 448 m (s * 10 + k) ≠ q
  | 0, i, _, _, _, k, a, b => by omega
  | n + 1, i, s0, i0, h, k, a, b => by
    by_cases z : T 448 m (s * 10 + i) = q
    · rw [plN_t z] at h
      omega
    · rw [plN_f z] at h
      by_cases y : k = i
      · rw [y]; exact z
      · exact plN_n n (i + 1) s0 (by omega) h k (by omega) (by omega)
/-- the place on one sheet -/
theorem pl_sl1 {T : Zt} {m q s : Int} (h : SHM_ T m) (s0 : 0 ≤ s) (s1 : s ≤ 1) : (plN_ T m q s (T 449 m s).toNat 0 = -1 ∧ slR_ (rp9_ T m) s q = -1) ∨ (s * 10 ≤ plN_ T m q s (T 449 m s).toNat 0 ∧ plN_ T m q s (T 449 m s).toNat 0 < s * 10 + T 449 m s ∧ slR_ (rp9_ T m) s q = plN_ T m q s (T 449 m s).toNat 0) := by
  have g := h.1 s s0 s1
  have e48 : ∀ x, s * 10 ≤ x → x < s * 10 + T 449 m s → rp9_ T m 448 x = T 448 m x := fun x x0 x1 => by
    rw [rp_40 (by omega) (by omega)]
    exact h.2.1 s x s0 s1 x0 x1
  unfold slR_
  rw [rp_39 s0 s1, g.1]
  rcases plN_b (T := T) (m := m) (q := q) (s := s) (T 449 m s).toNat 0 with y | y
  · refine Or.inl ⟨y, ?_⟩
    rcases sln_b (a := rp9_ T m) (s := s) (q := q) (T 449 m s).toNat with w | w
    · exact w
    · exfalso
      have n := plN_n (T 449 m s).toNat 0 s0 (by decide) y (sln_ (rp9_ T m) s q (T 449 m s).toNat - s * 10) (by omega) (by omega)
      rw [show s * 10 + (sln_ (rp9_ T m) s q (T 449 m s).toNat - s * 10) = sln_ (rp9_ T m) s q (T 449 m s).toNat by omega, ← e48 _ (by omega) (by omega)] at n
      exact n w.2.2
  · have y1 : plN_ T m q s (T 449 m s).toNat 0 < s * 10 + T 449 m s := by omega
    refine Or.inr ⟨by omega, y1, ?_⟩
    refine sl_u _ (by omega) (by omega) ((e48 _ (by omega) y1).trans y.2.2) (fun x x0 x1 e => ?_)
    rw [e48 x x0 (by omega)] at e
    exact h.2.2 s x _ s0 s1 x0 (by omega) (by omega) y1 (e.trans y.2.2.symm)
/-- the place on the sheets -/
theorem pl_sl {T : Zt} {m q : Int} (m0 : 0 ≤ m) (h : SHM_ T m) : (plc_ T m q = -1 ∧ slc_ T m q = -1) ∨ (∃ t, (0 ≤ t ∧ t ≤ 1) ∧ t * 10 ≤ plc_ T m q ∧ plc_ T m q < t * 10 + T 449 m t ∧ slc_ T m q = 20 * m + plc_ T m q) := by
  have g0 := h.1 0 (by decide) (by decide)
  have g1 := h.1 1 (by decide) (by decide)
  rcases pl_sl1 (q := q) h (s := 0) (by decide) (by decide) with ⟨a, b⟩ | ⟨a, b, c⟩
  · have e0 : ab9_ m (slR_ (rp9_ T m) 0 q) = -1 := ab_1 b
    rw [plc_1 a, slc_1 rfl e0 rfl]
    rcases pl_sl1 (q := q) h (s := 1) (by decide) (by decide) with ⟨u, v⟩ | ⟨u, v, w⟩
    · exact Or.inl ⟨u, ab_1 v⟩
    · refine Or.inr ⟨1, by decide, u, v, ?_⟩
      rw [ab_2 (by omega), w]
  · have e0 : ab9_ m (slR_ (rp9_ T m) 0 q) = 20 * m + plN_ T m q 0 (T 449 m 0).toNat 0 := by rw [ab_2 (by omega), c]
    rw [plc_0 (by omega), slc_0 rfl (by omega), e0]
    exact Or.inr ⟨0, by decide, a, b, rfl⟩
/-- whether a match is decided -/
theorem pm_d {T : Zt} {m : Int} (h : PM_ T m) : (T 102 m 6 ≠ -1 ∨ (T 102 m 10 ≠ 0 ∧ T 103 m 3 ≠ 0)) ↔ (T 235 0 m = 2 ∨ T 235 0 m = 3) := by
  rcases h with z | z | z
  · have a := z.1
    have b := z.2.1
    have c := z.2.2.1
    constructor
    · intro u; omega
    · intro u; omega
  · have a := z.2.2.1
    have c := z.2.1
    constructor
    · intro u; omega
    · intro u; omega
  · obtain ⟨n, -, ps⟩ := z.2.2.2.1
    have e := ps.1.2.2.1.2.2
    rw [rp_35, show rs9_ T m 103 3 = T 103 m 3 from rs_d rfl] at e
    have a := z.1
    have b := z.2.1
    constructor
    · intro u; omega
    · intro u; omega
theorem kd_q {T : Zt} {m q : Int} (m0 : 0 ≤ m) (h : SHM_ T m) (g : PM_ T m) (d : T 235 0 m = 2 ∨ T 235 0 m = 3) : kdH_ T q m = kdR_ T q m ∧ (kdH_ T q m = 2 → yvH_ T q m = yvR_ T q m) := by
  rcases g with z | z | z
  · have c := z.2.2.1
    exfalso; omega
  · have c := z.2.1
    rw [kdH_0 (Or.inl z.1), kdR_0 (fun y => by omega)]
    exact ⟨rfl, fun y => absurd y (by decide)⟩
  · obtain ⟨n, -, ps⟩ := z.2.2.2.1
    have e3 := ps.1.2.2.1.2.2
    rw [rp_35] at e3
    have e2 : T 235 0 m = 2 := by omega
    rcases pl_sl (q := q) m0 h with ⟨a, b⟩ | ⟨t, ht, a, b, c⟩
    · rw [kdH_0 (Or.inr a), kdR_0 (fun y => y.2 b)]
      exact ⟨rfl, fun y => absurd y (by decide)⟩
    · have g49 := h.1 t ht.1 ht.2
      have r49 : rs9_ T m 449 t = T 449 m t := rs_d rfl
      have eq := ps.1.2.2.2.2 t (plc_ T m q) ht.1 ht.2 a (by rw [r49]; exact b)
      have d0 : 0 ≤ plc_ T m q ∧ plc_ T m q ≤ 19 := by omega
      rw [show rs9_ T m 472 (plc_ T m q) = T 472 m (plc_ T m q) from rs_d rfl, show rs9_ T m 473 (plc_ T m q) = T 473 m (plc_ T m q) from rs_d rfl, rp_v (m := m) (K := 242) (x := 20 * m + plc_ T m q) (dm_473 d0) rfl rfl, rp_v (m := m) (K := 243) (x := 20 * m + plc_ T m q) (dm_474 d0) rfl rfl, ← c] at eq
      have n1 : ¬ (T 102 m 10 = 0 ∨ plc_ T m q = -1) := fun y => by
        rcases y with y | y
        · exact z.2.1 y
        · omega
      have n2 : T 235 0 m = 2 ∧ slc_ T m q ≠ -1 := ⟨e2, by omega⟩
      rcases eq.2.2 with ⟨y1, -, y3⟩ | ⟨y1, -, y3⟩
      · rw [kdH_1 n1 y1, kdR_1 n2 y3]
        exact ⟨rfl, fun y => absurd y (by decide)⟩
      · rw [kdH_2 n1 y1, kdR_2 n2 (by omega)]
        exact ⟨rfl, fun _ => eq.2.1.symm⟩
theorem sbn_e {red cards : Int} {kd yv kd' yv' : Int → Int} {m : Int} (h : kd' m = kd m) (g : kd m = 2 → yv' m = yv m) : sbn_ red cards kd' yv' m = sbn_ red cards kd yv m := by
  funext x
  by_cases z : kd m = 1
  · rw [sbn_1 z, sbn_1 (h.trans z)]
  · by_cases y : kd m = 2
    · rw [sbn_2 y, sbn_2 (h.trans y), g y]
    · rw [sbn_0 z y, sbn_0 (by rw [h]; exact z) (by rw [h]; exact y)]
/-- the bans are the same -/
theorem bn_q {T : Zt} {N q p : Int} (hT : ok_T T) (hI : IC_ N T) (hP : PLR_ T) (hX : TXR_ T) (hM : MAR_ T) (hE : ENR_ T) (hD : DAR_ T) (hp : 0 ≤ p ∧ p < T 106 0 4) : bnH_ T q p = bnR_ T q p := by
  have hc : 0 ≤ T 102 p 0 ∧ T 102 p 0 < T 106 0 2 := (hI.1.2.1 p hp.1 hp.2).2
  have ec := (hM.2 p hp.1 hp.2).1
  have en := hE.1 _ hc.1 hc.2
  have kc := hI.1.2.2.1 _ hc.1 hc.2
  have rl := (hX.2.2.2.2 _ hc.1 hc.2).1
  have b7 : 0 ≤ T 100 (T 102 p 0) 7 := (bd_f hT 100 7 tl_0_7 _).1
  have ed := hD p hp.1 hp.2
  unfold bnH_ bnR_
  rw [← ec, ← rl 13 (by decide) (by decide), ← rl 14 (by decide) (by decide), ← en.2.2.1, ← en.2.2.2.1, ← ed]
  have hin : ∀ m, T 100 (T 102 p 0) 7 ≤ m → m < T 100 (T 102 p 0) 7 + T 100 (T 102 p 0) 8 → 0 ≤ m ∧ m < T 106 0 4 := fun m a b => by omega
  have hr : ∀ m, T 100 (T 102 p 0) 7 ≤ m → m < T 100 (T 102 p 0) 7 + T 100 (T 102 p 0) 8 → (rlH_ T q m ↔ rlR_ T q m) := fun m a b => by
    have i := hin m a b
    have mm := hM.2 m i.1 i.2
    have dd := hD m i.1 i.2
    have pd := pm_d (hP.1 m i.1 i.2).2
    have h3 : 0 ≤ T 102 m 3 := (bd_f hT 102 3 tl_2_3 m).1
    have h4 : 0 ≤ T 102 m 4 := (bd_f hT 102 4 tl_2_4 m).1
    unfold rlH_ rlR_
    rw [← dd, pd, ← mm.2.2.1, ← mm.2.2.2]
    constructor
    · rintro ⟨u, v⟩
      exact ⟨u, by omega, by omega⟩
    · rintro ⟨u, v, w⟩
      exact ⟨u, by omega⟩
  refine congrArg Prod.fst (bf_c (fun m a b => ?_) hr (fun m a b r => ?_) _)
  · exact hD m (hin m a b).1 (hin m a b).2
  · have i := hin m a b
    have g := hP.1 m i.1 i.2
    have k := kd_q (q := q) i.1 g.1 g.2 r.1
    exact sbn_e k.1 (fun y => k.2 (k.1.trans y))
theorem els_q {T : Zt} {q p : Int} (hP : PLR_ T) (hM : MAR_ T) (hD : DAR_ T) (hp : 0 ≤ p ∧ p < T 106 0 4) : elsH_ T q p ↔ elsR_ T q p := by
  have ed := hD p hp.1 hp.2
  constructor
  · rintro ⟨k, k0, k1, k2, k3, k4, k5⟩
    have g := hP.1 k k0 k1
    refine ⟨k, k0, by have := hM.1; omega, k2, by have := hD k k0 k1; omega, (pm_3 g.2).mp k4, ?_⟩
    rcases pl_sl (q := q) k0 g.1 with y | ⟨t, y⟩
    · exact absurd y.1 k5
    · omega
  · rintro ⟨k, k0, k1, k2, k3, k4, k5⟩
    have k1' : k < T 106 0 4 := by have := hM.1; omega
    have g := hP.1 k k0 k1'
    refine ⟨k, k0, k1', k2, by have := hD k k0 k1'; omega, (pm_3 g.2).mpr k4, ?_⟩
    rcases pl_sl (q := q) k0 g.1 with y | ⟨t, y⟩
    · exact absurd y.2 k5
    · omega
theorem cz_e {A : Type} {P Q : Prop} {x y : A} (h : P ↔ Q) : cz_ P x y = cz_ Q x y := by rw [propext h]
/-- the reason is the same -/
theorem wy_q {T : Zt} {N q p d : Int} (hT : ok_T T) (hI : IC_ N T) (hP : PLR_ T) (hX : TXR_ T) (hM : MAR_ T) (hE : ENR_ T) (hD : DAR_ T) (hp : 0 ≤ p ∧ p < T 106 0 4) : wyH_ T q p d = wyR_ T q p d := by
  have ed := hD p hp.1 hp.2
  have mm := hM.2 p hp.1 hp.2
  have g := hP.1 p hp.1 hp.2
  have sl : plc_ T p q ≠ -1 ↔ slc_ T p q ≠ -1 := by
    rcases pl_sl (q := q) hp.1 g.1 with y | ⟨t, y⟩
    · omega
    · omega
  unfold wyH_ wyR_
  rw [ed, mm.2.2.1, mm.2.2.2, bn_q hT hI hP hX hM hE hD hp, cz_e (els_q hP hM hD hp), cz_e sl]
/-- what the reason of the reference hangs on -/
theorem wyR_k {T T' : Zt} {q p d : Int} (e : ∀ (k : Nat) (j : Int), 200 ≤ k → k ≤ 256 → T' k 0 j = T k 0 j) (e16 : T' 111 0 16 = T 111 0 16) (e29 : T' 111 0 29 = T 111 0 29) : wyR_ T' q p d = wyR_ T q p d := by
  have c : ∀ q d, co9_c T' q d = co9_c T q d := fun q d => coc_k (fun k j h => e k j (by omega) (by omega)) e16
  have rp : ∀ m, rp9_ T' m = rp9_ T m := fun m => rp_x (fun K j h => e K j (by omega) (by omega))
  have s : ∀ m q, slc_ T' m q = slc_ T m q := fun m q => by
    unfold slc_
    rw [rp]
  have e34 : ∀ m, T' 234 0 m = T 234 0 m := fun m => e 234 m (by decide) (by decide)
  have e35 : ∀ m, T' 235 0 m = T 235 0 m := fun m => e 235 m (by decide) (by decide)
  have e32 : ∀ m, T' 232 0 m = T 232 0 m := fun m => e 232 m (by decide) (by decide)
  have e33 : ∀ m, T' 233 0 m = T 233 0 m := fun m => e 233 m (by decide) (by decide)
  have kd : kdR_ T' q = kdR_ T q := by
    funext m
    unfold kdR_
    rw [s, e35, e 243 _ (by decide) (by decide)]
  have yv : yvR_ T' q = yvR_ T q := by
    funext m
    unfold yvR_
    rw [s, e 242 _ (by decide) (by decide)]
  have rl : rlR_ T' q = rlR_ T q := by
    funext m
    unfold rlR_
    rw [c, e34, e35, e32, e33]
  have dy : (fun m => T' 234 0 m) = fun m => T 234 0 m := funext e34
  have bn : bnR_ T' q p = bnR_ T q p := by
    unfold bnR_
    rw [kd, yv, rl, dy, e34, e 230 p (by decide) (by decide), e 205 _ (by decide) (by decide), e 205 _ (by decide) (by decide), e 210 _ (by decide) (by decide), e 211 _ (by decide) (by decide)]
  have el : elsR_ T' q p ↔ elsR_ T q p := by
    unfold elsR_
    rw [e29, e34 p]
    constructor
    · rintro ⟨k, k0, k1, k2, k3, k4, k5⟩
      rw [e34] at k3
      rw [e35] at k4
      rw [s] at k5
      exact ⟨k, k0, k1, k2, k3, k4, k5⟩
    · rintro ⟨k, k0, k1, k2, k3, k4, k5⟩
      rw [← e34] at k3
      rw [← e35] at k4
      rw [← s] at k5
      exact ⟨k, k0, k1, k2, k3, k4, k5⟩
  unfold wyR_
  rw [c, e34, e32, e33, bn, s, cz_e el]
theorem kn9_ (k : Nat) (j : Int) (h : k < 400) : fw_ [(448, []), (449, []), (533, [])] k j = false ∧ fw_ [(533, [])] k j = false := by
  have a : ∀ n : Nat, 400 ≤ n → (k == n) = false := fun n b => by
    rw [beq_eq_false_iff_ne]
    omega
  constructor <;> simp [fw_, a 448 (by decide), a 449 (by decide), a 533 (by decide)]
/-- whether a person may play -/
theorem pl_elig {T T1 : Zt} {N q m t x1 x2 : Int} (hT : ok_T T) (hI : IC_ N T) (hP : PLR_ T) (hX : TXR_ T) (hM : MAR_ T) (hE : ENR_ T) (hD : DAR_ T) (hN : CNR_ T) (f1 : fr_ [(533, [])] T T1) (d1 : ((x1 = -2 ∧ ¬ ((0 ≤ q ∧ q < T 108 0 3) ∧ 0 ≤ m ∧ m < T 106 0 4)) ∨ (((0 ≤ q ∧ q < T 108 0 3) ∧ 0 ≤ m ∧ m < T 106 0 4) ∧ ((x1 = -3 ∧ ¬ (0 ≤ t ∧ t ≤ 1)) ∨ ((0 ≤ t ∧ t ≤ 1) ∧ x1 = wyH_ T q m t))))) (d2 : ((x2 = -2 ∧ ¬ ((0 ≤ q ∧ q < T1 111 0 15) ∧ 0 ≤ m ∧ m < T1 111 0 29)) ∨ (((0 ≤ q ∧ q < T1 111 0 15) ∧ 0 ≤ m ∧ m < T1 111 0 29) ∧ ((x2 = -3 ∧ ¬ (0 ≤ t ∧ t ≤ 1)) ∨ ((0 ≤ t ∧ t ≤ 1) ∧ x2 = wyR_ T1 q m t))))) : x1 = x2 := by
  have mm := hM.1
  have c29 : T1 111 0 29 = T 111 0 29 := f1 111 0 29 rfl
  have c15 : T1 111 0 15 = T 111 0 15 := f1 111 0 15 rfl
  have n2 := hN.2.1
  rcases d1 with ⟨rfl, a⟩ | ⟨a, d1⟩
  · rcases d2 with ⟨rfl, -⟩ | ⟨b, -⟩
    · rfl
    · exfalso; omega
  · obtain ⟨-, d2⟩ := d2.resolve_left (fun z => z.2 (by omega))
    have k : wyR_ T1 q m t = wyR_ T q m t := wyR_k (fun k j a b => f1 k 0 j (kn9_ k j (by omega)).2) (f1 111 0 16 rfl) c29
    rw [k, ← wy_q hT hI hP hX hM hE hD a.2] at d2
    omega
/-- a line-up -/
theorem pl_line {T T1 T2 : Zt} {N q m t x1 x2 : Int} (hT : ok_T T) (hI : IC_ N T) (hR : IR_ T) (hP : PLR_ T) (hL : LDR_ T) (hX : TXR_ T) (hM : MAR_ T) (hE : ENR_ T) (hD : DAR_ T) (hN : CNR_ T) (f1 : fr_ [(448, []), (449, []), (533, [])] T T1) (d1 : ((x1 = -2 ∧ ¬ ((0 ≤ q ∧ q < T 108 0 3) ∧ 0 ≤ m ∧ m < T 106 0 4) ∧ SHN_ T T1) ∨ (((0 ≤ q ∧ q < T 108 0 3) ∧ 0 ≤ m ∧ m < T 106 0 4) ∧ ((x1 = -3 ∧ ¬ (0 ≤ t ∧ t ≤ 1) ∧ SHN_ T T1) ∨ ((0 ≤ t ∧ t ≤ 1) ∧ ((x1 = -4 ∧ ¬ (T 102 m 6 = -1 ∧ T 102 m 10 = 0) ∧ SHN_ T T1) ∨ ((T 102 m 6 = -1 ∧ T 102 m 10 = 0) ∧ ((x1 = -5 ∧ T 401 (T 102 m 0) 9 + 4 ≤ T 449 m t ∧ SHN_ T T1) ∨ (T 449 m t < T 401 (T 102 m 0) 9 + 4 ∧ ((wyH_ T q m t ≠ 0 ∧ x1 = -10 - wyH_ T q m t ∧ SHN_ T T1) ∨ (wyH_ T q m t = 0 ∧ x1 = T 449 m t + 1 ∧ SHH_ T T1 m t q))))))))))) (f2 : fr_ [(239, []), (240, [])] T1 T2) (d2 : ((SH_ T2 ∧ ∀ z, T1 239 0 z ≤ T2 239 0 z) ∧ ((x2 = -2 ∧ ¬ ((0 ≤ q ∧ q < T1 111 0 15) ∧ 0 ≤ m ∧ m < T1 111 0 29) ∧ T1 = T2) ∨ (((0 ≤ q ∧ q < T1 111 0 15) ∧ 0 ≤ m ∧ m < T1 111 0 29) ∧ ((x2 = -3 ∧ ¬ (0 ≤ t ∧ t ≤ 1) ∧ T1 = T2) ∨ ((0 ≤ t ∧ t ≤ 1) ∧ ((x2 = -4 ∧ T1 235 0 m ≠ 0 ∧ T1 = T2) ∨ (T1 235 0 m = 0 ∧ ((x2 = -5 ∧ T1 239 0 (2 * m + t) = T1 205 0 (23 * T1 230 0 m + 9) + 4 ∧ T1 = T2) ∨ (T1 239 0 (2 * m + t) ≠ T1 205 0 (23 * T1 230 0 m + 9) + 4 ∧ ((wyR_ T1 q m t ≠ 0 ∧ x2 = -10 - wyR_ T1 q m t ∧ T1 = T2) ∨ (wyR_ T1 q m t = 0 ∧ x2 = T1 239 0 (2 * m + t) + 1 ∧ SRR_ T1 T2 m t q)))))))))))) : x1 = x2 ∧ PLR_ T2 := by
  have mm := hM.1
  have c4 : T1 106 0 4 = T 106 0 4 := f1 106 0 4 rfl
  have c29 : T1 111 0 29 = T 111 0 29 := f1 111 0 29 rfl
  have c15 : T1 111 0 15 = T 111 0 15 := f1 111 0 15 rfl
  have v4 : T2 106 0 4 = T1 106 0 4 := f2 106 0 4 rfl
  have v29 : T2 111 0 29 = T1 111 0 29 := f2 111 0 29 rfl
  have n2 := hN.2.1
  have kR : ∀ j, KRM_ T T1 j := fun j => kqm_s (ks_f f1 (by decide +kernel))
  have kH : ∀ j, KHM_ T1 T2 j := fun j => khm_s (ks_f f2 (by decide +kernel))
  obtain ⟨-, d2⟩ := d2
  have stay : SHN_ T T1 → T1 = T2 → PLR_ T2 := fun s e => by
    subst e
    refine plr_s (m := -1) hP c4 c29 (fun z => absurd z (by decide)) (fun j _ _ _ => ⟨?_, kR j⟩) (fun j _ _ => ⟨f1 236 0 j rfl, f1 237 0 j rfl⟩)
    refine ⟨fun K i d => ?_, ⟨f1 102 j 0 rfl, f1 102 j 6 rfl, f1 102 j 10 rfl⟩, ⟨f1 103 j 0 rfl, f1 103 j 14 rfl, f1 103 j 15 rfl, f1 103 j 17 rfl⟩, fun w => f1 401 _ w rfl, fun _ i _ _ => f1 190 _ i rfl⟩
    rcases dk_c d with rfl | rfl | rfl | rfl | rfl | rfl | rfl | rfl | rfl | rfl | ⟨rfl, _⟩
    · exact s.1 j i
    · exact s.2 j i
    all_goals exact f1 _ j i rfl
  rcases d1 with ⟨rfl, a, s⟩ | ⟨a, d1⟩
  · rcases d2 with ⟨rfl, -, e⟩ | ⟨b, -⟩
    · exact ⟨rfl, stay s e⟩
    · exfalso; omega
  · obtain ⟨-, d2⟩ := d2.resolve_left (fun z => z.2.1 (by omega))
    have hm := a.2
    have g := hP.1 m hm.1 hm.2
    rcases d1 with ⟨rfl, b, s⟩ | ⟨b, d1⟩
    · rcases d2 with ⟨rfl, -, e⟩ | ⟨y, -⟩
      · exact ⟨rfl, stay s e⟩
      · exact absurd y b
    · obtain ⟨-, d2⟩ := d2.resolve_left (fun z => z.2.1 b)
      have t7 := pm_0 g.2
      have t2 : T1 235 0 m = T 235 0 m := f1 235 0 m rfl
      rcases d1 with ⟨rfl, c, s⟩ | ⟨c, d1⟩
      · rcases d2 with ⟨rfl, -, e⟩ | ⟨y, -⟩
        · exact ⟨rfl, stay s e⟩
        · exfalso; omega
      · obtain ⟨-, d2⟩ := d2.resolve_left (fun z => z.2.1 (by omega))
        have hc : 0 ≤ T 102 m 0 ∧ T 102 m 0 < T 106 0 2 := (hI.1.2.1 m hm.1 hm.2).2
        have e230 : T1 230 0 m = T 102 m 0 := (f1 230 0 m rfl).trans (hM.2 m hm.1 hm.2).1.symm
        have e9 : T1 205 0 (23 * T1 230 0 m + 9) = T 401 (T 102 m 0) 9 := by
          rw [e230, f1 205 0 (23 * T 102 m 0 + 9) rfl]
          exact ((hX.2.2.2.2 _ hc.1 hc.2).1 9 (by decide) (by decide)).symm
        have sm := g.1.1 t b.1 b.2
        have e39 : T1 239 0 (2 * m + t) = T 239 0 (2 * m + t) := f1 239 0 _ rfl
        have sh := (hR.2.2.2.2.2.2.1 m t hm.1 (by have n4 : T 106 0 4 ≤ 400 := (bd_f hT 106 4 tl_6_4 0).2; omega) b.1 b.2).1 (by omega)
        have e9b : T 205 0 (23 * T 230 0 m + 9) = T 401 (T 102 m 0) 9 := by
          rw [← (hM.2 m hm.1 hm.2).1]
          exact ((hX.2.2.2.2 _ hc.1 hc.2).1 9 (by decide) (by decide)).symm
        have kr := hI.1.2.2.2.1 _ hc.1 hc.2
        have k : wyR_ T1 q m t = wyH_ T q m t := (wyR_k (fun k j a b => f1 k 0 j (kn9_ k j (by omega)).1) (f1 111 0 16 rfl) c29).trans (wy_q hT hI hP hX hM hE hD hm).symm
        rw [e9, k] at d2
        rcases d1 with ⟨rfl, u, s⟩ | ⟨u, d1⟩
        · rcases d2 with ⟨rfl, -, e⟩ | ⟨y, -⟩
          · exact ⟨rfl, stay s e⟩
          · exfalso; omega
        · obtain ⟨-, d2⟩ := d2.resolve_left (fun z => by have := z.2.1; omega)
          rcases d1 with ⟨w, e1, s⟩ | ⟨w, e1, s⟩
          · rcases d2 with ⟨-, e2, e⟩ | ⟨y, -⟩
            · exact ⟨by omega, stay s e⟩
            · exact absurd y w
          · rcases d2 with ⟨y, -⟩ | ⟨-, e2, s2⟩
            · exact absurd w y
            · have pn : plc_ T m q = -1 := by
                refine Classical.byContradiction (fun z => ?_)
                by_cases o1 : co9_c T q (T 102 m 5) ≠ cz_ (t = 0) (T 102 m 3) (T 102 m 4)
                · rw [wyH_1 o1] at w; exact absurd w (by decide)
                · by_cases o2 : 0 < bnH_ T q m
                  · rw [wyH_2 o1 o2] at w; exact absurd w (by decide)
                  · rw [wyH_3 o1 o2 z] at w; exact absurd w (by decide)
              have pa : PAA_ T m := by
                rcases g.2 with y | y | y
                · exact y
                · exfalso; have := y.2.1; omega
                · exact absurd c.2 y.2.1
              obtain ⟨s1, s3, s4, s5⟩ := s
              obtain ⟨r1, r3, r4, r5⟩ := s2
              have e49 : ∀ i j, T2 449 i j = T1 449 i j := fun i j => f2 449 i j rfl
              have e48 : ∀ i j, T2 448 i j = T1 448 i j := fun i j => f2 448 i j rfl
              have k39 : ∀ j, T1 239 0 j = T 239 0 j := fun j => f1 239 0 j rfl
              have k40 : ∀ j, T1 240 0 j = T 240 0 j := fun j => f1 240 0 j rfl
              have nq : ∀ y, t * 10 ≤ y → y < t * 10 + T 449 m t → T 448 m y ≠ q := fun y y0 y1 e => by
                have p0 := pl_sl1 (q := q) g.1 (s := 0) (by decide) (by decide)
                by_cases o1 : plN_ T m q 0 (T 449 m 0).toNat 0 = -1
                · rw [plc_1 o1] at pn
                  rcases (by omega : t = 0 ∨ t = 1) with tc | tc
                  · rw [tc] at y0 y1
                    have n := plN_n (T 449 m 0).toNat 0 (by decide) (by decide) o1 y (by omega) (by omega)
                    rw [show (0 : Int) * 10 + y = y by omega] at n
                    exact n e
                  · rw [tc] at y0 y1
                    have n := plN_n (T 449 m 1).toNat 0 (by decide) (by decide) pn (y - 10) (by omega) (by omega)
                    rw [show (1 : Int) * 10 + (y - 10) = y by omega] at n
                    exact n e
                · rw [plc_0 o1] at pn
                  exact o1 pn
              refine ⟨by omega, plr_s (m := m) hP (by omega) (by omega) (fun _ _ => ⟨⟨fun t' u0 u1 => ?_, fun t' x u0 u1 x0 x1 => ?_, fun t' x y u0 u1 x0 x1 y0 y1 e => ?_⟩, Or.inl ?_⟩) (fun j j0 j1 nj => ⟨?_, ?_⟩) (fun j _ _ => ⟨(f2 236 0 j rfl).trans (f1 236 0 j rfl), (f2 237 0 j rfl).trans (f1 237 0 j rfl)⟩)⟩
              · have y := g.1.1 t' u0 u1
                rw [e49]
                by_cases o1 : t' = t
                · rw [o1] at y ⊢
                  omega
                · rw [r5 _ (by omega), k39, s5 m t' (fun z => o1 z.2)]
                  exact y
              · have y := g.1.1 t' u0 u1
                rw [e49] at x1
                rw [e48]
                by_cases o1 : t' = t
                · rw [o1] at x0 x1 y
                  rw [s3] at x1
                  by_cases o2 : x = t * 10 + T 449 m t
                  · rw [o2, s1, show 20 * m + (t * 10 + T 449 m t) = 10 * (2 * m + t) + T1 239 0 (2 * m + t) by omega]
                    exact r1
                  · rw [r4 _ (by omega), k40, s4 m x (fun z => o2 z.2)]
                    exact g.1.2.1 t x b.1 b.2 x0 (by omega)
                · rw [s5 m t' (fun z => o1 z.2)] at x1
                  rw [r4 _ (by omega), k40, s4 m x (fun z => by have := z.2; omega)]
                  exact g.1.2.1 t' x u0 u1 x0 x1
              · have y9 := g.1.1 t' u0 u1
                rw [e49] at x1 y1
                rw [e48, e48] at e
                by_cases o1 : t' = t
                · rw [o1] at x0 x1 y0 y1
                  rw [s3] at x1 y1
                  by_cases o2 : x = t * 10 + T 449 m t
                  · by_cases o3 : y = t * 10 + T 449 m t
                    · omega
                    · rw [o2, s1, s4 m y (fun z => o3 z.2)] at e
                      exact absurd e.symm (nq y y0 (by omega))
                  · by_cases o3 : y = t * 10 + T 449 m t
                    · rw [o3, s1, s4 m x (fun z => o2 z.2)] at e
                      exact absurd e (nq x x0 (by omega))
                    · rw [s4 m x (fun z => o2 z.2), s4 m y (fun z => o3 z.2)] at e
                      exact g.1.2.2 t x y b.1 b.2 x0 (by omega) y0 (by omega) e
                · rw [s5 m t' (fun z => o1 z.2)] at x1 y1
                  rw [s4 m x (fun z => by have := z.2; omega), s4 m y (fun z => by have := z.2; omega)] at e
                  exact g.1.2.2 t' x y u0 u1 x0 x1 y0 y1 e
              · unfold PAA_ at pa ⊢
                rw [f2 102 m 6 rfl, f1 102 m 6 rfl, f2 102 m 10 rfl, f1 102 m 10 rfl, f2 235 0 m rfl, f1 235 0 m rfl, f2 236 0 m rfl, f1 236 0 m rfl, f2 237 0 m rfl, f1 237 0 m rfl, f2 254 0 m rfl, f1 254 0 m rfl, f2 256 0 m rfl, f1 256 0 m rfl]
                exact pa
              · refine khm_t ⟨fun K i d => ?_, ⟨f1 102 j 0 rfl, f1 102 j 6 rfl, f1 102 j 10 rfl⟩, ⟨f1 103 j 0 rfl, f1 103 j 14 rfl, f1 103 j 15 rfl, f1 103 j 17 rfl⟩, fun w => f1 401 _ w rfl, fun _ i _ _ => f1 190 _ i rfl⟩ (kH j)
                rcases dk_c d with rfl | rfl | rfl | rfl | rfl | rfl | rfl | rfl | rfl | rfl | ⟨rfl, _⟩
                · exact s4 j i (fun z => nj z.1)
                · exact s5 j i (fun z => nj z.1)
                all_goals exact f1 _ j i rfl
              · refine kqm_t (kR j) ⟨?_, rw_k (fun k x c => by rcases c with rfl | rfl | rfl | rfl <;> exact f2 _ 0 x rfl) (fun x => f2 252 0 x rfl) (f2 253 0 j rfl) (f2 254 0 j rfl), f2 254 0 j rfl, f2 256 0 j rfl⟩
                funext K i
                by_cases y : dm_ K i = true
                · rw [rp_d y, rp_d y]
                  rcases dm_c y with ⟨z1, z2, z3, z4, z5⟩ | ⟨z1, z2, z3, z4, z5⟩ | ⟨z1, z2, z3, z4, z5⟩ | ⟨z1, z2, z3, z4, z5⟩ | ⟨z1, z2, z3, z4, z5⟩ | ⟨z1, z2, z3, z4, z5⟩ | ⟨z1, z2, z3, z4, z5⟩ | ⟨z1, z2, z3, z4, z5⟩ | ⟨z1, z2, z3, z4, z5⟩ | ⟨z1, z2, z3, z4, z5⟩ | ⟨z1, z2, z4, z5⟩ | ⟨z1, z2, z4, z5⟩ | ⟨z1, z2, z4, z5⟩ | ⟨z1, z2, z4, z5⟩ | ⟨z1, z2, z4, z5⟩ <;> rw [z4, z5] <;> first | exact f2 _ 0 _ rfl | exact r5 _ (by omega) | exact r4 _ (by omega)
                · rw [rp_z y, rp_z y]
-- postponements, plans, competitions, referees and title: the plays stay alike
/-- each match is of clubs that are there -/
def CLM_ (T : Zt) : Prop := ∀ m, 0 ≤ m → m < T 106 0 4 → T 102 m 3 < T 108 0 2 ∧ T 102 m 4 < T 108 0 2
theorem sa_q {T T1 : Zt} {N : Int} {f f' : Int → Int} {a b x : Int} (hT : ok_T T) (hI : IC_ N T) (hP : PLR_ T) (hX : TXR_ T) (hM : MAR_ T) (hH : THR_ T) (hC : CLM_ T) (e : ∀ (k : Nat) (j : Int), k = 205 ∨ k = 213 ∨ k = 230 ∨ k = 232 ∨ k = 233 ∨ k = 235 → T1 k 0 j = T k 0 j) (a0 : 0 ≤ a) (a1 : a < T 106 0 4) (b0 : 0 ≤ b) (b1 : b < T 106 0 4) (hf : f' b = f b) : SAR_ T1 f' a b x ↔ SAH_ T f a b x := by
  have ma := hM.2 a a0 a1
  have mb := hM.2 b b0 b1
  have ca := (hI.1.2.1 a a0 a1).2
  have cb := (hI.1.2.1 b b0 b1).2
  have na : 0 ≤ T 102 a 3 := (bd_f hT 102 3 tl_2_3 a).1
  have nb : 0 ≤ T 102 b 3 := (bd_f hT 102 3 tl_2_3 b).1
  have ta := (hH.1 _ na (hC a a0 a1).1).1
  have tb := (hH.1 _ nb (hC b b0 b1).1).1
  unfold SAR_ SAH_
  refine sa_e ?_ ?_ ⟨?_, ?_⟩ ?_ ?_ hf
  · unfold sqR_ sqH_
    rw [e 213 _ (by decide), e 213 _ (by decide), e 232 _ (by decide), e 232 _ (by decide), ← ma.2.2.1, ← mb.2.2.1, ta, tb]
  · unfold hqR_ hqH_
    rw [e 232 a (by decide), e 232 b (by decide), e 233 a (by decide), e 233 b (by decide), ← ma.2.2.1, ← mb.2.2.1, ← ma.2.2.2, ← mb.2.2.2]
    constructor
    · intro u; omega
    · intro u; omega
  · unfold rsR_ rsH_
    rw [e 205 _ (by decide), e 230 _ (by decide), ← ma.1]
    exact ((hX.2.2.2.2 _ ca.1 ca.2).1 8 (by decide) (by decide)).symm
  · unfold rsR_ rsH_
    rw [e 205 _ (by decide), e 230 _ (by decide), ← mb.1]
    exact ((hX.2.2.2.2 _ cb.1 cb.2).1 8 (by decide) (by decide)).symm
  · unfold abR_ abH_
    rw [e 235 _ (by decide)]
    exact (pm_3 (hP.1 a a0 a1).2).symm
  · unfold abR_ abH_
    rw [e 235 _ (by decide)]
    exact (pm_3 (hP.1 b b0 b1).2).symm
/-- a match put off -/
theorem pl_post {T T1 T2 : Zt} {N m d x1 x2 : Int} (hT : ok_T T) (hI : IC_ N T) (hP : PLR_ T) (hX : TXR_ T) (hM : MAR_ T) (hH : THR_ T) (hC : CLM_ T) (hD : DAR_ T) (hV : MVR_ T) (hN : CNR_ T) (f1 : fr_ [(535, []), (534, []), (102, [5]), (533, []), (531, []), (106, [12])] T T1) (d1 : ((x1 = -2 ∧ ¬ (0 ≤ m ∧ m < T 106 0 4) ∧ T = T1) ∨ ((0 ≤ m ∧ m < T 106 0 4) ∧ ((x1 = -3 ∧ ¬ (T 108 0 13 < d ∧ d ≤ 999 ∧ 0 ≤ d) ∧ T = T1) ∨ ((T 108 0 13 < d ∧ d ≤ 999 ∧ 0 ≤ d) ∧ ((x1 = -4 ∧ ¬ ((T 102 m 6 = -1 ∧ T 102 m 10 = 0) ∧ T 102 m 5 ≠ d) ∧ T = T1) ∨ (((T 102 m 6 = -1 ∧ T 102 m 10 = 0) ∧ T 102 m 5 ≠ d) ∧ PTO_ T T1 m d x1))))))) (f2 : fr_ [(234, []), (271, []), (272, []), (111, [73, 75]), (274, [])] T1 T2) (d2 : ((x2 = -2 ∧ ¬ (0 ≤ m ∧ m < T1 111 0 29) ∧ T1 = T2) ∨ ((0 ≤ m ∧ m < T1 111 0 29) ∧ ((x2 = -3 ∧ ¬ (T1 111 0 3 < d ∧ d ≤ 999 ∧ 0 ≤ d) ∧ T1 = T2) ∨ ((T1 111 0 3 < d ∧ d ≤ 999 ∧ 0 ≤ d) ∧ ((x2 = -4 ∧ ¬ (T1 235 0 m = 0 ∧ T1 234 0 m ≠ d) ∧ T1 = T2) ∨ ((T1 235 0 m = 0 ∧ T1 234 0 m ≠ d) ∧ PTQ_ T1 T2 m d x2))))))) : x1 = x2 ∧ DAR_ T2 ∧ MVR_ T2 := by
  have c4 : T1 106 0 4 = T 106 0 4 := f1 106 0 4 rfl
  have c29 : T1 111 0 29 = T 111 0 29 := f1 111 0 29 rfl
  have c3 : T1 111 0 3 = T 111 0 3 := f1 111 0 3 rfl
  have v4 : T2 106 0 4 = T1 106 0 4 := f2 106 0 4 rfl
  have v5 : ∀ i, T2 102 i 5 = T1 102 i 5 := fun i => f2 102 i 5 rfl
  have v12 : T2 106 0 12 = T1 106 0 12 := f2 106 0 12 rfl
  have v31 : ∀ j, T2 531 0 j = T1 531 0 j := fun j => f2 531 0 j rfl
  have c34 : ∀ j, T1 234 0 j = T 234 0 j := fun j => f1 234 0 j rfl
  have c74 : ∀ j, T1 274 0 j = T 274 0 j := fun j => f1 274 0 j rfl
  have c75 : T1 111 0 75 = T 111 0 75 := f1 111 0 75 rfl
  have c35 : ∀ j, T1 235 0 j = T 235 0 j := fun j => f1 235 0 j rfl
  have mm := hM.1
  have t6 := hN.2.2.2
  have m4 : 0 ≤ T 106 0 4 ∧ T 106 0 4 ≤ 400 := bd_f hT 106 4 tl_6_4 0
  rcases d1 with ⟨rfl, hn, rfl⟩ | ⟨hm, d1⟩
  · rcases d2 with ⟨rfl, -, rfl⟩ | ⟨hm2, -⟩
    · exact ⟨rfl, hD, hV⟩
    · exfalso; omega
  · obtain ⟨-, d2⟩ := d2.resolve_left (fun z => z.2.1 (by omega))
    rcases d1 with ⟨rfl, a, rfl⟩ | ⟨a, d1⟩
    · rcases d2 with ⟨rfl, -, rfl⟩ | ⟨y, -⟩
      · exact ⟨rfl, hD, hV⟩
      · exfalso; omega
    · obtain ⟨-, d2⟩ := d2.resolve_left (fun z => z.2.1 (by omega))
      have t7 := pm_0 (hP.1 m hm.1 hm.2).2
      have t5 := hD m hm.1 hm.2
      have u5 := c34 m
      have u6 := c35 m
      rcases d1 with ⟨rfl, b, rfl⟩ | ⟨b, d1⟩
      · rcases d2 with ⟨rfl, -, rfl⟩ | ⟨y, -⟩
        · exact ⟨rfl, hD, hV⟩
        · exfalso; omega
      · obtain ⟨-, d2⟩ := d2.resolve_left (fun z => z.2.1 (by omega))
        have ee : ∀ (k : Nat) (j : Int), k = 205 ∨ k = 213 ∨ k = 230 ∨ k = 232 ∨ k = 233 ∨ k = 235 → T1 k 0 j = T k 0 j := fun k j h => by
          rcases h with rfl | rfl | rfl | rfl | rfl | rfl <;> exact f1 _ 0 j rfl
        have dq : ∀ j, 0 ≤ j → j < T 106 0 4 → T1 234 0 j = T 102 j 5 := fun j j0 j1 => (c34 j).trans (hD j j0 j1).symm
        have ag : ∀ k, 0 ≤ k → k < T 106 0 4 → (AGR_ T1 m d k ↔ AGH_ T m d k) := fun k k0 k1 => sa_q hT hI hP hX hM hH hC ee hm.1 hm.2 k0 k1 (dq k k0 k1)
        have bk : ∀ (f f' : Int → Int) (k x : Int), (∀ j, 0 ≤ j → j < T 106 0 4 → f' j = f j) → 0 ≤ k → k < T 106 0 4 → (BKR_ T1 f' k x ↔ BKH_ T f k x) := fun f f' k x h k0 k1 => by
          unfold BKR_ BKH_ BK_
          constructor
          · rintro ⟨z, z0, z1, z2⟩
            exact ⟨z, z0, by omega, (sa_q hT hI hP hX hM hH hC ee k0 k1 z0 (by omega) (h z z0 (by omega))).mp z2⟩
          · rintro ⟨z, z0, z1, z2⟩
            exact ⟨z, z0, by omega, (sa_q hT hI hP hX hM hH hC ee k0 k1 z0 z1 (h z z0 z1)).mpr z2⟩
        have mv := mv_e (bk := BKH_ T) (bk' := BKR_ T1) (ag := AGH_ T m d) (ag' := AGR_ T1 m d) (d := d) (day := u1_ (fun m => T 102 m 5) m d) (day' := u1_ (fun m => T1 234 0 m) m d) (n := T 106 0 4) (fun j j0 j1 => by
          by_cases z : j = m
          · rw [z, u1_s, u1_s]
          · rw [u1_n z, u1_n z]
            exact dq j j0 j1) ag bk (T 106 0 4).toNat (by omega)
        have tl : (∀ k, 0 ≤ k → k < T1 111 0 29 → AGR_ T1 m d k → TLR_ T1 k) ↔ (∀ k, 0 ≤ k → k < T 106 0 4 → AGH_ T m d k → TLD_ T k) := by
          constructor
          · intro h k k0 k1 k2
            have y : T1 235 0 k = 0 := h k k0 (by omega) ((ag k k0 k1).mpr k2)
            exact (pm_0 (hP.1 k k0 k1).2).mpr ((c35 k).symm.trans y)
          · intro h k k0 k1 k2
            have k1' : k < T 106 0 4 := by omega
            show T1 235 0 k = 0
            rw [c35]
            exact (pm_0 (hP.1 k k0 k1').2).mp (h k k0 k1' ((ag k k0 k1').mp k2))
        have e2 : (mvR_ T1 m d (T1 111 0 29)).2 = (mvH_ T m d (T 106 0 4)).2 := by
          unfold mvR_ mvH_
          rw [show T1 111 0 29 = T 106 0 4 by omega]
          exact mv.1
        have e3 : ∀ j, 0 ≤ j → j < T 106 0 4 → (mvR_ T1 m d (T1 111 0 29)).1 j = (mvH_ T m d (T 106 0 4)).1 j := fun j j0 j1 => by
          unfold mvR_ mvH_
          rw [show T1 111 0 29 = T 106 0 4 by omega]
          exact mv.2 j j0 j1
        unfold PTO_ at d1
        unfold PTQ_ at d2
        rw [tl, e2] at d2
        rcases d1 with ⟨x, y, z1, z2, z3⟩ | ⟨x, y1, y2, z1, z2, z3, z4⟩
        · rcases d2 with ⟨u, -, w1, w2, w3⟩ | ⟨-, u1, u2, -⟩
          · refine ⟨by omega, fun j j0 j1 => ?_, ?_, fun k k0 k1 => ?_⟩
            · rw [v5, z1, w1, c34]
              exact hD j j0 (by omega)
            · have := hV.1; omega
            · rw [v31, z2, w2, c74]
              exact hV.2 k k0 (by omega)
          · exact absurd ⟨u1, u2⟩ y
        · rcases d2 with ⟨-, u, -⟩ | ⟨u, -, -, w1, w2, w3⟩
          · exact absurd ⟨y1, y2⟩ u
          · rw [show T1 111 0 29 = T 106 0 4 by omega] at w2
            have lq := lhd_q z3 w2 (fun j j0 j1 => (ag j (by omega) (by omega)).symm) x u
            refine ⟨lq.1, fun j j0 j1 => ?_, by omega, fun k k0 k1 => ?_⟩
            · rw [v5, z1, w1]
              exact (e3 j j0 (by omega)).symm
            · rw [v31]
              exact lq.2 k k0 (by omega)
/-- what both plans do -/
theorem enr_b {T T1 T2 : Zt} {c f x1 x2 : Int} (h : ENR_ T) (hm : MAR_ T) (ht : TXR_ T) (hd : T 108 0 13 = T 111 0 3) (hd0 : 0 ≤ T 108 0 13) (h0 : 0 ≤ T 106 0 4) (hb5 : ∀ d, 0 ≤ T 100 d 5 ∧ T 100 d 5 ≤ 12) (d1 : PH9_ T T1 c f x1) (r : krn_ T T1) (rp : krp_ T T1) (rt : ktr_ T T1) (r3 : T1 111 0 3 = T 111 0 3) (d2 : PR9_ T1 T2 c f x2) (s2 : (x2 < 0 ∧ T2 = T1) ∨ PQ9_ T1 T2 c) : (T1 = T ∧ T2 = T1) ∨ ((0 ≤ c ∧ c < T 106 0 2) ∧ SJ_ T T1 c ∧ PQ9_ T1 T2 c ∧ ∃ l, AP9_ T T1 c l ∧ AR9_ T1 T2 c l) := by
  obtain ⟨t1, t2, t3, t4, t5⟩ := ht
  by_cases hc : 0 ≤ c ∧ c < T 106 0 2
  · obtain ⟨z1, z2, z3, z4, z5, z6⟩ := h.1 c hc.1 hc.2
    have tc := (t5 c hc.1 hc.2).1
    have q6 := tc 6 (by omega) (by omega)
    have q7 := tc 7 (by omega) (by omega)
    have rc := r.2 c
    have e8 : T1 208 0 c = T 100 c 5 := by omega
    have e9 : T1 209 0 c = T 100 c 6 := by omega
    have e6 : T1 205 0 (23 * c + 6) = T 401 c 6 := by rw [rt.2.2.2.2]; omega
    have e7 : T1 205 0 (23 * c + 7) = T 401 c 7 := by rw [rt.2.2.2.2]; omega
    have am := an9_m (x := T 100 c 5) (by have := hb5 c; omega)
    have e29 : T1 111 0 29 = T 106 0 4 := by have := rp.1; have := hm.1; omega
    unfold PR9_ at d2
    rw [e8, e9, e6, e7, e29, r3, ← hd, Int.mul_comm (T 401 c 6) (T 100 c 5 + T 100 c 5 % 2 - 1), Int.mul_comm (T 401 c 6) (T 100 c 5 * (T 100 c 5 - 1) / 2)] at d2
    unfold PH9_ at d1
    rw [am] at d1
    have hc2 : 0 ≤ c ∧ c < T1 111 0 6 := by have := rt.2.2.1; omega
    rcases d1 with ⟨a0, a⟩ | ⟨a1, a2, a3, a4, a5, a6, a7, a8, a9⟩
    · rcases d2 with ⟨b0, b⟩ | ⟨b1, b2, b3, b4, b5, b6, b7, b8, b9⟩
      · exact Or.inl ⟨a0, b0⟩
      · exfalso
        omega
    · rcases d2 with ⟨b0, b⟩ | ⟨b1, b2, b3, b4, b5, b6, b7, b8, b9⟩
      · exfalso
        omega
      · exact Or.inr ⟨hc, a8, s2.resolve_left (fun z => by omega), _, a9, b9⟩
  · have hc2 : ¬ (0 ≤ c ∧ c < T1 111 0 6) := by have := rt.2.2.1; omega
    unfold PR9_ at d2
    unfold PH9_ at d1
    rcases d1 with ⟨a0, -⟩ | ⟨a1, -⟩
    · rcases d2 with ⟨b0, -⟩ | ⟨b1, -⟩
      · exact Or.inl ⟨a0, b0⟩
      · exact absurd b1 hc2
    · exact absurd a1 hc
/-- a plan -/
theorem pl_plan {T T1 T2 : Zt} {N c : Int} (hI : IC_ N T) (hR : IR_ T) (hP : PLR_ T) (hL : LDR_ T) (hM : MAR_ T) (hD : DAR_ T) (hC : CLM_ T) (i2 : IC_ (N + 1) T2) (j2 : IR_ T2) (hE2 : ENR_ T2) (hN2 : CNR_ T2) (c4 : T 106 0 2 ≤ 4) (cl3_ : ∀ i, 0 ≤ T2 102 i 3 ∧ T2 102 i 3 < 12) (cl4_ : ∀ i, 0 ≤ T2 102 i 4 ∧ T2 102 i 4 < 12) (h40 : T2 111 0 29 ≤ 400) (sk : SQ8_ T T1) (g : (T1 = T ∧ T2 = T1) ∨ ((0 ≤ c ∧ c < T 106 0 2) ∧ SJ_ T T1 c ∧ PQ9_ T1 T2 c ∧ ∃ l, AP9_ T T1 c l ∧ AR9_ T1 T2 c l)) (f2 : fr_ [(230, []), (231, []), (232, []), (233, []), (234, []), (235, []), (238, []), (253, []), (255, []), (111, [29]), (209, []), (210, []), (211, [])] T1 T2) : PLR_ T2 ∧ LDR_ T2 ∧ DAR_ T2 ∧ CLM_ T2 := by
  rcases g with ⟨rfl, rfl⟩ | ⟨hc, ⟨-, f1, od, -, ⟨s6, s7, s8⟩, oc⟩, ⟨⟨am1, am2, am3, am4⟩, -, -, -, -, -⟩, l, ⟨p1, p2⟩, q1, q2⟩
  · exact ⟨hP, hL, hD, hC⟩
  · have c29 : T1 111 0 29 = T 111 0 29 := f1 111 0 29 rfl
    have v4 : T2 106 0 4 = T1 106 0 4 := f2 106 0 4 rfl
    have mm := hM.1
    have kH : ∀ j, KHM_ T1 T2 j := fun j => khm_s (ks_f f2 (by decide +kernel))
    have new : ∀ m, T 106 0 4 ≤ m → m < T1 106 0 4 → ∃ (k : Nat) (q : Fx9_), m = T 106 0 4 + (k : Int) ∧ l[k]? = some q := fun m a b => by
      have hk : (m - T 106 0 4).toNat < l.length := by omega
      exact ⟨(m - T 106 0 4).toNat, l[(m - T 106 0 4).toNat], by omega, List.getElem?_eq_getElem hk⟩
    have old : ∀ j, 0 ≤ j → j < T 106 0 4 → KHM_ T T2 j ∧ KRM_ T T2 j := fun j j0 j1 => by
      refine ⟨khm_t ⟨fun K i d => ?_, ⟨od j 0 j1, od j 6 j1, od j 10 j1⟩, ⟨f1 103 j 0 rfl, f1 103 j 14 rfl, f1 103 j 15 rfl, f1 103 j 17 rfl⟩, fun w => f1 401 _ w rfl, fun _ i _ _ => f1 190 _ i rfl⟩ (kH j), kqm_t (kqm_s (ks_f f1 (by decide +kernel))) ⟨?_, rw_k (fun k x c => by rcases c with rfl | rfl | rfl | rfl <;> exact f2 _ 0 x rfl) (fun x => f2 252 0 x rfl) (am2 j (by omega)).2.2.2.2.2.2.2.1 (f2 254 0 j rfl), f2 254 0 j rfl, f2 256 0 j rfl⟩⟩
      · rcases dk_c d with rfl | rfl | rfl | rfl | rfl | rfl | rfl | rfl | rfl | rfl | ⟨rfl, _⟩
        · exact sk.1 448 j i (Or.inl rfl) j1
        · exact sk.1 449 j i (Or.inr rfl) j1
        all_goals exact f1 _ j i rfl
      · funext K i
        by_cases y : dm_ K i = true
        · rw [rp_d y, rp_d y]
          rcases dm_c y with ⟨z1, z2, z3, z4, z5⟩ | ⟨z1, z2, z3, z4, z5⟩ | ⟨z1, z2, z3, z4, z5⟩ | ⟨z1, z2, z3, z4, z5⟩ | ⟨z1, z2, z3, z4, z5⟩ | ⟨z1, z2, z3, z4, z5⟩ | ⟨z1, z2, z3, z4, z5⟩ | ⟨z1, z2, z3, z4, z5⟩ | ⟨z1, z2, z3, z4, z5⟩ | ⟨z1, z2, z3, z4, z5⟩ | ⟨z1, z2, z4, z5⟩ | ⟨z1, z2, z4, z5⟩ | ⟨z1, z2, z4, z5⟩ | ⟨z1, z2, z4, z5⟩ | ⟨z1, z2, z4, z5⟩ <;> rw [z4, z5] <;> first | exact f2 _ 0 _ rfl | exact (am2 j (by omega)).2.2.2.2.2.1
        · rw [rp_z y, rp_z y]
    refine ⟨⟨fun j j0 j1 => ?_, fun j j0 j1 => ?_⟩, ?_, fun j j0 j1 => ?_, fun j j0 j1 => ?_⟩
    · by_cases z : j < T 106 0 4
      · have g := hP.1 j j0 z
        have k := old j j0 z
        exact ⟨shm_k g.1 k.1 k.2, pm_k g.2 k.1 k.2⟩
      · obtain ⟨k, q, e, hq⟩ := new j (by omega) (by omega)
        have y := p2 k q hq
        have w := q2 k q hq
        rw [show T1 111 0 29 + (k : Int) = j by omega] at w
        rw [← e] at y
        have s9 := hR.2.2.2.2.2.2.1 j
        have e49 : ∀ t, 0 ≤ t → T2 449 j t = 0 := fun t t0 => (f2 449 j t rfl).trans (sk.2 j t (by omega) (by omega) t0)
        have e39 : ∀ t, 0 ≤ t → t ≤ 1 → T2 239 0 (2 * j + t) = 0 := fun t t0 t1 => (f2 239 0 _ rfl).trans ((f1 239 0 _ rfl).trans ((s9 t (by omega) (by omega) t0 t1).2 (by omega)))
        have rz := hR.2.2.2.2.2.2.2.2.2.1 j (by omega) (by omega)
        have hz := hP.2 j (by omega) (by omega)
        refine ⟨⟨fun t t0 t1 => ?_, fun t x t0 t1 x0 x1 => ?_, fun t x y t0 t1 x0 x1 y0 y1 e => ?_⟩, Or.inl ⟨?_, ?_, w.2.2.2.2.2.1, ?_, ?_, ?_, ?_⟩⟩
        · rw [e39 t t0 t1, e49 t t0]
          exact ⟨rfl, by decide, by decide⟩
        · rw [e49 t t0] at x1
          exfalso; omega
        · rw [e49 t t0] at x1
          exfalso; omega
        · rw [f2 102 j 6 rfl]; exact y.2.2.2.2.2.1
        · rw [f2 102 j 10 rfl]; exact y.2.2.2.2.2.2.2
        · exact (f2 236 0 j rfl).trans ((f1 236 0 j rfl).trans hz.1)
        · exact (f2 237 0 j rfl).trans ((f1 237 0 j rfl).trans hz.2)
        · exact (f2 254 0 j rfl).trans ((f1 254 0 j rfl).trans rz.1)
        · exact (f2 256 0 j rfl).trans ((f1 256 0 j rfl).trans rz.2)
    · have hz := hP.2 j (by omega) j1
      have y1 : T2 236 0 j = T 236 0 j := (f2 236 0 j rfl).trans (f1 236 0 j rfl)
      have y2 : T2 237 0 j = T 237 0 j := (f2 237 0 j rfl).trans (f1 237 0 j rfl)
      omega
    · have e10 : ∀ j, 0 ≤ j → j < T2 106 0 4 → T2 102 j 10 ≠ 0 → j < T 106 0 4 ∧ T 102 j 10 ≠ 0 := fun j j0 j1 jp => by
        by_cases z : j < T 106 0 4
        · rw [f2 102 j 10 rfl, od j 10 z] at jp
          exact ⟨z, jp⟩
        · exfalso
          obtain ⟨k, q, e, hq⟩ := new j (by omega) (by omega)
          have y := p2 k q hq
          rw [← e] at y
          rw [f2 102 j 10 rfl] at jp
          exact jp y.2.2.2.2.2.2.2
      have e14 : ∀ j, T2 103 j 14 = T 103 j 14 := fun j => (f2 103 j 14 rfl).trans (f1 103 j 14 rfl)
      have e16 : ∀ j, T2 103 j 16 = T 103 j 16 := fun j => (f2 103 j 16 rfl).trans (f1 103 j 16 rfl)
      have e44 : T2 104 0 4 = T 104 0 4 := (f2 104 0 4 rfl).trans (f1 104 0 4 rfl)
      have e15 : T2 109 0 15 = T 109 0 15 := (f2 109 0 15 rfl).trans (f1 109 0 15 rfl)
      have e91 : T2 191 0 0 = T 191 0 0 := (f2 191 0 0 rfl).trans (f1 191 0 0 rfl)
      refine ⟨by have := hL.1; omega, fun i i0 i1 ip => ?_⟩
      have y := e10 i i0 i1 ip
      have u := hL.2 i i0 y.1 y.2
      rw [e14, e16, e44, e15]
      refine ⟨u.1, fun j j0 j1 jp n => ?_⟩
      have y2 := e10 j j0 j1 jp
      rw [e14, e16]
      exact u.2 j j0 y2.1 y2.2 n
    · by_cases z : j < T 106 0 4
      · rw [f2 102 j 5 rfl, od j 5 z, (am2 j (by omega)).2.2.2.2.1, f1 234 0 j rfl]
        exact hD j j0 z
      · obtain ⟨k, q, e, hq⟩ := new j (by omega) (by omega)
        have y := p2 k q hq
        have w := q2 k q hq
        rw [show T1 111 0 29 + (k : Int) = j by omega] at w
        rw [← e] at y
        rw [f2 102 j 5 rfl, y.2.2.2.2.1, w.2.2.2.2.1]
    · have e108 : T2 108 0 2 = T 108 0 2 := (f2 108 0 2 rfl).trans (f1 108 0 2 rfl)
      by_cases z : j < T 106 0 4
      · rw [f2 102 j 3 rfl, f2 102 j 4 rfl, od j 3 z, od j 4 z, e108]
        exact hC j j0 z
      · have b2 : T2 106 0 2 = T 106 0 2 := (f2 106 0 2 rfl).trans (f1 106 0 2 rfl)
        have h7 : T2 100 c 7 = T1 100 c 7 := f2 100 c 7 rfl
        have h8 : T2 100 c 8 = T1 100 c 8 := f2 100 c 8 rfl
        have ks := i2.1.2.2.2.2.1 c hc.1 (by omega) j (by omega) (by omega)
        have en := hE2.1 c hc.1 (by omega)
        have ee := (j2.2.2.2.1 c hc.1 (by omega)).1
        have n2 := hN2.1
        have key : ∀ b, 0 ≤ b → b < 12 → 0 ≤ T2 404 c b → b < T2 108 0 2 := fun b b0 b1 s => by
          rcases en.2.2.2.2.2 b b0 b1 with y | ⟨y1, y2, y3⟩
          · omega
          · have u := en.2.2.2.2.1 _ y1 y2
            have v := ee _ y1 (by have := en.1; omega)
            rw [← u, y3] at v
            omega
        exact ⟨key _ (cl3_ j).1 (cl3_ j).2 ks.2.1, key _ (cl4_ j).1 (cl4_ j).2 ks.2.2⟩
/-- the plays under what leaves all rows but one -/
theorem plr_a {T T1 : Zt} {N w : Int} (hl : LP_ N T) (hP : PLR_ T) (k : ks_ [(102, [0, 6, 10]), (103, []), (448, []), (449, []), (466, []), (467, []), (468, []), (469, []), (470, []), (471, []), (472, []), (473, []), (401, [])] T T1) (kr : ks_ FRF_ T T1) (c1 : T1 106 0 4 = T 106 0 4) (c2 : T1 111 0 29 = T 111 0 29) (h : ∀ x j, x < T 191 0 0 → x ≠ w → T1 190 x j = T 190 x j) (g : ∀ m, 0 ≤ m → m < T 106 0 4 → T 102 m 10 ≠ 0 → T 103 m 14 ≠ w) : PLR_ T1 := by
  refine plr_s (m := -1) hP c1 c2 (fun z => absurd z (by decide)) (fun j j0 j1 _ => ⟨⟨fun K i d => ?_, ⟨k 102 j 0 rfl, k 102 j 6 rfl, k 102 j 10 rfl⟩, ⟨k 103 j 0 rfl, k 103 j 14 rfl, k 103 j 15 rfl, k 103 j 17 rfl⟩, fun w => k 401 _ w rfl, fun q i _ _ => h _ i (hl j j0 j1 q).1.2.2.2.2.2.1 (g j j0 j1 q)⟩, kqm_s kr⟩) (fun j _ _ => ⟨kr 236 0 j rfl, kr 237 0 j rfl⟩)
  rcases dk_c d with rfl | rfl | rfl | rfl | rfl | rfl | rfl | rfl | rfl | rfl | ⟨rfl, _⟩ <;> exact k _ j i rfl
theorem ldr_a {T T1 : Zt} {N : Int} (hl : LP_ N T) (h : LDR_ T) (e : T1 106 0 4 = T 106 0 4) (e15 : T1 109 0 15 = T 109 0 15) (g : ∀ m, T1 102 m 10 = T 102 m 10 ∧ T1 103 m 14 = T 103 m 14 ∧ T1 103 m 16 = T 103 m 16) (l : T 191 0 0 ≤ T1 191 0 0) (k : T1 104 0 4 = T 104 0 4 ∨ (T1 104 0 4 = T 191 0 0 ∧ T 191 0 0 < T1 191 0 0)) : LDR_ T1 := by
  refine ⟨by have := h.1; omega, fun m m0 m1 mp => ?_⟩
  have gm := g m
  have y := h.2 m m0 (by omega) (by omega)
  have lm := (hl m m0 (by omega) (by omega)).1.2.2.2.2.2.1
  refine ⟨by have := y.1; omega, fun j j0 j1 jp n => ?_⟩
  have gj := g j
  have w := y.2 j j0 (by omega) (by omega) n
  omega
theorem ldr_c {T T1 : Zt} {N : Int} (hl : LP_ N T) (h : LDR_ T) (e : T1 106 0 4 = T 106 0 4) (e44 : T1 104 0 4 = T 104 0 4) (g : ∀ m, T1 102 m 10 = T 102 m 10 ∧ T1 103 m 14 = T 103 m 14 ∧ T1 103 m 16 = T 103 m 16) (l : T 191 0 0 ≤ T1 191 0 0) (k : T1 109 0 15 = T 109 0 15 ∨ (T1 109 0 15 = T 191 0 0 + 1 ∧ T 191 0 0 < T1 191 0 0)) : LDR_ T1 := by
  refine ⟨by have := h.1; omega, fun m m0 m1 mp => ?_⟩
  have gm := g m
  have y := h.2 m m0 (by omega) (by omega)
  have lm := (hl m m0 (by omega) (by omega)).1.2.2.2.2.2.1
  refine ⟨by have := y.1; omega, fun j j0 j1 jp n => ?_⟩
  have gj := g j
  have w := y.2 j j0 (by omega) (by omega) n
  omega
/-- referees shared out -/
theorem pl_assign {T T1 : Zt} {N : Int} (hI : IC_ N T) (hP : PLR_ T) (hL : LDR_ T) (f1 : fr_ [(104, [3, 4]), (482, []), (102, [7]), (190, []), (191, [0])] T T1) (k : KPA_ T T1) (lh : lh_ T T1) : PLR_ T1 ∧ LDR_ T1 :=
  ⟨plr_a hI.2.2.2.1 hP (ks_f f1 (by decide +kernel)) (ks_f f1 (by decide +kernel)) (f1 106 0 4 rfl) (f1 111 0 29 rfl) k.1 (fun m a b c => (hL.2 m a b c).1.2.1), ldr_a hI.2.2.2.1 hL (f1 106 0 4 rfl) (f1 109 0 15 rfl) (fun m => ⟨f1 102 m 10 rfl, f1 103 m 14 rfl, f1 103 m 16 rfl⟩) lh.2 k.2⟩
/-- the title asked for -/
theorem pl_can {T T1 : Zt} {N : Int} (hI : IC_ N T) (hP : PLR_ T) (hL : LDR_ T) (f1 : fr_ [(109, [5, 3, 9, 6, 2, 15]), (584, []), (588, []), (587, []), (591, []), (592, []), (590, []), (593, []), (594, []), (107, [1]), (542, []), (543, []), (544, []), (545, []), (546, []), (190, []), (191, [0])] T T1) (k : KPT_ T T1) (lh : lh_ T T1) : PLR_ T1 ∧ LDR_ T1 :=
  ⟨plr_a (w := T 109 0 15 - 1) hI.2.2.2.1 hP (ks_f f1 (by decide +kernel)) (ks_f f1 (by decide +kernel)) (f1 106 0 4 rfl) (f1 111 0 29 rfl) (fun x j a b => k.1 x j a (by omega)) (fun m a b c => by have := (hL.2 m a b c).1.2.2; omega), ldr_c hI.2.2.2.1 hL (f1 106 0 4 rfl) (f1 104 0 4 rfl) (fun m => ⟨f1 102 m 10 rfl, f1 103 m 14 rfl, f1 103 m 16 rfl⟩) lh.2 k.2⟩
/-- a new competition -/
theorem pl_comp {T T1 : Zt} {N : Int} (hI : IC_ N T) (hP : PLR_ T) (k : ks_ [(102, [0, 6, 10]), (103, []), (448, []), (449, []), (466, []), (467, []), (468, []), (469, []), (470, []), (471, []), (472, []), (473, []), (190, [])] T T1) (kr : ks_ FRF_ T T1) (c1 : T1 106 0 4 = T 106 0 4) (c2 : T1 111 0 29 = T 111 0 29) (h : ∀ i j, i ≠ T 106 0 2 → T1 401 i j = T 401 i j) : PLR_ T1 := by
  refine plr_s (m := -1) hP c1 c2 (fun z => absurd z (by decide)) (fun j j0 j1 _ => ⟨⟨fun K i d => ?_, ⟨k 102 j 0 rfl, k 102 j 6 rfl, k 102 j 10 rfl⟩, ⟨k 103 j 0 rfl, k 103 j 14 rfl, k 103 j 15 rfl, k 103 j 17 rfl⟩, fun w => h _ w (by have := (hI.1.2.1 j j0 j1).2; omega), fun _ i _ _ => k 190 _ i rfl⟩, kqm_s kr⟩) (fun j _ _ => ⟨kr 236 0 j rfl, kr 237 0 j rfl⟩)
  rcases dk_c d with rfl | rfl | rfl | rfl | rfl | rfl | rfl | rfl | rfl | rfl | ⟨rfl, _⟩ <;> exact k _ j i rfl
/-- a home has its matches of a competition on different days still -/
theorem dd_p {T T1 : Zt} {p d x : Int} (hd : DD_ T) (e4 : T1 106 0 4 = T 106 0 4) (m4 : 0 ≤ T 106 0 4) (h : PTO_ T T1 p d x) : DD_ T1 := by
  rcases h with ⟨-, -, o, -, -⟩ | ⟨-, -, y2, z1, z2, -, -⟩
  · intro i j i0 i1 j1 a b c e q
    rw [o i 6] at a
    rw [o j 6] at b
    rw [o i 0, o j 0] at c
    rw [o i 3, o j 3] at e
    rw [o i 5, o j 5] at q
    rw [e4] at j1
    exact hd i j i0 i1 j1 a b c e q
  · intro i j i0 i1 j1 a b c e q
    rw [z2 i 6 (by decide)] at a
    rw [z2 j 6 (by decide)] at b
    rw [z2 i 0 (by decide), z2 j 0 (by decide)] at c
    rw [z2 i 3 (by decide), z2 j 3 (by decide)] at e
    rw [z1, z1] at q
    rw [e4] at j1
    have g := mv_dd (sq := sqH_ T) (hq := hqH_ T) (R := fun a b => T 102 a 0 = T 102 b 0 ∧ T 102 a 3 = T 102 b 3) (rs := rsH_ T) (ab := abH_ T) (n := T 106 0 4) (p := p) (d := d) (ag := AGH_ T p d) (day := u1_ (fun m => T 102 m 5) p d) (fun a b r => by
        show T 560 0 (T 102 a 3) = T 560 0 (T 102 b 3)
        rw [r.2]) (fun a b r => ⟨r.1.symm, r.2.symm⟩) (fun a b a0 a1 b0 b1 ne ha hb r eq => by
        by_cases wa : a = p
        · refine Or.inl ⟨wa, fun w => ne (wa.trans w), wa ▸ ha, hb, Or.inl ⟨?_, ?_⟩⟩
          · rw [wa, u1_s, u1_n (fun w => ne (wa.trans w.symm))] at eq
            exact eq
          · show T 560 0 (T 102 p 3) = T 560 0 (T 102 b 3)
            rw [← wa, r.2]
        · by_cases wb : b = p
          · refine Or.inr ⟨wb, fun w => wa w.symm, wb ▸ hb, ha, Or.inl ⟨?_, ?_⟩⟩
            · rw [wb, u1_s, u1_n wa] at eq
              exact eq.symm
            · show T 560 0 (T 102 p 3) = T 560 0 (T 102 a 3)
              rw [← wb, r.2]
          · rw [u1_n wa, u1_n wb] at eq
            exfalso
            rcases Int.lt_or_gt_of_ne ne with u | u
            · exact hd a b a0 u b1 ha hb r.1 r.2 eq
            · exact hd b a b0 u a1 hb ha r.1.symm r.2.symm eq.symm) (T 106 0 4).toNat (by omega) y2 i j i0 (by omega) (by omega) j1 (by omega) a b ⟨c, e⟩ q
    omega
theorem dd_q {T T1 : Zt} {m d x : Int} (hd : DD_ T) (e4 : T1 106 0 4 = T 106 0 4) (m4 : 0 ≤ T 106 0 4) (h : ((x = -2 ∧ ¬ (0 ≤ m ∧ m < T 106 0 4) ∧ T = T1) ∨ ((0 ≤ m ∧ m < T 106 0 4) ∧ ((x = -3 ∧ ¬ (T 108 0 13 < d ∧ d ≤ 999 ∧ 0 ≤ d) ∧ T = T1) ∨ ((T 108 0 13 < d ∧ d ≤ 999 ∧ 0 ≤ d) ∧ ((x = -4 ∧ ¬ ((T 102 m 6 = -1 ∧ T 102 m 10 = 0) ∧ T 102 m 5 ≠ d) ∧ T = T1) ∨ (((T 102 m 6 = -1 ∧ T 102 m 10 = 0) ∧ T 102 m 5 ≠ d) ∧ PTO_ T T1 m d x))))))) : DD_ T1 := by
  rcases h with ⟨-, -, rfl⟩ | ⟨-, h⟩
  · exact hd
  · rcases h with ⟨-, -, rfl⟩ | ⟨-, h⟩
    · exact hd
    · rcases h with ⟨-, -, rfl⟩ | ⟨-, h⟩
      · exact hd
      · exact dd_p hd e4 m4 h
-- what is asked of a match, both sides alike
theorem pl_match {T : Zt} {N m w x1 x2 : Int} (hI : IC_ N T) (hP : PLR_ T) (hM : MAR_ T) (hD : DAR_ T) (hO : CNO_ T) (d1 : ((x1 = -2 ∧ ¬ (0 ≤ m ∧ m < T 106 0 4)) ∨ ((0 ≤ m ∧ m < T 106 0 4) ∧ ((w = 0 ∧ x1 = T 100 (T 102 m 0) 0) ∨ (w = 1 ∧ x1 = T 102 m 2) ∨ (w = 2 ∧ x1 = T 102 m 3) ∨ (w = 3 ∧ x1 = T 102 m 4) ∨ (w = 4 ∧ x1 = T 102 m 5) ∨ (w = 5 ∧ ((T 102 m 6 ≠ -1 ∧ x1 = 3) ∨ (T 102 m 6 = -1 ∧ ((T 102 m 10 = 0 ∧ x1 = 0) ∨ (T 102 m 10 ≠ 0 ∧ ((T 103 m 3 = 0 ∧ x1 = 1) ∨ (T 103 m 3 ≠ 0 ∧ x1 = 2))))))) ∨ (w = 6 ∧ ((T 102 m 6 ≠ -1 ∧ ((0 = T 102 m 6 ∧ x1 = 0) ∨ (0 ≠ T 102 m 6 ∧ x1 = T 401 (T 102 m 0) 12))) ∨ (T 102 m 6 = -1 ∧ ((T 102 m 10 = 0 ∧ x1 = 0) ∨ (T 102 m 10 ≠ 0 ∧ x1 = T 468 m 0))))) ∨ (w = 7 ∧ ((T 102 m 6 ≠ -1 ∧ ((1 = T 102 m 6 ∧ x1 = 0) ∨ (1 ≠ T 102 m 6 ∧ x1 = T 401 (T 102 m 0) 12))) ∨ (T 102 m 6 = -1 ∧ ((T 102 m 10 = 0 ∧ x1 = 0) ∨ (T 102 m 10 ≠ 0 ∧ x1 = T 468 m 1))))) ∨ (¬ (0 ≤ w ∧ w ≤ 7) ∧ x1 = -3))))) (d2 : ((x2 = -2 ∧ ¬ (0 ≤ m ∧ m < T 111 0 29)) ∨ ((0 ≤ m ∧ m < T 111 0 29) ∧ ((w = 0 ∧ x2 = T 230 0 m) ∨ (w = 1 ∧ x2 = T 231 0 m) ∨ (w = 2 ∧ x2 = T 232 0 m) ∨ (w = 3 ∧ x2 = T 233 0 m) ∨ (w = 4 ∧ x2 = T 234 0 m) ∨ (w = 5 ∧ x2 = T 235 0 m) ∨ (w = 6 ∧ x2 = T 236 0 m) ∨ (w = 7 ∧ x2 = T 237 0 m) ∨ (¬ (0 ≤ w ∧ w ≤ 7) ∧ x2 = -3))))) : x1 = x2 := by
  have m1 := hM.1
  rcases d1 with ⟨rfl, a⟩ | ⟨hm, d1⟩
  · rcases d2 with ⟨rfl, -⟩ | ⟨b, -⟩
    · rfl
    · exfalso; omega
  · obtain ⟨-, d2⟩ := d2.resolve_left (fun z => z.2 (by omega))
    have mm := hM.2 m hm.1 hm.2
    have dd := hD m hm.1 hm.2
    have hc : 0 ≤ T 102 m 0 ∧ T 102 m 0 < T 106 0 2 := (hI.1.2.1 m hm.1 hm.2).2
    have ho := hO _ hc.1 hc.2
    rcases (hP.1 m hm.1 hm.2).2 with z | z | z
    · unfold PAA_ at z
      omega
    · unfold PBB_ at z
      omega
    · obtain ⟨p1, p2, -, ⟨n, -, ps⟩, -⟩ := z
      have e3 := ps.1.2.2.1.2.2
      rw [rp_35, show rs9_ T m 103 3 = T 103 m 3 from rs_d rfl] at e3
      have s0 := (eq_j ps.1 (s := 0) (by decide) (by decide)).2.2.2.2.1
      have s1 := (eq_j ps.1 (s := 1) (by decide) (by decide)).2.2.2.2.1
      rw [rp_36, show rs9_ T m 468 0 = T 468 m 0 from rs_d rfl] at s0
      rw [rp_37, show rs9_ T m 468 1 = T 468 m 1 from rs_d rfl] at s1
      omega
theorem pl_rows {T : Zt} {N m w x1 x2 : Int} (hI : IC_ N T) (hR : IR_ T) (hP : PLR_ T) (hM : MAR_ T) (d1 : ((x1 = -2 ∧ ¬ (0 ≤ m ∧ m < T 106 0 4)) ∨ ((0 ≤ m ∧ m < T 106 0 4) ∧ ((¬ (0 ≤ w ∧ w ≤ 1) ∧ x1 = -3) ∨ ((0 ≤ w ∧ w ≤ 1) ∧ ((T 102 m 10 = 0 ∧ x1 = 0) ∨ (T 102 m 10 ≠ 0 ∧ ((w = 0 ∧ x1 = T 103 m 15) ∨ (w = 1 ∧ x1 = T 103 m 17))))))))) (d2 : ((x2 = -2 ∧ ¬ (0 ≤ m ∧ m < T 111 0 29)) ∨ ((0 ≤ m ∧ m < T 111 0 29) ∧ ((¬ (0 ≤ w ∧ w ≤ 1) ∧ x2 = -3) ∨ (w = 0 ∧ x2 = T 254 0 m) ∨ (w = 1 ∧ x2 = T 256 0 m))))) : x1 = x2 := by
  have m1 := hM.1
  rcases d1 with ⟨rfl, a⟩ | ⟨hm, d1⟩
  · rcases d2 with ⟨rfl, -⟩ | ⟨b, -⟩
    · rfl
    · exfalso; omega
  · obtain ⟨-, d2⟩ := d2.resolve_left (fun z => z.2 (by omega))
    rcases (hP.1 m hm.1 hm.2).2 with z | z | z
    · unfold PAA_ at z
      omega
    · unfold PBB_ at z
      omega
    · have e := pcc_n z (hI.2.2.2.1 m hm.1 hm.2 z.2.1).1.1 (rx_n hR.2.2.2.2.2.2.2.2.1 hm.1 (by omega))
      have e2 := z.2.2.2.2.2.2.2
      have e3 := z.2.1
      omega
theorem pl_state {T : Zt} {m w x1 x2 : Int} (hP : PLR_ T) (hM : MAR_ T) (d1 : ((x1 = -2 ∧ ¬ (0 ≤ m ∧ m < T 106 0 4)) ∨ ((0 ≤ m ∧ m < T 106 0 4) ∧ ((¬ (0 ≤ w ∧ w ≤ 7) ∧ x1 = -3) ∨ ((0 ≤ w ∧ w ≤ 7) ∧ ((T 102 m 10 = 0 ∧ x1 = -4) ∨ (T 102 m 10 ≠ 0 ∧ ((w = 0 ∧ x1 = T 103 m 4) ∨ ((w = 1 ∨ w = 2) ∧ x1 = T 466 m (w - 1)) ∨ ((w = 3 ∨ w = 4) ∧ x1 = T 467 m (w - 3)) ∨ (w = 5 ∧ x1 = T 103 m 5) ∨ ((w = 6 ∨ w = 7) ∧ x1 = T 469 m (w - 6)))))))))) (d2 : ((x2 = -2 ∧ ¬ (0 ≤ m ∧ m < T 111 0 29)) ∨ ((0 ≤ m ∧ m < T 111 0 29) ∧ ((¬ (0 ≤ w ∧ w ≤ 7) ∧ x2 = -3) ∨ ((0 ≤ w ∧ w ≤ 7) ∧ ((¬ (T 235 0 m = 1 ∨ T 235 0 m = 2) ∧ x2 = -4) ∨ ((T 235 0 m = 1 ∨ T 235 0 m = 2) ∧ x2 = T 246 0 (8 * m + w)))))))) : x1 = x2 := by
  have m1 := hM.1
  rcases d1 with ⟨rfl, a⟩ | ⟨hm, d1⟩
  · rcases d2 with ⟨rfl, -⟩ | ⟨b, -⟩
    · rfl
    · exfalso; omega
  · obtain ⟨-, d2⟩ := d2.resolve_left (fun z => z.2 (by omega))
    rcases (hP.1 m hm.1 hm.2).2 with z | z | z
    · unfold PAA_ at z
      omega
    · unfold PBB_ at z
      omega
    · obtain ⟨p1, p2, -, ⟨n, -, ps⟩, -⟩ := z
      have e3 := ps.1.2.2.1
      have s0 := eq_j ps.1 (s := 0) (by decide) (by decide)
      have s1 := eq_j ps.1 (s := 1) (by decide) (by decide)
      have b0 : rp9_ T m 103 4 = T 246 0 (8 * m) := rp_v rfl rfl rfl
      have b5 : rp9_ T m 103 5 = T 246 0 (8 * m + 5) := rp_v rfl rfl rfl
      have b1 : rp9_ T m 466 0 = T 246 0 (8 * m + 1 + 0) := rp_v rfl rfl rfl
      have b2 : rp9_ T m 466 1 = T 246 0 (8 * m + 1 + 1) := rp_v rfl rfl rfl
      have b3 : rp9_ T m 467 0 = T 246 0 (8 * m + 3 + 0) := rp_v rfl rfl rfl
      have b4 : rp9_ T m 467 1 = T 246 0 (8 * m + 3 + 1) := rp_v rfl rfl rfl
      have b6 : rp9_ T m 469 0 = T 246 0 (8 * m + 6 + 0) := rp_v rfl rfl rfl
      have b7 : rp9_ T m 469 1 = T 246 0 (8 * m + 6 + 1) := rp_v rfl rfl rfl
      rw [show 8 * m + 1 + 0 = 8 * m + 1 by omega] at b1
      rw [show 8 * m + 1 + 1 = 8 * m + 2 by omega] at b2
      rw [show 8 * m + 3 + 0 = 8 * m + 3 by omega] at b3
      rw [show 8 * m + 3 + 1 = 8 * m + 4 by omega] at b4
      rw [show 8 * m + 6 + 0 = 8 * m + 6 by omega] at b6
      rw [show 8 * m + 6 + 1 = 8 * m + 7 by omega] at b7
      have a4 : rs9_ T m 103 4 = T 103 m 4 := rs_d rfl
      have a5 : rs9_ T m 103 5 = T 103 m 5 := rs_d rfl
      have a3 : rs9_ T m 103 3 = T 103 m 3 := rs_d rfl
      have g0 : rs9_ T m 466 0 = T 466 m 0 := rs_d rfl
      have g1 : rs9_ T m 466 1 = T 466 m 1 := rs_d rfl
      have g2 : rs9_ T m 467 0 = T 467 m 0 := rs_d rfl
      have g3 : rs9_ T m 467 1 = T 467 m 1 := rs_d rfl
      have g6 : rs9_ T m 469 0 = T 469 m 0 := rs_d rfl
      have g7 : rs9_ T m 469 1 = T 469 m 1 := rs_d rfl
      rw [rp_35, b0, b5, a3, a4, a5] at e3
      rw [b1, b3, b6, g0, g2, g6] at s0
      rw [b2, b4, b7, g1, g3, g7] at s1
      rcases d1 with ⟨u, rfl⟩ | ⟨u, d1⟩
      · rcases d2 with ⟨-, rfl⟩ | ⟨y, -⟩
        · rfl
        · exact absurd y u
      · obtain ⟨-, d2⟩ := d2.resolve_left (fun y => y.1 u)
        have d2 := d2.resolve_left (fun y => y.1 (by omega))
        have d1 := d1.resolve_left (fun y => p2 y.1)
        obtain ⟨-, d1⟩ := d1
        obtain ⟨-, rfl⟩ := d2
        rcases d1 with ⟨rfl, rfl⟩ | ⟨c | c, rfl⟩ | ⟨c | c, rfl⟩ | ⟨rfl, rfl⟩ | ⟨c | c, rfl⟩
        · rw [Int.add_zero]; omega
        · rw [c]; show T 466 m 0 = T 246 0 (8 * m + 1); omega
        · rw [c]; show T 466 m 1 = T 246 0 (8 * m + 2); omega
        · rw [c]; show T 467 m 0 = T 246 0 (8 * m + 3); omega
        · rw [c]; show T 467 m 1 = T 246 0 (8 * m + 4); omega
        · omega
        · rw [c]; show T 469 m 0 = T 246 0 (8 * m + 6); omega
        · rw [c]; show T 469 m 1 = T 246 0 (8 * m + 7); omega
theorem pl_field {T : Zt} {m t i x1 x2 : Int} (hP : PLR_ T) (hM : MAR_ T) (d1 : ((x1 = -2 ∧ ¬ (0 ≤ m ∧ m < T 106 0 4)) ∨ ((0 ≤ m ∧ m < T 106 0 4) ∧ ((¬ (0 ≤ t ∧ t ≤ 1) ∧ x1 = -3) ∨ ((0 ≤ t ∧ t ≤ 1) ∧ ((¬ (T 102 m 10 ≠ 0 ∧ 0 ≤ i ∧ i < T 470 m t) ∧ x1 = -1) ∨ (T 102 m 10 ≠ 0 ∧ (0 ≤ i ∧ i < T 470 m t) ∧ x1 = T 448 m (T 471 m (t * 6 + i))))))))) (d2 : ((x2 = -2 ∧ ¬ (0 ≤ m ∧ m < T 111 0 29)) ∨ ((0 ≤ m ∧ m < T 111 0 29) ∧ ((¬ (0 ≤ t ∧ t ≤ 1) ∧ x2 = -3) ∨ ((0 ≤ t ∧ t ≤ 1) ∧ ((¬ ((T 235 0 m = 1 ∨ T 235 0 m = 2) ∧ 0 ≤ i ∧ i < T 244 0 (2 * m + t)) ∧ x2 = -1) ∨ ((T 235 0 m = 1 ∨ T 235 0 m = 2) ∧ (0 ≤ i ∧ i < T 244 0 (2 * m + t)) ∧ x2 = T 240 0 (T 245 0 (6 * (2 * m + t) + i))))))))) : x1 = x2 := by
  have m1 := hM.1
  rcases d1 with ⟨rfl, a⟩ | ⟨hm, d1⟩
  · rcases d2 with ⟨rfl, -⟩ | ⟨b, -⟩
    · rfl
    · exfalso; omega
  · obtain ⟨-, d2⟩ := d2.resolve_left (fun z => z.2 (by omega))
    rcases d1 with ⟨u, rfl⟩ | ⟨u, d1⟩
    · rcases d2 with ⟨-, rfl⟩ | ⟨y, -⟩
      · rfl
      · exact absurd y u
    · obtain ⟨-, d2⟩ := d2.resolve_left (fun y => y.1 u)
      have g := hP.1 m hm.1 hm.2
      rcases g.2 with z | z | z
      · have e1 := z.2.1
        have e2 := z.2.2.1
        omega
      · have e1 := z.1
        have e2 := z.2.1
        omega
      · obtain ⟨p1, p2, -, ⟨n, -, ps⟩, -⟩ := z
        have e3 := ps.1.2.2.1.2.2
        rw [rp_35] at e3
        have f := (eq_j ps.1 u.1 u.2).2.1
        rw [rp_v (m := m) (K := 244) (x := 2 * m + t) (dm_470 u) rfl rfl, show rs9_ T m 470 t = T 470 m t from rs_d rfl] at f
        rcases d1 with ⟨v, rfl⟩ | ⟨-, v, rfl⟩
        · rcases d2 with ⟨-, rfl⟩ | ⟨y1, y2, -⟩
          · rfl
          · exact absurd ⟨p2, by omega, by omega⟩ v
        · rcases d2 with ⟨y, -⟩ | ⟨-, -, rfl⟩
          · exact absurd ⟨by omega, by omega, by omega⟩ y
          · have w := ps.2.1
            have w1 := w.1 t u.1 u.2
            rw [show rs9_ T m 470 t = T 470 m t from rs_d rfl] at w1
            have r70 : rs9_ T m 470 t = T 470 m t := rs_d rfl
            have q := ps.1.2.2.2.1 t (t * 6 + i) u.1 u.2 (by omega) (by rw [r70]; omega)
            have s := w.2.1 t (t * 6 + i) u.1 u.2 (by omega) (by rw [r70]; omega)
            rw [rp_v (m := m) (K := 245) (x := 12 * m + (t * 6 + i)) (dm_471 ⟨by omega, by omega⟩) rfl rfl, show rs9_ T m 471 (t * 6 + i) = T 471 m (t * 6 + i) from rs_d rfl] at q
            rw [show rs9_ T m 471 (t * 6 + i) = T 471 m (t * 6 + i) from rs_d rfl, show rs9_ T m 449 t = T 449 m t from rs_d rfl] at s
            rw [show 6 * (2 * m + t) + i = 12 * m + (t * 6 + i) by omega, q]
            exact (g.1.2.1 t _ u.1 u.2 s.1 s.2.1).symm
theorem pl_moved {T : Zt} {k x1 x2 : Int} (hV : MVR_ T) (d1 : ((0 ≤ k ∧ k < T 106 0 12 ∧ x1 = T 531 0 k) ∨ (¬ (0 ≤ k ∧ k < T 106 0 12) ∧ x1 = -1))) (d2 : ((0 ≤ k ∧ k < T 111 0 75 ∧ x2 = T 274 0 k) ∨ (¬ (0 ≤ k ∧ k < T 111 0 75) ∧ x2 = -1))) : x1 = x2 := by
  have h := hV.1
  rcases d1 with ⟨a, b, rfl⟩ | ⟨a, rfl⟩
  · rcases d2 with ⟨-, -, rfl⟩ | ⟨y, -⟩
    · exact hV.2 k a b
    · exact absurd ⟨a, by omega⟩ y
  · rcases d2 with ⟨y1, y2, -⟩ | ⟨-, rfl⟩
    · exact absurd ⟨y1, by omega⟩ a
    · rfl
theorem pl_count {T : Zt} {w x1 x2 : Int} (hN : CNR_ T) (hS : SPR_ T) (hX : TXR_ T) (hM : MAR_ T) (hC : RCR_ T) (d1 : ((w = 0 ∧ x1 = T 108 0 2) ∨ (w = 1 ∧ x1 = T 108 0 3) ∨ (w = 2 ∧ x1 = T 108 0 5) ∨ (w = 3 ∧ x1 = T 108 0 12) ∨ (w = 4 ∧ x1 = T 106 0 2) ∨ (w = 5 ∧ x1 = T 106 0 4) ∨ (w = 6 ∧ x1 = T 106 0 5) ∨ (w = 7 ∧ x1 = T 108 0 13) ∨ (¬ (0 ≤ w ∧ w ≤ 7) ∧ x1 = -3))) (d2 : ((w = 0 ∧ x2 = T 111 0 12) ∨ (w = 1 ∧ x2 = T 111 0 15) ∨ (w = 2 ∧ x2 = T 111 0 16) ∨ (w = 3 ∧ x2 = T 111 0 21) ∨ (w = 4 ∧ x2 = T 111 0 6) ∨ (w = 5 ∧ x2 = T 111 0 29) ∨ (w = 6 ∧ x2 = T 111 0 47) ∨ (w = 7 ∧ x2 = T 111 0 3) ∨ (¬ (0 ≤ w ∧ w ≤ 7) ∧ x2 = -3))) : x1 = x2 := by
  have a1 := hN.1
  have a2 := hN.2.1
  have a3 := hN.2.2.1
  have a4 := hN.2.2.2
  have a5 := hS.1
  have a6 := hX.2.2.1
  have a7 := hM.1
  have a8 : T 106 0 5 = T 111 0 47 := hC
  omega
/-- a walkover takes no match back -/
theorem wo_k {T T1 : Zt} {m d x : Int} (h : ((x = -2 ∧ ¬ (0 ≤ m ∧ m < T 106 0 4) ∧ T = T1) ∨ ((0 ≤ m ∧ m < T 106 0 4) ∧ ((x = -3 ∧ ¬ (0 ≤ d ∧ d ≤ 1) ∧ T = T1) ∨ ((0 ≤ d ∧ d ≤ 1) ∧ ((x = -4 ∧ ¬ ((T 102 m 6 = -1 ∧ T 102 m 10 = 0) ∧ T 102 m 5 ≤ T 108 0 13) ∧ T = T1) ∨ (x = 1 ∧ ((T 102 m 6 = -1 ∧ T 102 m 10 = 0) ∧ T 102 m 5 ≤ T 108 0 13) ∧ T1 = up_ T 102 m 6 d))))))) : ∀ i, T1 102 i 6 = T 102 i 6 ∨ T1 102 i 6 ≠ -1 := by
  rcases h with ⟨-, -, rfl⟩ | ⟨-, h⟩
  · exact fun i => Or.inl rfl
  · rcases h with ⟨-, -, rfl⟩ | ⟨a, h⟩
    · exact fun i => Or.inl rfl
    · rcases h with ⟨-, -, rfl⟩ | ⟨-, -, u⟩
      · exact fun i => Or.inl rfl
      · intro i
        by_cases z : i = m
        · exact Or.inr (by rw [z, up_f u]; omega)
        · exact Or.inl (up_g u (fun y => z y.2.1))
-- the list of those that are D, words
/-- the matches that are D, in their order: how many, which -/
noncomputable def dl9_ (D : Int → Prop) : Nat → Int × (Int → Int)
  | 0 => (0, fun _ => 0)
  | m + 1 => cz_ (D (m : Int)) ((dl9_ D m).1 + 1, fu_ (dl9_ D m).2 (dl9_ D m).1 (m : Int)) (dl9_ D m)
theorem dl_t {D : Int → Prop} {m : Int} (hm : 0 ≤ m) (h : D m) : dl9_ D (m + 1).toNat = ((dl9_ D m.toNat).1 + 1, fu_ (dl9_ D m.toNat).2 (dl9_ D m.toNat).1 m) := by
  rw [show (m + 1).toNat = m.toNat + 1 by omega]
  have e : ((m.toNat : Nat) : Int) = m := by omega
  show cz_ (D ((m.toNat : Nat) : Int)) ((dl9_ D m.toNat).1 + 1, fu_ (dl9_ D m.toNat).2 (dl9_ D m.toNat).1 ((m.toNat : Nat) : Int)) (dl9_ D m.toNat) = _
  rw [e]
  exact cz_t h
theorem dl_f {D : Int → Prop} {m : Int} (hm : 0 ≤ m) (h : ¬ D m) : dl9_ D (m + 1).toNat = dl9_ D m.toNat := by
  rw [show (m + 1).toNat = m.toNat + 1 by omega]
  have e : ((m.toNat : Nat) : Int) = m := by omega
  show cz_ (D ((m.toNat : Nat) : Int)) ((dl9_ D m.toNat).1 + 1, fu_ (dl9_ D m.toNat).2 (dl9_ D m.toNat).1 ((m.toNat : Nat) : Int)) (dl9_ D m.toNat) = _
  rw [e]
  exact cz_f h
theorem dl_b {D : Int → Prop} : ∀ m : Nat, (0 ≤ (dl9_ D m).1 ∧ (dl9_ D m).1 ≤ (m : Int)) ∧ ∀ j, 0 ≤ j → j < (dl9_ D m).1 → 0 ≤ (dl9_ D m).2 j ∧ (dl9_ D m).2 j < (m : Int)
  | 0 => ⟨⟨Int.le_refl _, Int.le_refl _⟩, fun j a b => by
      have b' : j < 0 := b
      omega⟩
  | m + 1 => by
    have ih := dl_b (D := D) m
    show (0 ≤ (cz_ (D (m : Int)) ((dl9_ D m).1 + 1, fu_ (dl9_ D m).2 (dl9_ D m).1 (m : Int)) (dl9_ D m)).1 ∧ (cz_ (D (m : Int)) ((dl9_ D m).1 + 1, fu_ (dl9_ D m).2 (dl9_ D m).1 (m : Int)) (dl9_ D m)).1 ≤ ((m + 1 : Nat) : Int)) ∧ ∀ j, 0 ≤ j → j < (cz_ (D (m : Int)) ((dl9_ D m).1 + 1, fu_ (dl9_ D m).2 (dl9_ D m).1 (m : Int)) (dl9_ D m)).1 → 0 ≤ (cz_ (D (m : Int)) ((dl9_ D m).1 + 1, fu_ (dl9_ D m).2 (dl9_ D m).1 (m : Int)) (dl9_ D m)).2 j ∧ (cz_ (D (m : Int)) ((dl9_ D m).1 + 1, fu_ (dl9_ D m).2 (dl9_ D m).1 (m : Int)) (dl9_ D m)).2 j < ((m + 1 : Nat) : Int)
    by_cases z : D (m : Int)
    · rw [cz_t z]
      refine ⟨⟨show 0 ≤ (dl9_ D m).1 + 1 by omega, show (dl9_ D m).1 + 1 ≤ ((m + 1 : Nat) : Int) by omega⟩, fun j a b => ?_⟩
      have b' : j < (dl9_ D m).1 + 1 := b
      show 0 ≤ fu_ (dl9_ D m).2 (dl9_ D m).1 (m : Int) j ∧ fu_ (dl9_ D m).2 (dl9_ D m).1 (m : Int) j < ((m + 1 : Nat) : Int)
      by_cases y : j = (dl9_ D m).1
      · rw [y, fu_s]
        omega
      · rw [fu_n y]
        have := ih.2 j a (by omega)
        omega
    · rw [cz_f z]
      refine ⟨⟨ih.1.1, by omega⟩, fun j a b => ?_⟩
      have := ih.2 j a b
      omega
theorem dl_c {D D' : Int → Prop} : ∀ m : Nat, (∀ i : Int, 0 ≤ i → i < (m : Int) → (D i ↔ D' i)) → dl9_ D m = dl9_ D' m
  | 0, _ => rfl
  | m + 1, h => by
    show cz_ (D (m : Int)) ((dl9_ D m).1 + 1, fu_ (dl9_ D m).2 (dl9_ D m).1 (m : Int)) (dl9_ D m) = cz_ (D' (m : Int)) ((dl9_ D' m).1 + 1, fu_ (dl9_ D' m).2 (dl9_ D' m).1 (m : Int)) (dl9_ D' m)
    rw [dl_c m (fun i a b => h i a (by omega))]
    have e := h (m : Int) (by omega) (by omega)
    by_cases z : D (m : Int)
    · rw [cz_t z, cz_t (e.mp z)]
    · rw [cz_f z, cz_f (fun y => z (e.mpr y))]
-- officials: matchings of least cost, words
/-- a sum over n numbers from f on -/
def sf9_ (h : Int → Int) (f : Int) : Nat → Int
  | 0 => 0
  | n + 1 => sf9_ h f n + h (f + (n : Int))
theorem sf_e {h h' : Int → Int} {f : Int} : ∀ n : Nat, (∀ i, f ≤ i → i < f + (n : Int) → h i = h' i) → sf9_ h f n = sf9_ h' f n
  | 0, _ => rfl
  | n + 1, g => by
    show sf9_ h f n + h (f + (n : Int)) = sf9_ h' f n + h' (f + (n : Int))
    rw [sf_e n (fun i a b => g i a (by omega)), g (f + (n : Int)) (by omega) (by omega)]
theorem sf_l {h h' : Int → Int} {f : Int} : ∀ n : Nat, (∀ i, f ≤ i → i < f + (n : Int) → h i ≤ h' i) → sf9_ h f n ≤ sf9_ h' f n
  | 0, _ => Int.le_refl _
  | n + 1, g => by
    show sf9_ h f n + h (f + (n : Int)) ≤ sf9_ h' f n + h' (f + (n : Int))
    have a := sf_l n (fun i a b => g i a (by omega))
    have b := g (f + (n : Int)) (by omega) (by omega)
    omega
theorem sf_0 {f : Int} : ∀ n : Nat, sf9_ (fun _ => 0) f n = 0
  | 0 => rfl
  | n + 1 => by
    show sf9_ (fun _ => 0) f n + 0 = 0
    rw [sf_0 n]
    rfl
theorem sf_1 {f : Int} : ∀ n : Nat, sf9_ (fun _ => 1) f n = (n : Int)
  | 0 => rfl
  | n + 1 => by
    show sf9_ (fun _ => 1) f n + 1 = _
    rw [sf_1 n]
    omega
theorem sf_a {h h' : Int → Int} {f : Int} : ∀ n : Nat, sf9_ (fun i => h i + h' i) f n = sf9_ h f n + sf9_ h' f n
  | 0 => rfl
  | n + 1 => by
    show sf9_ (fun i => h i + h' i) f n + (h (f + (n : Int)) + h' (f + (n : Int))) = sf9_ h f n + h (f + (n : Int)) + (sf9_ h' f n + h' (f + (n : Int)))
    rw [sf_a n]
    omega
theorem sf_n {h : Int → Int} {f : Int} : ∀ n : Nat, sf9_ (fun i => -h i) f n = -sf9_ h f n
  | 0 => rfl
  | n + 1 => by
    show sf9_ (fun i => -h i) f n + -h (f + (n : Int)) = -(sf9_ h f n + h (f + (n : Int)))
    rw [sf_n n]
    omega
/-- the first of the sum -/
theorem sf_h {h : Int → Int} {f : Int} : ∀ n : Nat, sf9_ h f (n + 1) = h f + sf9_ h (f + 1) n
  | 0 => by
    show 0 + h (f + ((0 : Nat) : Int)) = h f + 0
    rw [show f + ((0 : Nat) : Int) = f by omega]
    omega
  | n + 1 => by
    show sf9_ h f (n + 1) + h (f + ((n + 1 : Nat) : Int)) = h f + (sf9_ h (f + 1) n + h (f + 1 + (n : Int)))
    rw [sf_h n, show f + ((n + 1 : Nat) : Int) = f + 1 + (n : Int) by omega]
    omega
/-- one of the sum is another -/
theorem sf_u {h h' : Int → Int} {f j : Int} : ∀ n : Nat, f ≤ j → j < f + (n : Int) → (∀ i, i ≠ j → h' i = h i) → sf9_ h' f n = sf9_ h f n - h j + h' j
  | 0, a, b, _ => by omega
  | n + 1, a, b, g => by
    show sf9_ h' f n + h' (f + (n : Int)) = sf9_ h f n + h (f + (n : Int)) - h j + h' j
    by_cases z : j = f + (n : Int)
    · rw [sf_e (h := h') (h' := h) n (fun i p q => g i (by omega)), ← z]
      omega
    · rw [sf_u n a (by omega) g, g (f + (n : Int)) (fun q => z q.symm)]
      omega
/-- what a match with an official counts -/
def tk9_ (g : Int → Int) (u : Int → Int → Int) : Int → Int := fun i => if g i = -1 then 0 else u i (g i)
theorem tk_n {g : Int → Int} {u : Int → Int → Int} {i : Int} (h : g i = -1) : tk9_ g u i = 0 := if_pos h
theorem tk_s {g : Int → Int} {u : Int → Int → Int} {i : Int} (h : g i ≠ -1) : tk9_ g u i = u i (g i) := if_neg h
/-- no official leads two, none what he may not -/
def MTo_ (F : Of_) (g : Int → Int) : Prop := (∀ i, F.f ≤ i → i < F.e → g i = -1 ∨ ((0 ≤ g i ∧ g i < F.n) ∧ F.A i (g i))) ∧ ∀ i j, F.f ≤ i → i < F.e → F.f ≤ j → j < F.e → g i = g j → g i = -1 ∨ i = j
theorem is_l {g : Int → Int} {f : Int} {m : Nat} : ∀ (n : Nat) (e : Int → Int), (∀ o, 0 ≤ o → o < (m : Int) → 0 ≤ e o) → (∀ i, f ≤ i → i < f + (n : Int) → g i = -1 ∨ (0 ≤ g i ∧ g i < (m : Int))) → (∀ i j, f ≤ i → i < f + (n : Int) → f ≤ j → j < f + (n : Int) → g i = g j → g i = -1 ∨ i = j) → sf9_ (tk9_ g (fun _ o => e o)) f n ≤ sf9_ e 0 m
  | 0, e, he, _, _ => by
    have a := sf_l (h := fun _ => 0) (h' := e) (f := 0) m (fun i a b => he i a (by omega))
    rw [sf_0] at a
    exact a
  | n + 1, e, he, hr, hi => by
    show sf9_ (tk9_ g (fun _ o => e o)) f n + tk9_ g (fun _ o => e o) (f + (n : Int)) ≤ _
    by_cases z : g (f + (n : Int)) = -1
    · rw [tk_n z]
      have a := is_l n e he (fun i a b => hr i a (by omega)) (fun i j a b c d => hi i j a (by omega) c (by omega))
      omega
    · have q := (hr (f + (n : Int)) (by omega) (by omega)).resolve_left z
      rw [tk_s z]
      have a := is_l n (fu_ e (g (f + (n : Int))) 0) (fun o p r => by
        by_cases y : o = g (f + (n : Int))
        · rw [y, fu_s]; exact Int.le_refl _
        · rw [fu_n y]; exact he o p r) (fun i a b => hr i a (by omega)) (fun i j a b c d => hi i j a (by omega) c (by omega))
      have b : sf9_ (tk9_ g (fun _ o => fu_ e (g (f + (n : Int))) 0 o)) f n = sf9_ (tk9_ g (fun _ o => e o)) f n := sf_e n (fun i p r => by
        by_cases y : g i = -1
        · rw [tk_n y, tk_n y]
        · rw [tk_s y, tk_s y]
          exact fu_n (fun w => (hi i (f + (n : Int)) p (by omega) (by omega) (by omega) w).elim y (fun v => by omega)))
      have c := sf_u (h := e) (h' := fu_ e (g (f + (n : Int))) 0) (f := 0) (j := g (f + (n : Int))) m q.1 (by omega) (fun i y => fu_n y)
      rw [fu_s] at c
      rw [b, c] at a
      omega
theorem is_q {g : Int → Int} {f : Int} {m : Nat} : ∀ (n : Nat) (e : Int → Int), (∀ o, 0 ≤ o → o < (m : Int) → (∀ i, f ≤ i → i < f + (n : Int) → g i ≠ o) → e o = 0) → (∀ i, f ≤ i → i < f + (n : Int) → g i = -1 ∨ (0 ≤ g i ∧ g i < (m : Int))) → (∀ i j, f ≤ i → i < f + (n : Int) → f ≤ j → j < f + (n : Int) → g i = g j → g i = -1 ∨ i = j) → sf9_ (tk9_ g (fun _ o => e o)) f n = sf9_ e 0 m
  | 0, e, he, _, _ => by
    have a := sf_e (h := e) (h' := fun _ => 0) (f := 0) m (fun o a b => he o a (by omega) (fun i c d => by omega))
    rw [sf_0] at a
    exact a.symm
  | n + 1, e, he, hr, hi => by
    show sf9_ (tk9_ g (fun _ o => e o)) f n + tk9_ g (fun _ o => e o) (f + (n : Int)) = _
    by_cases z : g (f + (n : Int)) = -1
    · rw [tk_n z]
      have a := is_q n e (fun o p r h => he o p r (fun i c d => by
        by_cases y : i = f + (n : Int)
        · rw [y, z]; omega
        · exact h i c (by omega))) (fun i a b => hr i a (by omega)) (fun i j a b c d => hi i j a (by omega) c (by omega))
      omega
    · have q := (hr (f + (n : Int)) (by omega) (by omega)).resolve_left z
      rw [tk_s z]
      have a := is_q n (fu_ e (g (f + (n : Int))) 0) (fun o p r h => by
        by_cases y : o = g (f + (n : Int))
        · rw [y, fu_s]
        · rw [fu_n y]
          exact he o p r (fun i c d => by
            by_cases w : i = f + (n : Int)
            · rw [w]; exact fun v => y v.symm
            · exact h i c (by omega))) (fun i a b => hr i a (by omega)) (fun i j a b c d => hi i j a (by omega) c (by omega))
      have b : sf9_ (tk9_ g (fun _ o => fu_ e (g (f + (n : Int))) 0 o)) f n = sf9_ (tk9_ g (fun _ o => e o)) f n := sf_e n (fun i p r => by
        by_cases y : g i = -1
        · rw [tk_n y, tk_n y]
        · rw [tk_s y, tk_s y]
          exact fu_n (fun w => (hi i (f + (n : Int)) p (by omega) (by omega) (by omega) w).elim y (fun v => by omega)))
      have c := sf_u (h := e) (h' := fu_ e (g (f + (n : Int))) 0) (f := 0) (j := g (f + (n : Int))) m q.1 (by omega) (fun i y => fu_n y)
      rw [fu_s] at c
      rw [b, c] at a
      omega
/-- what is kept while ways are found: free officials stand highest, matches with one not below the others -/
def CE_ (F : Of_) (ho pi : Int → Int) (P : Int) : Prop := (∀ o, 0 ≤ o → o < F.n → pi o ≤ P ∧ ((∀ i, F.f ≤ i → i < F.e → ho i ≠ o) → pi o = P)) ∧ ∀ i, F.f ≤ i → i < F.e → ho i ≠ -1 → 10000 + F.d i (ho i) ≤ pi (ho i)
/-- how much the official's rise gives a match over the others -/
def ri9_ (F : Of_) (ho pi : Int → Int) : Int → Int := fun i => if ho i = -1 then 0 else pi (ho i) - F.d i (ho i) - 10000
theorem ce_o {F : Of_} {ho g pi : Int → Int} {P : Int} (Q : po_ F ho pi) (M : MTo_ F ho) (C : CE_ F ho pi P) (G : MTo_ F g) (hn : 0 ≤ F.n) :
    sf9_ (tk9_ ho (fun i o => F.d i o - (P - 10000))) F.f (F.e - F.f).toNat ≤ sf9_ (tk9_ g (fun i o => F.d i o - (P - 10000))) F.f (F.e - F.f).toNat := by
  have hl : ∀ i, F.f ≤ i → i < F.f + ((F.e - F.f).toNat : Int) → i < F.e := fun i a b => by omega
  have r0 : ∀ i, F.f ≤ i → i < F.e → 0 ≤ ri9_ F ho pi i := fun i a b => by
    unfold ri9_
    by_cases z : ho i = -1
    · rw [if_pos z]; exact Int.le_refl _
    · rw [if_neg z]
      have := C.2 i a b z
      omega
  -- the matching at hand, exactly
  have e1 : sf9_ (tk9_ ho (fun i o => F.d i o - (P - 10000))) F.f (F.e - F.f).toNat = sf9_ (fun i => -tk9_ ho (fun _ o => P - pi o) i + -ri9_ F ho pi i) F.f (F.e - F.f).toNat := sf_e _ (fun i a b => by
    unfold ri9_
    by_cases z : ho i = -1
    · rw [tk_n z, tk_n z, if_pos z]; try rfl
    · rw [tk_s z, tk_s z, if_neg z]
      omega)
  rw [sf_a (h := fun i => -tk9_ ho (fun _ o => P - pi o) i) (h' := fun i => -ri9_ F ho pi i), sf_n, sf_n] at e1
  -- any other: not less
  have e2 : sf9_ (fun i => -tk9_ g (fun _ o => P - pi o) i + -ri9_ F ho pi i) F.f (F.e - F.f).toNat ≤ sf9_ (tk9_ g (fun i o => F.d i o - (P - 10000))) F.f (F.e - F.f).toNat := sf_l _ (fun i a b => by
    have b2 := hl i a b
    have p := r0 i a b2
    by_cases z : g i = -1
    · rw [tk_n z, tk_n z]
      omega
    · rw [tk_s z, tk_s z]
      have q := (G.1 i a b2).resolve_left z
      show -(P - pi (g i)) + -ri9_ F ho pi i ≤ F.d i (g i) - (P - 10000)
      unfold ri9_
      by_cases y : ho i = -1
      · rw [if_pos y]
        have := (Q.2.2 i (g i) a b2 q.1.1 q.1.2 q.2 (fun w => by omega)).1 y
        omega
      · rw [if_neg y]
        by_cases x : ho i = g i
        · rw [x]
          omega
        · have := (Q.2.2 i (g i) a b2 q.1.1 q.1.2 q.2 x).2 y
          omega)
  rw [sf_a (h := fun i => -tk9_ g (fun _ o => P - pi o) i) (h' := fun i => -ri9_ F ho pi i), sf_n, sf_n] at e2
  have q1 := is_q (g := ho) (f := F.f) (m := F.n.toNat) (F.e - F.f).toNat (fun o => P - pi o) (fun o a b h => by
    have y := (C.1 o a (by omega)).2 (fun i p r => h i p (by omega))
    show P - pi o = 0
    omega) (fun i a b => (M.1 i a (hl i a b)).imp id (fun y => by omega)) (fun i j a b c d => M.2 i j a (hl i a b) c (hl j c d))
  have q2 := is_l (g := g) (f := F.f) (m := F.n.toNat) (F.e - F.f).toNat (fun o => P - pi o) (fun o a b => by
    have y := (C.1 o a (by omega)).1
    show 0 ≤ P - pi o
    omega) (fun i a b => (G.1 i a (hl i a b)).imp id (fun y => by omega)) (fun i j a b c d => G.2 i j a (hl i a b) c (hl j c d))
  omega
/-- cost less what each is worth -/
theorem lg_e {g : Int → Int} {d : Int → Int → Int} {f L : Int} : ∀ n : Nat, sf9_ (tk9_ g (fun i o => d i o - L)) f n = sf9_ (tk9_ g d) f n - L * sf9_ (tk9_ g (fun _ _ => 1)) f n
  | 0 => by
    show (0 : Int) = 0 - L * 0
    rw [Int.mul_zero]
    rfl
  | n + 1 => by
    show sf9_ (tk9_ g (fun i o => d i o - L)) f n + tk9_ g (fun i o => d i o - L) (f + (n : Int)) = sf9_ (tk9_ g d) f n + tk9_ g d (f + (n : Int)) - L * (sf9_ (tk9_ g (fun _ _ => 1)) f n + tk9_ g (fun _ _ => 1) (f + (n : Int)))
    rw [lg_e n]
    by_cases z : g (f + (n : Int)) = -1
    · rw [tk_n z, tk_n z, tk_n z, Int.add_zero, Int.add_zero, Int.add_zero]
    · rw [tk_s z, tk_s z, tk_s z, Int.mul_add, Int.mul_one]
      omega
/-- how many, what cost, what worth -/
def mc9_ (F : Of_) (g : Int → Int) : Int := sf9_ (tk9_ g (fun _ _ => 1)) F.f (F.e - F.f).toNat
def ms9_ (F : Of_) (g : Int → Int) : Int := sf9_ (tk9_ g F.d) F.f (F.e - F.f).toNat
theorem mc_b {F : Of_} {g : Int → Int} (D : of_d F) (G : MTo_ F g) (hn : 0 ≤ F.n) : (0 ≤ mc9_ F g ∧ mc9_ F g ≤ F.n) ∧ (0 ≤ ms9_ F g ∧ ms9_ F g ≤ 11 * mc9_ F g) := by
  have hl : ∀ i, F.f ≤ i → i < F.f + ((F.e - F.f).toNat : Int) → i < F.e := fun i a b => by omega
  have a1 := is_l (g := g) (f := F.f) (m := F.n.toNat) (F.e - F.f).toNat (fun _ => 1) (fun _ _ _ => by decide) (fun i a b => (G.1 i a (hl i a b)).imp id (fun y => by omega)) (fun i j a b c d => G.2 i j a (hl i a b) c (hl j c d))
  rw [sf_1] at a1
  have a2 := sf_l (h := fun _ => 0) (h' := tk9_ g (fun _ _ => 1)) (f := F.f) (F.e - F.f).toNat (fun i a b => by
    by_cases z : g i = -1
    · rw [tk_n z]; exact Int.le_refl _
    · rw [tk_s z]; decide)
  have a3 := sf_l (h := fun _ => 0) (h' := tk9_ g F.d) (f := F.f) (F.e - F.f).toNat (fun i a b => by
    by_cases z : g i = -1
    · rw [tk_n z]; exact Int.le_refl _
    · rw [tk_s z]
      have q := (G.1 i a (hl i a b)).resolve_left z
      exact (D i (g i) a (hl i a b) q.1.1 q.1.2).1)
  have a4 := sf_l (h := tk9_ g (fun i o => F.d i o - 11)) (h' := fun _ => 0) (f := F.f) (F.e - F.f).toNat (fun i a b => by
    by_cases z : g i = -1
    · rw [tk_n z]; exact Int.le_refl _
    · rw [tk_s z]
      have q := (G.1 i a (hl i a b)).resolve_left z
      have y := (D i (g i) a (hl i a b) q.1.1 q.1.2).2
      show F.d i (g i) - 11 ≤ 0
      omega)
  rw [lg_e, sf_0] at a4
  rw [sf_0] at a2 a3
  unfold mc9_ ms9_
  omega
/-- the one at hand is the best: as many as can be, at the least cost -/
theorem ce_m {F : Of_} {ho g pi : Int → Int} {P : Int} (D : of_d F) (Q : po_ F ho pi) (M : MTo_ F ho) (C : CE_ F ho pi P) (G : MTo_ F g) (hn : 0 ≤ F.n ∧ F.n ≤ 8) (hP : 11000 ≤ P) : mc9_ F g ≤ mc9_ F ho ∧ (mc9_ F g = mc9_ F ho → ms9_ F ho ≤ ms9_ F g) := by
  have a := ce_o Q M C G hn.1
  rw [lg_e, lg_e] at a
  have b := mc_b D G hn.1
  have c := mc_b D M hn.1
  have a' : ms9_ F ho - (P - 10000) * mc9_ F ho ≤ ms9_ F g - (P - 10000) * mc9_ F g := a
  by_cases z : mc9_ F g ≤ mc9_ F ho
  · refine ⟨z, fun y => ?_⟩
    rw [y] at a'
    omega
  · exfalso
    have e : mc9_ F ho + 1 ≤ mc9_ F g := by omega
    have k := Int.mul_le_mul_of_nonneg_left e (show 0 ≤ P - 10000 by omega)
    rw [Int.mul_add, Int.mul_one] at k
    omega
/-- of all that stand, none is worth more -/
theorem ce_v {F : Of_} {ho g pi : Int → Int} {P : Int} (D : of_d F) (Q : po_ F ho pi) (M : MTo_ F ho) (C : CE_ F ho pi P) (G : MTo_ F g) (hn : 0 ≤ F.n ∧ F.n ≤ 8) (hP : 11000 ≤ P) : 1000 * mc9_ F g - ms9_ F g ≤ 1000 * mc9_ F ho - ms9_ F ho := by
  have a := ce_m D Q M C G hn hP
  have b := mc_b D G hn.1
  have c := mc_b D M hn.1
  by_cases z : mc9_ F g = mc9_ F ho
  · have := a.2 z
    omega
  · omega
-- a way is gone back: the matching meanwhile
/-- whom nobody has is free -/
def KH_ (F : Of_) (h1 hl : Int → Int) (x : Int) : Prop := ∀ q, 0 ≤ q → q < F.n → q ≠ x → (hl q = -1 ↔ ∀ i, F.f ≤ i → i < F.e → h1 i ≠ q)
def WM_ (F : Of_) (h1 hl far : Int → Int) (o cst cnt : Int) : Prop := MTo_ F h1 ∧ (o ≠ -1 → ∀ i, F.f ≤ i → i < F.e → h1 i ≠ o) ∧ KH_ F h1 hl o ∧ ms9_ F h1 + (if o = -1 then 0 else far o - 10000) = cst ∧ mc9_ F h1 + (if o = -1 then 0 else 1) = cnt
theorem wm_0 {F : Of_} {ho hl far : Int → Int} (M : MTo_ F ho) (K : KH_ F ho hl (-1)) : WM_ F ho hl far (-1) (ms9_ F ho) (mc9_ F ho) := ⟨M, fun z => absurd rfl z, K, by rw [if_pos rfl, Int.add_zero], by rw [if_pos rfl, Int.add_zero]⟩
theorem wm_i {F : Of_} {ho hl far : Int → Int} {en : Int} (M : MTo_ F ho) (K : KH_ F ho hl (-1)) (h : 0 ≤ en ∧ en < F.n) (hf : hl en = -1) : WM_ F ho hl far en (ms9_ F ho + (far en - 10000)) (mc9_ F ho + 1) := ⟨M, fun _ => (K en h.1 h.2 (by omega)).mp hf, fun q a b _ => K q a b (by omega), by rw [if_neg (by omega)], by rw [if_neg (by omega)]⟩
theorem wm_z {F : Of_} {h1 hl far : Int → Int} {cst cnt : Int} (W : WM_ F h1 hl far (-1) cst cnt) : MTo_ F h1 ∧ KH_ F h1 hl (-1) ∧ ms9_ F h1 = cst ∧ mc9_ F h1 = cnt := by
  obtain ⟨a, -, b, c, d⟩ := W
  rw [if_pos rfl, Int.add_zero] at c d
  exact ⟨a, b, c, d⟩
/-- a match takes another official: count and cost -/
theorem ms_u {F : Of_} {h1 : Int → Int} {u : Int → Int → Int} {j o : Int} (hj : F.f ≤ j ∧ j < F.e) (h : o ≠ -1) : sf9_ (tk9_ (fu_ h1 j o) u) F.f (F.e - F.f).toNat = sf9_ (tk9_ h1 u) F.f (F.e - F.f).toNat - tk9_ h1 u j + u j o := by
  have a := sf_u (h := tk9_ h1 u) (h' := tk9_ (fu_ h1 j o) u) (f := F.f) (j := j) (F.e - F.f).toNat hj.1 (by omega) (fun i z => by
    unfold tk9_
    rw [fu_n z])
  rw [a, tk_s (g := fu_ h1 j o) (by rw [fu_s]; exact h), fu_s]
theorem wm_s {F : Of_} {ho h1 hl far pi cb : Int → Int} {st : Int → Nat} {D o cst cnt : Int} (hf0 : 0 ≤ F.f) (Q : of_d F) (X : fx_ F ho pi far cb st) (W : wy_ F ho h1 pi far st D o) (h : o ≠ -1) (B : WM_ F h1 hl far o cst cnt) : WM_ F (fu_ h1 (cb o) o) (fu_ hl o (cb o)) far (h1 (cb o)) cst cnt := by
  obtain ⟨ho0, hf, hd⟩ := W.1.resolve_left h
  obtain ⟨t1, t2, t3, t4, t5⟩ := fx_t Q X ho0 hf
  obtain ⟨w1, w2, w3, w4⟩ := wy_s Q X W h
  obtain ⟨⟨m1, m2⟩, b2, b3, b4, b5⟩ := B
  have b2 := b2 h
  rw [if_neg h] at b4 b5
  have nh : ∀ i, F.f ≤ i → i < F.e → i ≠ cb o → h1 i = h1 (cb o) → h1 (cb o) = -1 := fun i a b c e => (m2 i (cb o) a b t2.1 t2.2 e).elim (fun v => by rw [← e]; exact v) (fun v => absurd v c)
  refine ⟨⟨fun i a b => ?_, fun i j a b c d e => ?_⟩, fun z i a b => ?_, fun q a b z => ?_, ?_, ?_⟩
  · by_cases y : i = cb o
    · rw [y, fu_s]; exact Or.inr ⟨ho0, t3⟩
    · rw [fu_n y]; exact m1 i a b
  · by_cases y : i = cb o
    · by_cases x : j = cb o
      · exact Or.inr (by omega)
      · rw [y, fu_s, fu_n x] at e
        exact absurd e.symm (b2 j c d)
    · by_cases x : j = cb o
      · rw [x, fu_s, fu_n y] at e
        exact absurd e (b2 i a b)
      · rw [fu_n y, fu_n x] at e
        rw [fu_n y]
        exact m2 i j a b c d e
  · by_cases y : i = cb o
    · rw [y, fu_s]
      exact fun e => b2 (cb o) t2.1 t2.2 e.symm
    · rw [fu_n y]
      exact fun e => z (nh i a b y e)
  · by_cases y : q = o
    · rw [y, fu_s]
      exact ⟨fun e => absurd t2.1 (by omega), fun e => absurd (fu_s h1 (cb o) o) (e (cb o) t2.1 t2.2)⟩
    · rw [fu_n y, b3 q a b y]
      refine ⟨fun e i c d => ?_, fun e i c d => ?_⟩
      · by_cases x : i = cb o
        · rw [x, fu_s]; exact fun v => y v.symm
        · rw [fu_n x]; exact e i c d
      · by_cases x : i = cb o
        · rw [x]; exact fun v => z v.symm
        · have k := e i c d
          rw [fu_n x] at k
          exact k
  · show sf9_ (tk9_ (fu_ h1 (cb o) o) F.d) F.f (F.e - F.f).toNat + _ = cst
    rw [ms_u t2 h]
    have b4' : sf9_ (tk9_ h1 F.d) F.f (F.e - F.f).toNat + (far o - 10000) = cst := b4
    by_cases y : h1 (cb o) = -1
    · rw [if_pos y, tk_n y]
      rcases t5 with v | v
      · omega
      · rw [w2] at y; omega
    · rw [if_neg y, tk_s y]
      rcases t5 with v | v
      · rw [w2] at y; exact absurd v.1 y
      · rw [w2]
        omega
  · show sf9_ (tk9_ (fu_ h1 (cb o) o) (fun _ _ => 1)) F.f (F.e - F.f).toNat + _ = cnt
    rw [ms_u t2 h]
    have b5' : sf9_ (tk9_ h1 (fun _ _ => 1)) F.f (F.e - F.f).toNat + 1 = cnt := b5
    by_cases y : h1 (cb o) = -1
    · rw [if_pos y, tk_n y]
      omega
    · rw [if_neg y, tk_s y]
      omega
/-- the new potentials: what they are -/
theorem pn_b {F : Of_} {ho far pi cb : Int → Int} {st : Int → Nat} {D : Int} (X : fx_ F ho pi far cb st) (hD : 0 ≤ D) {o : Int} (h : 0 ≤ o ∧ o < F.n) : pi o ≤ pn_ pi far D o ∧ pn_ pi far D o ≤ pi o + D := by
  unfold pn_
  split
  · exact ⟨by omega, by omega⟩
  · split
    · refine ⟨?_, by omega⟩
      exact fx_p X h (by omega)
    · exact ⟨by omega, by omega⟩
/-- a way was gone back: what is kept holds again -/
theorem ce_s {F : Of_} {ho h1 far pi cb : Int → Int} {st : Int → Nat} {D P en : Int} (X : fx_ F ho pi far cb st) (C : CE_ F ho pi P) (W : wy_ F ho h1 pi far st D (-1)) (hD : 0 ≤ D) (he : pi en = P ∧ D = far en - pi en) (hm : ∀ q, 0 ≤ q → q < F.n → (∀ i, F.f ≤ i → i < F.e → ho i ≠ q) → 0 ≤ far q → far en ≤ far q) (K : ∀ q, 0 ≤ q → q < F.n → (∀ i, F.f ≤ i → i < F.e → h1 i ≠ q) → ∀ i, F.f ≤ i → i < F.e → ho i ≠ q) : CE_ F h1 (pn_ pi far D) (P + D) := by
  refine ⟨fun o a b => ⟨?_, fun z => ?_⟩, fun i a b z => ?_⟩
  · have x := (pn_b X hD (o := o) ⟨a, b⟩).2
    have y := (C.1 o a b).1
    omega
  · have y := (C.1 o a b).2 (K o a b z)
    unfold pn_
    by_cases w : far o < 0
    · rw [if_pos w, y]
    · rw [if_neg w]
      have v := hm o a b (K o a b z) (by omega)
      by_cases u : far o ≤ pi o + D
      · rw [if_pos u]; omega
      · rw [if_neg u, y]
  · have r := X.1.2.1 i a b
    rcases W.2 i a b with w | ⟨⟨w1, w2, w3, w4⟩, -⟩
    · rw [w] at z ⊢
      have y := C.2 i a b z
      have x := (pn_b X hD (o := ho i) ⟨by omega, by omega⟩).1
      omega
    · have e : pn_ pi far D (h1 i) = far (h1 i) := by
        unfold pn_
        rw [if_neg (by omega), if_pos w3]
      rw [e]
      rcases w4 with v | v
      · omega
      · have y := C.2 i a b (by omega)
        have x := fx_p X (o := ho i) ⟨by omega, by omega⟩ v.2.1
        omega
/-- no free official is reached: none stands that is worth more -/
theorem ce_z {F : Of_} {ho g far pi cb : Int → Int} {st : Int → Nat} {P : Int} (Q : of_d F) (X : fx_ F ho pi far cb st) (M : MTo_ F ho) (C : CE_ F ho pi P) (hP : 10000 ≤ P) (hn : 0 ≤ F.n ∧ F.n ≤ 8) (hz : ∀ q, 0 ≤ q → q < F.n → (∀ i, F.f ≤ i → i < F.e → ho i ≠ q) → far q < 0) (G : MTo_ F g) : 1000 * mc9_ F g - ms9_ F g ≤ 1000 * mc9_ F ho - ms9_ F ho := by
  have W : wy_ F ho ho pi far st 1000 (-1) := ⟨Or.inl rfl, fun i _ _ => Or.inl rfl⟩
  have R := wy_e Q X (by decide) W
  refine ce_v (pi := pn_ pi far 1000) (P := P + 1000) Q R M ⟨fun o a b => ⟨?_, fun z => ?_⟩, fun i a b z => ?_⟩ G hn (by omega)
  · have x := (pn_b X (D := 1000) (by decide) (o := o) ⟨a, b⟩).2
    have y := (C.1 o a b).1
    omega
  · have y := (C.1 o a b).2 z
    unfold pn_
    rw [if_pos (hz o a b z), y]
  · have r := X.1.2.1 i a b
    have y := C.2 i a b z
    have x := (pn_b X (D := 1000) (by decide) (o := ho i) ⟨by omega, by omega⟩).1
    omega
theorem ce_0 {F : Of_} {ho : Int → Int} (h : ∀ i, F.f ≤ i → i < F.e → ho i = -1) : MTo_ F ho ∧ CE_ F ho (fun _ => 10000) 10000 ∧ mc9_ F ho = 0 ∧ ms9_ F ho = 0 := by
  have z : ∀ u : Int → Int → Int, sf9_ (tk9_ ho u) F.f (F.e - F.f).toNat = 0 := fun u => by
    rw [sf_e (h := tk9_ ho u) (h' := fun _ => 0) (F.e - F.f).toNat (fun i a b => tk_n (h i a (by omega))), sf_0]
  exact ⟨⟨fun i a b => Or.inl (h i a b), fun i j a b _ _ _ => Or.inl (h i a b)⟩, ⟨fun o _ _ => ⟨Int.le_refl _, fun _ => rfl⟩, fun i a b y => absurd (h i a b) y⟩, z _, z _⟩
-- officials: the best by sets of those gone, words
theorem or_z {s q x : Int} (hs : 0 ≤ s ∧ s ≤ 4095) (hq : 0 ≤ q ∧ q ≤ 11) (hx : 0 ≤ x ∧ x ≤ 11) : an_ (sr_ (or_ s (sl_ 1 q)) x) 1 = 0 ↔ an_ (sr_ s x) 1 = 0 ∧ x ≠ q := by
  have hb := sl_b hq
  have ho2 := or_b hs hb
  rw [bt_n (by omega) (by omega), bt_n (by omega) (by omega)]
  unfold bt_
  rw [or_n (by omega) (by omega), Int.toNat_natCast, Nat.testBit_or, sl_q hq, Int.toNat_natCast, Nat.testBit_two_pow]
  by_cases z : s.toNat.testBit x.toNat = true
  · simp [z]
  · by_cases y : q.toNat = x.toNat
    · have e : x = q := by omega
      subst e
      simp [z]
    · have e : x ≠ q := fun v => y (by omega)
      simp [z, y, e]
/-- the day's officials with a set gone, from match f on -/
def OG_ (d : Int → Int → Int) (A : Int → Int → Prop) (n e s f : Int) : Of_ := ⟨d, fun i o => an_ (sr_ s o) 1 = 0 ∧ A i o, n, f, e⟩
/-- the most of what w officials can give match k, or to leave it -/
noncomputable def mx9_ (d : Int → Int → Int) (A : Int → Int → Prop) (k s : Int) (B : Int → Int) : Nat → Int
  | 0 => B s
  | w + 1 => cz_ ((an_ (sr_ s (w : Int)) 1 = 0 ∧ A k (w : Int)) ∧ mx9_ d A k s B w < 1000 - d k (w : Int) + B (or_ s (sl_ 1 (w : Int)))) (1000 - d k (w : Int) + B (or_ s (sl_ 1 (w : Int)))) (mx9_ d A k s B w)
noncomputable def bw9_ (d : Int → Int → Int) (A : Int → Int → Prop) (n e : Int) : Nat → Int → Int
  | 0, _ => 0
  | j + 1, s => mx9_ d A (e - ((j + 1 : Nat) : Int)) s (fun t => bw9_ d A n e j t) n.toNat
theorem mx_g {d : Int → Int → Int} {A : Int → Int → Prop} {k s : Int} {B : Int → Int} : ∀ N : Nat, B s ≤ mx9_ d A k s B N ∧ ∀ w : Int, 0 ≤ w → w < (N : Int) → (an_ (sr_ s w) 1 = 0 ∧ A k w) → 1000 - d k w + B (or_ s (sl_ 1 w)) ≤ mx9_ d A k s B N
  | 0 => ⟨Int.le_refl _, fun w a b => by omega⟩
  | N + 1 => by
    have ih := mx_g (d := d) (A := A) (k := k) (s := s) (B := B) N
    have st : mx9_ d A k s B N ≤ mx9_ d A k s B (N + 1) ∧ ((an_ (sr_ s (N : Int)) 1 = 0 ∧ A k (N : Int)) → 1000 - d k (N : Int) + B (or_ s (sl_ 1 (N : Int))) ≤ mx9_ d A k s B (N + 1)) := by
      show mx9_ d A k s B N ≤ cz_ ((an_ (sr_ s (N : Int)) 1 = 0 ∧ A k (N : Int)) ∧ mx9_ d A k s B N < 1000 - d k (N : Int) + B (or_ s (sl_ 1 (N : Int)))) (1000 - d k (N : Int) + B (or_ s (sl_ 1 (N : Int)))) (mx9_ d A k s B N) ∧ (_ → _ ≤ cz_ ((an_ (sr_ s (N : Int)) 1 = 0 ∧ A k (N : Int)) ∧ mx9_ d A k s B N < 1000 - d k (N : Int) + B (or_ s (sl_ 1 (N : Int)))) (1000 - d k (N : Int) + B (or_ s (sl_ 1 (N : Int)))) (mx9_ d A k s B N))
      by_cases z : (an_ (sr_ s (N : Int)) 1 = 0 ∧ A k (N : Int)) ∧ mx9_ d A k s B N < 1000 - d k (N : Int) + B (or_ s (sl_ 1 (N : Int)))
      · rw [cz_t z]
        exact ⟨Int.le_of_lt z.2, fun _ => Int.le_refl _⟩
      · rw [cz_f z]
        exact ⟨Int.le_refl _, fun y => Int.not_lt.mp (fun x => z ⟨y, x⟩)⟩
    refine ⟨Int.le_trans ih.1 st.1, fun w a b c => ?_⟩
    by_cases z : w = (N : Int)
    · rw [z] at c ⊢
      exact st.2 c
    · exact Int.le_trans (ih.2 w a (by omega) c) st.1
theorem mx_a {d : Int → Int → Int} {A : Int → Int → Prop} {k s : Int} {B : Int → Int} : ∀ N : Nat, mx9_ d A k s B N = B s ∨ ∃ w : Int, (0 ≤ w ∧ w < (N : Int)) ∧ (an_ (sr_ s w) 1 = 0 ∧ A k w) ∧ mx9_ d A k s B N = 1000 - d k w + B (or_ s (sl_ 1 w))
  | 0 => Or.inl rfl
  | N + 1 => by
    by_cases z : (an_ (sr_ s (N : Int)) 1 = 0 ∧ A k (N : Int)) ∧ mx9_ d A k s B N < 1000 - d k (N : Int) + B (or_ s (sl_ 1 (N : Int)))
    · exact Or.inr ⟨(N : Int), ⟨by omega, by omega⟩, z.1, cz_t z⟩
    · have e : mx9_ d A k s B (N + 1) = mx9_ d A k s B N := cz_f z
      rw [e]
      rcases mx_a (d := d) (A := A) (k := k) (s := s) (B := B) N with y | ⟨w, a, b, c⟩
      · exact Or.inl y
      · exact Or.inr ⟨w, ⟨a.1, by omega⟩, b, c⟩
/-- what a matching is worth -/
def vl9_ (d : Int → Int → Int) (g : Int → Int) (f : Int) (j : Nat) : Int := sf9_ (tk9_ g (fun i o => 1000 - d i o)) f j
theorem vl_e {d : Int → Int → Int} {g : Int → Int} {f : Int} {j : Nat} : vl9_ d g f j = 1000 * sf9_ (tk9_ g (fun _ _ => 1)) f j - sf9_ (tk9_ g d) f j := by
  have a := lg_e (g := g) (d := d) (f := f) (L := 1000) j
  have b : sf9_ (tk9_ g (fun i o => 1000 - d i o)) f j = -sf9_ (tk9_ g (fun i o => d i o - 1000)) f j := by
    rw [← sf_n]
    refine sf_e j (fun i p q => ?_)
    by_cases z : g i = -1
    · rw [tk_n z, tk_n z]; try rfl
    · rw [tk_s z, tk_s z]
      omega
  unfold vl9_
  rw [b, a]
  omega
/-- no matching is worth more than the best by sets -/
theorem bw_u {d : Int → Int → Int} {A : Int → Int → Prop} {n e : Int} (hn : n ≤ 8) : ∀ (j : Nat) (s : Int) (g : Int → Int), (0 ≤ s ∧ s ≤ 4095) → MTo_ (OG_ d A n e s (e - (j : Int))) g → vl9_ d g (e - (j : Int)) j ≤ bw9_ d A n e j s
  | 0, _, _, _, _ => Int.le_refl _
  | j + 1, s, g, hs, M => by
    have hd : vl9_ d g (e - ((j + 1 : Nat) : Int)) (j + 1) = tk9_ g (fun i o => 1000 - d i o) (e - ((j + 1 : Nat) : Int)) + vl9_ d g (e - (j : Int)) j := by
      unfold vl9_
      rw [sf_h, show e - ((j + 1 : Nat) : Int) + 1 = e - (j : Int) by omega]
    rw [hd]
    have mg := mx_g (d := d) (A := A) (k := e - ((j + 1 : Nat) : Int)) (s := s) (B := fun t => bw9_ d A n e j t) n.toNat
    show _ ≤ mx9_ d A (e - ((j + 1 : Nat) : Int)) s (fun t => bw9_ d A n e j t) n.toNat
    obtain ⟨M1, M2⟩ := M
    have m1 : ∀ i, e - ((j + 1 : Nat) : Int) ≤ i → i < e → g i = -1 ∨ ((0 ≤ g i ∧ g i < n) ∧ an_ (sr_ s (g i)) 1 = 0 ∧ A i (g i)) := M1
    have m2 : ∀ i k, e - ((j + 1 : Nat) : Int) ≤ i → i < e → e - ((j + 1 : Nat) : Int) ≤ k → k < e → g i = g k → g i = -1 ∨ i = k := M2
    by_cases z : g (e - ((j + 1 : Nat) : Int)) = -1
    · rw [tk_n z]
      have t1 : ∀ i, e - (j : Int) ≤ i → i < e → g i = -1 ∨ ((0 ≤ g i ∧ g i < n) ∧ an_ (sr_ s (g i)) 1 = 0 ∧ A i (g i)) := fun i a b => m1 i (by omega) b
      have t2 : ∀ i k, e - (j : Int) ≤ i → i < e → e - (j : Int) ≤ k → k < e → g i = g k → g i = -1 ∨ i = k := fun i k a b c f => m2 i k (by omega) b (by omega) f
      have ih := bw_u (d := d) hn j s g hs ⟨t1, t2⟩
      have y := mg.1
      have y' : bw9_ d A n e j s ≤ mx9_ d A (e - ((j + 1 : Nat) : Int)) s (fun t => bw9_ d A n e j t) n.toNat := y
      omega
    · rw [tk_s z]
      have q := (m1 (e - ((j + 1 : Nat) : Int)) (by omega) (by omega)).resolve_left z
      have hw : 0 ≤ g (e - ((j + 1 : Nat) : Int)) ∧ g (e - ((j + 1 : Nat) : Int)) ≤ 11 := by omega
      have hs2 : 0 ≤ or_ s (sl_ 1 (g (e - ((j + 1 : Nat) : Int)))) ∧ or_ s (sl_ 1 (g (e - ((j + 1 : Nat) : Int)))) ≤ 4095 := or_b hs (sl_b hw)
      have t1 : ∀ i, e - (j : Int) ≤ i → i < e → g i = -1 ∨ ((0 ≤ g i ∧ g i < n) ∧ an_ (sr_ (or_ s (sl_ 1 (g (e - ((j + 1 : Nat) : Int))))) (g i)) 1 = 0 ∧ A i (g i)) := fun i a b => by
        refine (m1 i (by omega) b).imp id (fun y => ⟨y.1, (or_z hs hw (by omega)).mpr ⟨y.2.1, fun v => ?_⟩, y.2.2⟩)
        rcases m2 i (e - ((j + 1 : Nat) : Int)) (by omega) b (by omega) (by omega) v with u | u
        · omega
        · omega
      have t2 : ∀ i k, e - (j : Int) ≤ i → i < e → e - (j : Int) ≤ k → k < e → g i = g k → g i = -1 ∨ i = k := fun i k a b c f => m2 i k (by omega) b (by omega) f
      have ih := bw_u (d := d) hn j (or_ s (sl_ 1 (g (e - ((j + 1 : Nat) : Int))))) g hs2 ⟨t1, t2⟩
      have y := mg.2 (g (e - ((j + 1 : Nat) : Int))) q.1.1 (by omega) q.2
      have y' : 1000 - d (e - ((j + 1 : Nat) : Int)) (g (e - ((j + 1 : Nat) : Int))) + bw9_ d A n e j (or_ s (sl_ 1 (g (e - ((j + 1 : Nat) : Int))))) ≤ mx9_ d A (e - ((j + 1 : Nat) : Int)) s (fun t => bw9_ d A n e j t) n.toNat := y
      show 1000 - d (e - ((j + 1 : Nat) : Int)) (g (e - ((j + 1 : Nat) : Int))) + vl9_ d g (e - (j : Int)) j ≤ _
      omega
/-- and one is worth just that -/
theorem bw_a {d : Int → Int → Int} {A : Int → Int → Prop} {n e : Int} (hn : n ≤ 8) : ∀ (j : Nat) (s : Int), (0 ≤ s ∧ s ≤ 4095) → ∃ g, MTo_ (OG_ d A n e s (e - (j : Int))) g ∧ vl9_ d g (e - (j : Int)) j = bw9_ d A n e j s
  | 0, s, _ => ⟨fun _ => -1, ⟨fun i _ _ => Or.inl rfl, fun i k _ _ _ _ _ => Or.inl rfl⟩, rfl⟩
  | j + 1, s, hs => by
    have hd : ∀ g : Int → Int, vl9_ d g (e - ((j + 1 : Nat) : Int)) (j + 1) = tk9_ g (fun i o => 1000 - d i o) (e - ((j + 1 : Nat) : Int)) + vl9_ d g (e - (j : Int)) j := fun g => by
      unfold vl9_
      rw [sf_h, show e - ((j + 1 : Nat) : Int) + 1 = e - (j : Int) by omega]
    have hk : ∀ (g : Int → Int) (w : Int), vl9_ d (fu_ g (e - ((j + 1 : Nat) : Int)) w) (e - (j : Int)) j = vl9_ d g (e - (j : Int)) j := fun g w => sf_e j (fun i a b => by
      unfold tk9_
      rw [fu_n (show i ≠ e - ((j + 1 : Nat) : Int) by omega)])
    rcases mx_a (d := d) (A := A) (k := e - ((j + 1 : Nat) : Int)) (s := s) (B := fun t => bw9_ d A n e j t) n.toNat with y | ⟨w, a, b, c⟩
    · obtain ⟨g, ⟨g1, g2⟩, g3⟩ := bw_a (d := d) (A := A) (n := n) (e := e) hn j s hs
      have g1' : ∀ i, e - (j : Int) ≤ i → i < e → g i = -1 ∨ ((0 ≤ g i ∧ g i < n) ∧ an_ (sr_ s (g i)) 1 = 0 ∧ A i (g i)) := g1
      have g2' : ∀ i k, e - (j : Int) ≤ i → i < e → e - (j : Int) ≤ k → k < e → g i = g k → g i = -1 ∨ i = k := g2
      have t1 : ∀ i, e - ((j + 1 : Nat) : Int) ≤ i → i < e → fu_ g (e - ((j + 1 : Nat) : Int)) (-1) i = -1 ∨ ((0 ≤ fu_ g (e - ((j + 1 : Nat) : Int)) (-1) i ∧ fu_ g (e - ((j + 1 : Nat) : Int)) (-1) i < n) ∧ an_ (sr_ s (fu_ g (e - ((j + 1 : Nat) : Int)) (-1) i)) 1 = 0 ∧ A i (fu_ g (e - ((j + 1 : Nat) : Int)) (-1) i)) := fun i p q => by
        by_cases z : i = e - ((j + 1 : Nat) : Int)
        · rw [z, fu_s]; exact Or.inl rfl
        · rw [fu_n z]; exact g1' i (by omega) q
      refine ⟨fu_ g (e - ((j + 1 : Nat) : Int)) (-1), ⟨t1, fun i k p q r t v => ?_⟩, ?_⟩
      · have p' : e - ((j + 1 : Nat) : Int) ≤ i := p
        have r' : e - ((j + 1 : Nat) : Int) ≤ k := r
        by_cases z : i = e - ((j + 1 : Nat) : Int)
        · rw [z, fu_s]; exact Or.inl rfl
        · by_cases x : k = e - ((j + 1 : Nat) : Int)
          · rw [v, x, fu_s]; exact Or.inl rfl
          · rw [fu_n z, fu_n x] at v
            rw [fu_n z]
            exact g2' i k (by omega) q (by omega) t v
      · rw [hd, hk, tk_n (fu_s _ _ _), g3]
        have y' : mx9_ d A (e - ((j + 1 : Nat) : Int)) s (fun t => bw9_ d A n e j t) n.toNat = bw9_ d A n e j s := y
        show 0 + bw9_ d A n e j s = mx9_ d A (e - ((j + 1 : Nat) : Int)) s (fun t => bw9_ d A n e j t) n.toNat
        omega
    · have hw : 0 ≤ w ∧ w ≤ 11 := by omega
      have hs2 : 0 ≤ or_ s (sl_ 1 w) ∧ or_ s (sl_ 1 w) ≤ 4095 := or_b hs (sl_b hw)
      obtain ⟨g, ⟨g1, g2⟩, g3⟩ := bw_a (d := d) (A := A) (n := n) (e := e) hn j (or_ s (sl_ 1 w)) hs2
      have g1' : ∀ i, e - (j : Int) ≤ i → i < e → g i = -1 ∨ ((0 ≤ g i ∧ g i < n) ∧ an_ (sr_ (or_ s (sl_ 1 w)) (g i)) 1 = 0 ∧ A i (g i)) := g1
      have g2' : ∀ i k, e - (j : Int) ≤ i → i < e → e - (j : Int) ≤ k → k < e → g i = g k → g i = -1 ∨ i = k := g2
      have nw : ∀ i, e - (j : Int) ≤ i → i < e → g i ≠ w := fun i p q v => by
        rcases g1' i p q with u | u
        · omega
        · exact ((or_z hs hw (by omega)).mp u.2.1).2 v
      have t1 : ∀ i, e - ((j + 1 : Nat) : Int) ≤ i → i < e → fu_ g (e - ((j + 1 : Nat) : Int)) w i = -1 ∨ ((0 ≤ fu_ g (e - ((j + 1 : Nat) : Int)) w i ∧ fu_ g (e - ((j + 1 : Nat) : Int)) w i < n) ∧ an_ (sr_ s (fu_ g (e - ((j + 1 : Nat) : Int)) w i)) 1 = 0 ∧ A i (fu_ g (e - ((j + 1 : Nat) : Int)) w i)) := fun i p q => by
        by_cases z : i = e - ((j + 1 : Nat) : Int)
        · rw [z, fu_s]; exact Or.inr ⟨⟨a.1, show w < n by omega⟩, b⟩
        · rw [fu_n z]
          exact (g1' i (by omega) q).imp id (fun u => ⟨u.1, ((or_z hs hw (by omega)).mp u.2.1).1, u.2.2⟩)
      refine ⟨fu_ g (e - ((j + 1 : Nat) : Int)) w, ⟨t1, fun i k p q r t v => ?_⟩, ?_⟩
      · have p' : e - ((j + 1 : Nat) : Int) ≤ i := p
        have r' : e - ((j + 1 : Nat) : Int) ≤ k := r
        by_cases z : i = e - ((j + 1 : Nat) : Int)
        · by_cases x : k = e - ((j + 1 : Nat) : Int)
          · exact Or.inr (by omega)
          · rw [z, fu_s, fu_n x] at v
            exact absurd v.symm (nw k (by omega) t)
        · by_cases x : k = e - ((j + 1 : Nat) : Int)
          · rw [x, fu_s, fu_n z] at v
            exact absurd v (nw i (by omega) q)
          · rw [fu_n z, fu_n x] at v
            rw [fu_n z]
            exact g2' i k (by omega) q (by omega) t v
      · rw [hd, hk, tk_s (by rw [fu_s]; omega), fu_s, g3]
        exact c.symm
/-- the best matching tells the best by sets -/
theorem bw_q {d : Int → Int → Int} {A : Int → Int → Prop} {n e f s : Int} {ho : Int → Int} (hn : n ≤ 8) (hf : f ≤ e) (hs : 0 ≤ s ∧ s ≤ 4095) (M : MTo_ (OG_ d A n e s f) ho) (H : ∀ g, MTo_ (OG_ d A n e s f) g → 1000 * mc9_ (OG_ d A n e s f) g - ms9_ (OG_ d A n e s f) g ≤ 1000 * mc9_ (OG_ d A n e s f) ho - ms9_ (OG_ d A n e s f) ho) : bw9_ d A n e (e - f).toNat s = 1000 * mc9_ (OG_ d A n e s f) ho - ms9_ (OG_ d A n e s f) ho := by
  have ef : e - (((e - f).toNat : Nat) : Int) = f := by omega
  have v : ∀ g, vl9_ d g f (e - f).toNat = 1000 * mc9_ (OG_ d A n e s f) g - ms9_ (OG_ d A n e s f) g := fun g => vl_e
  have a := bw_u (d := d) (A := A) (n := n) (e := e) hn (e - f).toNat s ho hs (by rw [ef]; exact M)
  obtain ⟨g, g1, g2⟩ := bw_a (d := d) (A := A) (n := n) (e := e) hn (e - f).toNat s hs
  rw [ef] at a g1 g2
  have b := H g g1
  rw [← v g, ← v ho] at b
  rw [← v ho]
  omega
/-- the best matching is found -/
def MB_ (T T' : Zt) (tk f : Int) : Prop := MTo_ (ofs_ T tk f) (gh_ T') ∧ T' 111 0 113 = ms9_ (ofs_ T tk f) (gh_ T') ∧ T' 111 0 112 = mc9_ (ofs_ T tk f) (gh_ T') ∧ ∀ g, MTo_ (ofs_ T tk f) g → 1000 * mc9_ (ofs_ T tk f) g - ms9_ (ofs_ T tk f) g ≤ 1000 * mc9_ (ofs_ T tk f) (gh_ T') - ms9_ (ofs_ T tk f) (gh_ T')
theorem bk_X11_matchRest_e_190 : ck_ fX11 none cX11_matchRest 190 [.iload 5, .iconst (-1), .if_icmp .eq 239, .aload 0, .tableswitch 0 11 110 #[], .iload 5, .iaload, .istore 6, .aload 0, .tableswitch 0 11 111 #[], .iload 6, .iaload, .istore 7, .aload 0, .tableswitch 0 11 111 #[], .iload 6, .iload 5, .iastore, .aload 0, .tableswitch 0 11 108 #[], .iload 5, .iload 6, .iastore, .iload 7, .istore 5, .goto 190] 239 = true := qck_r (nn_ _) (by decide +kernel)
theorem bs_X11_matchRest_e_190 {P : Zt → Option Zv → Prop} (K : Int → Zl → List Zv → Zt → Prop) : sx_ K P [.iload 5, .iconst (-1), .if_icmp .eq 239, .aload 0, .tableswitch 0 11 110 #[], .iload 5, .iaload, .istore 6, .aload 0, .tableswitch 0 11 111 #[], .iload 6, .iaload, .istore 7, .aload 0, .tableswitch 0 11 111 #[], .iload 6, .iload 5, .iastore, .aload 0, .tableswitch 0 11 108 #[], .iload 5, .iload 6, .iastore, .iload 7, .istore 5, .goto 190] 239 = x_iload 5 (x_iconst (-1) (x_if_icmp .eq 239 K (x_aload 0 (x_g1 111 310 (x_iload 5 (x_iaload (x_istore 6 (x_aload 0 (x_g1 111 311 (x_iload 6 (x_iaload (x_istore 7 (x_aload 0 (x_g1 111 311 (x_iload 6 (x_iload 5 (x_iastore (x_aload 0 (x_g1 111 308 (x_iload 5 (x_iload 6 (x_iastore (x_iload 7 (x_istore 5 (x_goto 190 K))))))))))))))))))))))))) := ((xe_iload 5).trans (congrArg (x_iload 5) ((xe_iconst (-1)).trans (congrArg (x_iconst (-1)) ((xe_if_icmp .eq 239).trans (congrArg (x_if_icmp .eq 239 K) ((xe_aload 0).trans (congrArg (x_aload 0) ((xe_g1 (kk := 111) rfl tl_11_110).trans (congrArg (x_g1 111 310) ((xe_iload 5).trans (congrArg (x_iload 5) ((xe_iaload).trans (congrArg (x_iaload) ((xe_istore 6).trans (congrArg (x_istore 6) ((xe_aload 0).trans (congrArg (x_aload 0) ((xe_g1 (kk := 111) rfl tl_11_111).trans (congrArg (x_g1 111 311) ((xe_iload 6).trans (congrArg (x_iload 6) ((xe_iaload).trans (congrArg (x_iaload) ((xe_istore 7).trans (congrArg (x_istore 7) ((xe_aload 0).trans (congrArg (x_aload 0) ((xe_g1 (kk := 111) rfl tl_11_111).trans (congrArg (x_g1 111 311) ((xe_iload 6).trans (congrArg (x_iload 6) ((xe_iload 5).trans (congrArg (x_iload 5) ((xe_iastore).trans (congrArg (x_iastore) ((xe_aload 0).trans (congrArg (x_aload 0) ((xe_g1 (kk := 111) rfl tl_11_108).trans (congrArg (x_g1 111 308) ((xe_iload 5).trans (congrArg (x_iload 5) ((xe_iload 6).trans (congrArg (x_iload 6) ((xe_iastore).trans (congrArg (x_iastore) ((xe_iload 7).trans (congrArg (x_iload 7) ((xe_istore 5).trans (congrArg (x_istore 5) (xe_goto 190)))))))))))))))))))))))))))))))))))))))))))))))))))
theorem bk_X11_matchRest_e_239 : ck_ fX11 none cX11_matchRest 239 [.goto 56] 242 = true := qck_r (nn_ _) (by decide +kernel)
theorem bs_X11_matchRest_e_239 {P : Zt → Option Zv → Prop} (K : Int → Zl → List Zv → Zt → Prop) : sx_ K P [.goto 56] 242 = x_goto 56 K := (xe_goto 56)
theorem bk_X11_matchRest_e_72 : ck_ fX11 none cX11_matchRest 72 [.iload 5, .aload 0, .tableswitch 0 11 21 #[], .if_icmp .ge 140, .aload 0, .tableswitch 0 11 109 #[], .iload 5, .iaload, .ifCond .lt 130, .aload 0, .tableswitch 0 11 108 #[], .iload 5, .iaload, .iconst (-1), .if_icmp .ne 130, .iload 4, .iconst (-1), .if_icmp .eq 125, .aload 0, .tableswitch 0 11 109 #[], .iload 5, .iaload, .aload 0, .tableswitch 0 11 109 #[], .iload 4, .iaload, .if_icmp .ge 130, .iload 5, .goto 132] 130 = true := qck_r (nn_ _) (by decide +kernel)
theorem bs_X11_matchRest_e_72 {P : Zt → Option Zv → Prop} (K : Int → Zl → List Zv → Zt → Prop) : sx_ K P [.iload 5, .aload 0, .tableswitch 0 11 21 #[], .if_icmp .ge 140, .aload 0, .tableswitch 0 11 109 #[], .iload 5, .iaload, .ifCond .lt 130, .aload 0, .tableswitch 0 11 108 #[], .iload 5, .iaload, .iconst (-1), .if_icmp .ne 130, .iload 4, .iconst (-1), .if_icmp .eq 125, .aload 0, .tableswitch 0 11 109 #[], .iload 5, .iaload, .aload 0, .tableswitch 0 11 109 #[], .iload 4, .iaload, .if_icmp .ge 130, .iload 5, .goto 132] 130 = x_iload 5 (x_aload 0 (x_g0 111 21 0 8 (x_if_icmp .ge 140 K (x_aload 0 (x_g1 111 309 (x_iload 5 (x_iaload (x_ifCond .lt 130 K (x_aload 0 (x_g1 111 308 (x_iload 5 (x_iaload (x_iconst (-1) (x_if_icmp .ne 130 K (x_iload 4 (x_iconst (-1) (x_if_icmp .eq 125 K (x_aload 0 (x_g1 111 309 (x_iload 5 (x_iaload (x_aload 0 (x_g1 111 309 (x_iload 4 (x_iaload (x_if_icmp .ge 130 K (x_iload 5 (x_goto 132 K)))))))))))))))))))))))))))) := ((xe_iload 5).trans (congrArg (x_iload 5) ((xe_aload 0).trans (congrArg (x_aload 0) ((xe_g0 (kk := 111) rfl tl_11_21).trans (congrArg (x_g0 111 21 0 8) ((xe_if_icmp .ge 140).trans (congrArg (x_if_icmp .ge 140 K) ((xe_aload 0).trans (congrArg (x_aload 0) ((xe_g1 (kk := 111) rfl tl_11_109).trans (congrArg (x_g1 111 309) ((xe_iload 5).trans (congrArg (x_iload 5) ((xe_iaload).trans (congrArg (x_iaload) ((xe_ifCond .lt 130).trans (congrArg (x_ifCond .lt 130 K) ((xe_aload 0).trans (congrArg (x_aload 0) ((xe_g1 (kk := 111) rfl tl_11_108).trans (congrArg (x_g1 111 308) ((xe_iload 5).trans (congrArg (x_iload 5) ((xe_iaload).trans (congrArg (x_iaload) ((xe_iconst (-1)).trans (congrArg (x_iconst (-1)) ((xe_if_icmp .ne 130).trans (congrArg (x_if_icmp .ne 130 K) ((xe_iload 4).trans (congrArg (x_iload 4) ((xe_iconst (-1)).trans (congrArg (x_iconst (-1)) ((xe_if_icmp .eq 125).trans (congrArg (x_if_icmp .eq 125 K) ((xe_aload 0).trans (congrArg (x_aload 0) ((xe_g1 (kk := 111) rfl tl_11_109).trans (congrArg (x_g1 111 309) ((xe_iload 5).trans (congrArg (x_iload 5) ((xe_iaload).trans (congrArg (x_iaload) ((xe_aload 0).trans (congrArg (x_aload 0) ((xe_g1 (kk := 111) rfl tl_11_109).trans (congrArg (x_g1 111 309) ((xe_iload 4).trans (congrArg (x_iload 4) ((xe_iaload).trans (congrArg (x_iaload) ((xe_if_icmp .ge 130).trans (congrArg (x_if_icmp .ge 130 K) ((xe_iload 5).trans (congrArg (x_iload 5) (xe_goto 132)))))))))))))))))))))))))))))))))))))))))))))))))))))))))
theorem bk_X11_matchRest_e_140 : ck_ fX11 none cX11_matchRest 140 [.iload 4, .iconst (-1), .if_icmp .eq 150, .iconst 1, .goto 151] 150 = true := qck_r (nn_ _) (by decide +kernel)
theorem bs_X11_matchRest_e_140 {P : Zt → Option Zv → Prop} (K : Int → Zl → List Zv → Zt → Prop) : sx_ K P [.iload 4, .iconst (-1), .if_icmp .eq 150, .iconst 1, .goto 151] 150 = x_iload 4 (x_iconst (-1) (x_if_icmp .eq 150 K (x_iconst 1 (x_goto 151 K)))) := ((xe_iload 4).trans (congrArg (x_iload 4) ((xe_iconst (-1)).trans (congrArg (x_iconst (-1)) ((xe_if_icmp .eq 150).trans (congrArg (x_if_icmp .eq 150 K) ((xe_iconst 1).trans (congrArg (x_iconst 1) (xe_goto 151)))))))))
theorem bk_X11_matchRest_e_150 : ck_ fX11 none cX11_matchRest 150 [.iconst 0, .istore 3, .iload 3, .ifCond .eq 186, .aload 0, .dup, .tableswitch 0 11 112 #[], .iconst 1, .iadd, .tableswitch 1 11 112 #[], .aload 0, .dup, .tableswitch 0 11 113 #[], .aload 0, .tableswitch 0 11 109 #[], .iload 4, .iaload, .iconst 10000, .fsub, .fadd, .tableswitch 1 11 113 #[], .iload 4, .istore 5] 190 = true := qck_r (nn_ _) (by decide +kernel)
theorem bs_X11_matchRest_e_150 {P : Zt → Option Zv → Prop} (K : Int → Zl → List Zv → Zt → Prop) : sx_ K P [.iconst 0, .istore 3, .iload 3, .ifCond .eq 186, .aload 0, .dup, .tableswitch 0 11 112 #[], .iconst 1, .iadd, .tableswitch 1 11 112 #[], .aload 0, .dup, .tableswitch 0 11 113 #[], .aload 0, .tableswitch 0 11 109 #[], .iload 4, .iaload, .iconst 10000, .fsub, .fadd, .tableswitch 1 11 113 #[], .iload 4, .istore 5] 190 = x_iconst 0 (x_istore 3 (x_iload 3 (x_ifCond .eq 186 K (x_aload 0 (x_dup (x_g0 111 112 (-2147483648) 2147483647 (x_iconst 1 (x_iadd (x_p 111 112 (-2147483648) 2147483647 (x_aload 0 (x_dup (x_g0 111 113 (-2147483648) 2147483647 (x_aload 0 (x_g1 111 309 (x_iload 4 (x_iaload (x_iconst 10000 (x_fsub (x_fadd (x_p 111 113 (-2147483648) 2147483647 (x_iload 4 (x_istore 5 (K 190))))))))))))))))))))))) := ((xe_iconst 0).trans (congrArg (x_iconst 0) ((xe_istore 3).trans (congrArg (x_istore 3) ((xe_iload 3).trans (congrArg (x_iload 3) ((xe_ifCond .eq 186).trans (congrArg (x_ifCond .eq 186 K) ((xe_aload 0).trans (congrArg (x_aload 0) ((xe_dup).trans (congrArg (x_dup) ((xe_g0 (kk := 111) rfl tl_11_112).trans (congrArg (x_g0 111 112 (-2147483648) 2147483647) ((xe_iconst 1).trans (congrArg (x_iconst 1) ((xe_iadd).trans (congrArg (x_iadd) ((xe_p (kk := 111) rfl tl_11_112).trans (congrArg (x_p 111 112 (-2147483648) 2147483647) ((xe_aload 0).trans (congrArg (x_aload 0) ((xe_dup).trans (congrArg (x_dup) ((xe_g0 (kk := 111) rfl tl_11_113).trans (congrArg (x_g0 111 113 (-2147483648) 2147483647) ((xe_aload 0).trans (congrArg (x_aload 0) ((xe_g1 (kk := 111) rfl tl_11_109).trans (congrArg (x_g1 111 309) ((xe_iload 4).trans (congrArg (x_iload 4) ((xe_iaload).trans (congrArg (x_iaload) ((xe_iconst 10000).trans (congrArg (x_iconst 10000) ((xe_fsub).trans (congrArg (x_fsub) ((xe_fadd).trans (congrArg (x_fadd) ((xe_p (kk := 111) rfl tl_11_113).trans (congrArg (x_p 111 113 (-2147483648) 2147483647) ((xe_iload 4).trans (congrArg (x_iload 4) ((xe_istore 5).trans (congrArg (x_istore 5) xe_nil))))))))))))))))))))))))))))))))))))))))))))))
theorem bk_X11_matchRest_e_186 : ck_ fX11 none cX11_matchRest 186 [.iload 4, .istore 5] 190 = true := qck_r (nn_ _) (by decide +kernel)
theorem bs_X11_matchRest_e_186 {P : Zt → Option Zv → Prop} (K : Int → Zl → List Zv → Zt → Prop) : sx_ K P [.iload 4, .istore 5] 190 = x_iload 4 (x_istore 5 (K 190)) := ((xe_iload 4).trans (congrArg (x_iload 4) ((xe_istore 5).trans (congrArg (x_istore 5) xe_nil))))
theorem bk_X11_matchRest_e_151 : ck_ fX11 none cX11_matchRest 151 [.istore 3, .iload 3, .ifCond .eq 186, .aload 0, .dup, .tableswitch 0 11 112 #[], .iconst 1, .iadd, .tableswitch 1 11 112 #[], .aload 0, .dup, .tableswitch 0 11 113 #[], .aload 0, .tableswitch 0 11 109 #[], .iload 4, .iaload, .iconst 10000, .fsub, .fadd, .tableswitch 1 11 113 #[], .iload 4, .istore 5] 190 = true := qck_r (nn_ _) (by decide +kernel)
theorem bs_X11_matchRest_e_151 {P : Zt → Option Zv → Prop} (K : Int → Zl → List Zv → Zt → Prop) : sx_ K P [.istore 3, .iload 3, .ifCond .eq 186, .aload 0, .dup, .tableswitch 0 11 112 #[], .iconst 1, .iadd, .tableswitch 1 11 112 #[], .aload 0, .dup, .tableswitch 0 11 113 #[], .aload 0, .tableswitch 0 11 109 #[], .iload 4, .iaload, .iconst 10000, .fsub, .fadd, .tableswitch 1 11 113 #[], .iload 4, .istore 5] 190 = x_istore 3 (x_iload 3 (x_ifCond .eq 186 K (x_aload 0 (x_dup (x_g0 111 112 (-2147483648) 2147483647 (x_iconst 1 (x_iadd (x_p 111 112 (-2147483648) 2147483647 (x_aload 0 (x_dup (x_g0 111 113 (-2147483648) 2147483647 (x_aload 0 (x_g1 111 309 (x_iload 4 (x_iaload (x_iconst 10000 (x_fsub (x_fadd (x_p 111 113 (-2147483648) 2147483647 (x_iload 4 (x_istore 5 (K 190)))))))))))))))))))))) := ((xe_istore 3).trans (congrArg (x_istore 3) ((xe_iload 3).trans (congrArg (x_iload 3) ((xe_ifCond .eq 186).trans (congrArg (x_ifCond .eq 186 K) ((xe_aload 0).trans (congrArg (x_aload 0) ((xe_dup).trans (congrArg (x_dup) ((xe_g0 (kk := 111) rfl tl_11_112).trans (congrArg (x_g0 111 112 (-2147483648) 2147483647) ((xe_iconst 1).trans (congrArg (x_iconst 1) ((xe_iadd).trans (congrArg (x_iadd) ((xe_p (kk := 111) rfl tl_11_112).trans (congrArg (x_p 111 112 (-2147483648) 2147483647) ((xe_aload 0).trans (congrArg (x_aload 0) ((xe_dup).trans (congrArg (x_dup) ((xe_g0 (kk := 111) rfl tl_11_113).trans (congrArg (x_g0 111 113 (-2147483648) 2147483647) ((xe_aload 0).trans (congrArg (x_aload 0) ((xe_g1 (kk := 111) rfl tl_11_109).trans (congrArg (x_g1 111 309) ((xe_iload 4).trans (congrArg (x_iload 4) ((xe_iaload).trans (congrArg (x_iaload) ((xe_iconst 10000).trans (congrArg (x_iconst 10000) ((xe_fsub).trans (congrArg (x_fsub) ((xe_fadd).trans (congrArg (x_fadd) ((xe_p (kk := 111) rfl tl_11_113).trans (congrArg (x_p 111 113 (-2147483648) 2147483647) ((xe_iload 4).trans (congrArg (x_iload 4) ((xe_istore 5).trans (congrArg (x_istore 5) xe_nil))))))))))))))))))))))))))))))))))))))))))))
theorem bk_X11_matchRest_e_130 : ck_ fX11 none cX11_matchRest 130 [.iload 4, .istore 4, .iinc 5 1, .goto 72] 140 = true := qck_r (nn_ _) (by decide +kernel)
theorem bs_X11_matchRest_e_130 {P : Zt → Option Zv → Prop} (K : Int → Zl → List Zv → Zt → Prop) : sx_ K P [.iload 4, .istore 4, .iinc 5 1, .goto 72] 140 = x_iload 4 (x_istore 4 (x_iinc 5 1 (x_goto 72 K))) := ((xe_iload 4).trans (congrArg (x_iload 4) ((xe_istore 4).trans (congrArg (x_istore 4) ((xe_iinc 5 1).trans (congrArg (x_iinc 5 1) (xe_goto 72)))))))
theorem bk_X11_matchRest_e_125 : ck_ fX11 none cX11_matchRest 125 [.iload 5, .goto 132] 130 = true := qck_r (nn_ _) (by decide +kernel)
theorem bs_X11_matchRest_e_125 {P : Zt → Option Zv → Prop} (K : Int → Zl → List Zv → Zt → Prop) : sx_ K P [.iload 5, .goto 132] 130 = x_iload 5 (x_goto 132 K) := ((xe_iload 5).trans (congrArg (x_iload 5) (xe_goto 132)))
theorem bk_X11_matchRest_e_132 : ck_ fX11 none cX11_matchRest 132 [.istore 4, .iinc 5 1, .goto 72] 140 = true := qck_r (nn_ _) (by decide +kernel)
theorem bs_X11_matchRest_e_132 {P : Zt → Option Zv → Prop} (K : Int → Zl → List Zv → Zt → Prop) : sx_ K P [.istore 4, .iinc 5 1, .goto 72] 140 = x_istore 4 (x_iinc 5 1 (x_goto 72 K)) := ((xe_istore 4).trans (congrArg (x_istore 4) ((xe_iinc 5 1).trans (congrArg (x_iinc 5 1) (xe_goto 72)))))
theorem bk_X11_matchRest_e_56 : ck_ fX11 none cX11_matchRest 56 [.iload 3, .ifCond .eq 242, .aload 0, .iload 1, .iload 2] 63 = true := qck_r (nn_ _) (by decide +kernel)
theorem bs_X11_matchRest_e_56 {P : Zt → Option Zv → Prop} (K : Int → Zl → List Zv → Zt → Prop) : sx_ K P [.iload 3, .ifCond .eq 242, .aload 0, .iload 1, .iload 2] 63 = x_iload 3 (x_ifCond .eq 242 K (x_aload 0 (x_iload 1 (x_iload 2 (K 63))))) := ((xe_iload 3).trans (congrArg (x_iload 3) ((xe_ifCond .eq 242).trans (congrArg (x_ifCond .eq 242 K) ((xe_aload 0).trans (congrArg (x_aload 0) ((xe_iload 1).trans (congrArg (x_iload 1) ((xe_iload 2).trans (congrArg (x_iload 2) xe_nil))))))))))
theorem bk_X11_matchRest_e_242 : ck_ fX11 none cX11_matchRest 242 [.return_] 243 = true := qck_r (nn_ _) (by decide +kernel)
theorem bs_X11_matchRest_e_242 {P : Zt → Option Zv → Prop} (K : Int → Zl → List Zv → Zt → Prop) : sx_ K P [.return_] 243 = x_return_ P := (xe_return_)
theorem bk_X11_matchRest_e_66 : ck_ fX11 none cX11_matchRest 66 [.iconst (-1), .istore 4, .iconst 0, .istore 5] 72 = true := qck_r (nn_ _) (by decide +kernel)
theorem bs_X11_matchRest_e_66 {P : Zt → Option Zv → Prop} (K : Int → Zl → List Zv → Zt → Prop) : sx_ K P [.iconst (-1), .istore 4, .iconst 0, .istore 5] 72 = x_iconst (-1) (x_istore 4 (x_iconst 0 (x_istore 5 (K 72)))) := ((xe_iconst (-1)).trans (congrArg (x_iconst (-1)) ((xe_istore 4).trans (congrArg (x_istore 4) ((xe_iconst 0).trans (congrArg (x_iconst 0) ((xe_istore 5).trans (congrArg (x_istore 5) xe_nil))))))))
theorem bk_X11_matchRest_e_33 : ck_ fX11 none cX11_matchRest 33 [.iload 3, .aload 0, .tableswitch 0 11 107 #[], .if_icmp .ge 54, .aload 0, .tableswitch 0 11 111 #[], .iload 3, .iconst (-1), .iastore, .iinc 3 1, .goto 33] 54 = true := qck_r (nn_ _) (by decide +kernel)
theorem bs_X11_matchRest_e_33 {P : Zt → Option Zv → Prop} (K : Int → Zl → List Zv → Zt → Prop) : sx_ K P [.iload 3, .aload 0, .tableswitch 0 11 107 #[], .if_icmp .ge 54, .aload 0, .tableswitch 0 11 111 #[], .iload 3, .iconst (-1), .iastore, .iinc 3 1, .goto 33] 54 = x_iload 3 (x_aload 0 (x_g0 111 107 0 400 (x_if_icmp .ge 54 K (x_aload 0 (x_g1 111 311 (x_iload 3 (x_iconst (-1) (x_iastore (x_iinc 3 1 (x_goto 33 K)))))))))) := ((xe_iload 3).trans (congrArg (x_iload 3) ((xe_aload 0).trans (congrArg (x_aload 0) ((xe_g0 (kk := 111) rfl tl_11_107).trans (congrArg (x_g0 111 107 0 400) ((xe_if_icmp .ge 54).trans (congrArg (x_if_icmp .ge 54 K) ((xe_aload 0).trans (congrArg (x_aload 0) ((xe_g1 (kk := 111) rfl tl_11_111).trans (congrArg (x_g1 111 311) ((xe_iload 3).trans (congrArg (x_iload 3) ((xe_iconst (-1)).trans (congrArg (x_iconst (-1)) ((xe_iastore).trans (congrArg (x_iastore) ((xe_iinc 3 1).trans (congrArg (x_iinc 3 1) (xe_goto 33)))))))))))))))))))))
theorem bk_X11_matchRest_e_54 : ck_ fX11 none cX11_matchRest 54 [.iconst 1, .istore 3] 56 = true := qck_r (nn_ _) (by decide +kernel)
theorem bs_X11_matchRest_e_54 {P : Zt → Option Zv → Prop} (K : Int → Zl → List Zv → Zt → Prop) : sx_ K P [.iconst 1, .istore 3] 56 = x_iconst 1 (x_istore 3 (K 56)) := ((xe_iconst 1).trans (congrArg (x_iconst 1) ((xe_istore 3).trans (congrArg (x_istore 3) xe_nil))))
theorem bk_X11_matchRest_e_12 : ck_ fX11 none cX11_matchRest 12 [.iload 3, .iconst 8, .if_icmp .ge 31, .aload 0, .tableswitch 0 11 108 #[], .iload 3, .iconst (-1), .iastore, .iinc 3 1, .goto 12] 31 = true := qck_r (nn_ _) (by decide +kernel)
theorem bs_X11_matchRest_e_12 {P : Zt → Option Zv → Prop} (K : Int → Zl → List Zv → Zt → Prop) : sx_ K P [.iload 3, .iconst 8, .if_icmp .ge 31, .aload 0, .tableswitch 0 11 108 #[], .iload 3, .iconst (-1), .iastore, .iinc 3 1, .goto 12] 31 = x_iload 3 (x_iconst 8 (x_if_icmp .ge 31 K (x_aload 0 (x_g1 111 308 (x_iload 3 (x_iconst (-1) (x_iastore (x_iinc 3 1 (x_goto 12 K))))))))) := ((xe_iload 3).trans (congrArg (x_iload 3) ((xe_iconst 8).trans (congrArg (x_iconst 8) ((xe_if_icmp .ge 31).trans (congrArg (x_if_icmp .ge 31 K) ((xe_aload 0).trans (congrArg (x_aload 0) ((xe_g1 (kk := 111) rfl tl_11_108).trans (congrArg (x_g1 111 308) ((xe_iload 3).trans (congrArg (x_iload 3) ((xe_iconst (-1)).trans (congrArg (x_iconst (-1)) ((xe_iastore).trans (congrArg (x_iastore) ((xe_iinc 3 1).trans (congrArg (x_iinc 3 1) (xe_goto 12)))))))))))))))))))
theorem bk_X11_matchRest_e_31 : ck_ fX11 none cX11_matchRest 31 [.iload 1, .istore 3] 33 = true := qck_r (nn_ _) (by decide +kernel)
theorem bs_X11_matchRest_e_31 {P : Zt → Option Zv → Prop} (K : Int → Zl → List Zv → Zt → Prop) : sx_ K P [.iload 1, .istore 3] 33 = x_iload 1 (x_istore 3 (K 33)) := ((xe_iload 1).trans (congrArg (x_iload 1) ((xe_istore 3).trans (congrArg (x_istore 3) xe_nil))))
theorem bk_X11_matchRest_e_0 : ck_ fX11 none cX11_matchRest 0 [.aload 0, .iconst 0, .tableswitch 1 11 112 #[], .aload 0, .iconst 0, .tableswitch 1 11 113 #[], .iconst 0, .istore 3] 12 = true := qck_r (nn_ _) (by decide +kernel)
theorem bs_X11_matchRest_e_0 {P : Zt → Option Zv → Prop} (K : Int → Zl → List Zv → Zt → Prop) : sx_ K P [.aload 0, .iconst 0, .tableswitch 1 11 112 #[], .aload 0, .iconst 0, .tableswitch 1 11 113 #[], .iconst 0, .istore 3] 12 = x_aload 0 (x_iconst 0 (x_p 111 112 (-2147483648) 2147483647 (x_aload 0 (x_iconst 0 (x_p 111 113 (-2147483648) 2147483647 (x_iconst 0 (x_istore 3 (K 12)))))))) := ((xe_aload 0).trans (congrArg (x_aload 0) ((xe_iconst 0).trans (congrArg (x_iconst 0) ((xe_p (kk := 111) rfl tl_11_112).trans (congrArg (x_p 111 112 (-2147483648) 2147483647) ((xe_aload 0).trans (congrArg (x_aload 0) ((xe_iconst 0).trans (congrArg (x_iconst 0) ((xe_p (kk := 111) rfl tl_11_113).trans (congrArg (x_p 111 113 (-2147483648) 2147483647) ((xe_iconst 0).trans (congrArg (x_iconst 0) ((xe_istore 3).trans (congrArg (x_istore 3) xe_nil))))))))))))))))
abbrev po_X11_matchRest_e (T : Zt) (f tk : Int) : Zt → Option Zv → Prop := fun T' r => r = none ∧ fr_ [(308, []), (311, []), (309, []), (310, []), (111, [112, 113])] T T' ∧ ((0 ≤ T' 111 0 112 ∧ T' 111 0 112 ≤ 8) ∧ MB_ T T' tk f)
set_option maxHeartbeats 4000000 in
theorem ct_X11_matchRest_e {T : Zt} {f tk : Int} (h1 : 0 ≤ f) : Ct_ yX11_matchRest zX11_matchRest T [vR 111 0, vI f, vI tk] (po_X11_matchRest_e T f tk) := by
  refine ct_of pn_11 rfl rfl (Nat.le_of_ble_eq_true rfl) (fun hT hav => ?_)
  have hr_f : -2147483648 ≤ f ∧ f ≤ 2147483647 := hav (vI f) (List.mem_cons_of_mem _ List.mem_cons_self)
  have hr_tk : -2147483648 ≤ tk ∧ tk ≤ 2147483647 := hav (vI tk) (List.mem_cons_of_mem _ (List.mem_cons_of_mem _ List.mem_cons_self))
  have hz : zX11_matchRest.2.2.2.1 = some .boolean → ∀ (T' : Zt) (x : Int), po_X11_matchRest_e T f tk T' (some (vI x)) → 0 ≤ x ∧ x ≤ 1 := fun h => by cases h
  have hb_21 : 0 ≤ T 111 0 21 ∧ T 111 0 21 ≤ 8 := bd_f hT 111 21 tl_11_21 0
  have hb_107 : 0 ≤ T 111 0 107 ∧ T 111 0 107 ≤ 400 := bd_f hT 111 107 tl_11_107 0
  have hdd : ∀ i o, 0 ≤ i → i < 400 → 0 ≤ o → o < 8 → 0 ≤ di_ T (T 306 0 i) o ∧ di_ T (T 306 0 i) o ≤ 11 := by
    intro i o a b c d
    have u1 : 0 ≤ T 306 0 i ∧ T 306 0 i ≤ 399 := bd_a hT 306 (by decide +kernel : ta_ 306 = some (1, some 400, 0, 399)) 0 (by omega)
    have u2 : 0 ≤ T 232 0 (T 306 0 i) ∧ T 232 0 (T 306 0 i) ≤ 11 := bd_a hT 232 (by decide +kernel : ta_ 232 = some (1, some 400, 0, 11)) 0 (by omega)
    have u3 : 0 ≤ T 213 0 (T 232 0 (T 306 0 i)) ∧ T 213 0 (T 232 0 (T 306 0 i)) ≤ 11 := bd_a hT 213 (by decide +kernel : ta_ 213 = some (1, some 12, 0, 11)) 0 (by omega)
    have u4 : 0 ≤ T 222 0 o ∧ T 222 0 o ≤ 11 := bd_a hT 222 (by decide +kernel : ta_ 222 = some (1, some 8, 0, 11)) 0 (by omega)
    unfold di_
    split <;> omega
  show J_ zX11_matchRest T (po_X11_matchRest_e T f tk) 0 0 0 [some (vR 111 0), some (vI f), some (vI tk), none, none, none, none, none] [] T
  have c_56 : ∀ (nn : Nat) (mr : Int) (pi : Int → Int) (P : Int) (T3 : Zt), (fm9_ mr (nh_ (hld_ T3))) ≤ nn → (fr_ [(308, []), (311, []), (309, []), (310, []), (111, [112, 113])] T T3) → (mr = 0 ∨ mr = 1) → (po_ (ofs_ T tk f) (gh_ T3) pi) → (∀ k, 0 ≤ k → k < 8 → -1 ≤ hld_ T3 k) → (0 ≤ T3 111 0 112 ∧ T3 111 0 112 + nh_ (hld_ T3) ≤ 8) → (MTo_ (ofs_ T tk f) (gh_ T3)) → (KH_ (ofs_ T tk f) (gh_ T3) (hld_ T3) (-1)) → (mr ≠ 0 → CE_ (ofs_ T tk f) (gh_ T3) pi P ∧ 10000 ≤ P) → (T3 111 0 113 = ms9_ (ofs_ T tk f) (gh_ T3) ∧ T3 111 0 112 = mc9_ (ofs_ T tk f) (gh_ T3)) → (mr = 0 → ∀ g, MTo_ (ofs_ T tk f) g → 1000 * mc9_ (ofs_ T tk f) g - ms9_ (ofs_ T tk f) g ≤ 1000 * mc9_ (ofs_ T tk f) (gh_ T3) - ms9_ (ofs_ T tk f) (gh_ T3)) → J_ zX11_matchRest T (po_X11_matchRest_e T f tk) 0 0 56 [some (vR 111 0), some (vI f), some (vI tk), some (vI mr), none, none, none, none] [] T3 := by
    intro nn
    induction nn using Nat.strongRecOn with
    | _ nn ih_56 =>
      intro mr pi P T3 hm_56 hf_56 i3 P3 hh3 fm3 M3 K3 C3 s3 z3
      replace hm_56 := fun (_ : Unit) => hm_56
      have hnn := nh_n (hld_ T3)
      have c_72 : ∀ (nn : Nat) (en : Int) (o : Int) (st : Int → Nat) (T4 : Zt), ((8 - o).toNat) ≤ nn → (fr_ [(309, []), (310, [])] T3 T4) → (mr ≠ 0) → (fx_ (ofs_ T tk f) (gh_ T3) pi (far_ T4) (cby_ T4) st) → (en = -1 ∨ (0 ≤ en ∧ en < T 111 0 21 ∧ 0 ≤ T4 309 0 en ∧ T3 308 0 en = -1)) → (0 ≤ o ∧ o ≤ 8) → (∀ q, 0 ≤ q → q < o → T3 308 0 q = -1 → 0 ≤ T4 309 0 q → en ≠ -1 ∧ T4 309 0 en ≤ T4 309 0 q) → J_ zX11_matchRest T (po_X11_matchRest_e T f tk) 0 0 72 [some (vR 111 0), some (vI f), some (vI tk), some (vI mr), some (vI en), some (vI o), none, none] [] T4 := by
        intro nn
        induction nn using Nat.strongRecOn with
        | _ nn ih_72 =>
          intro en o st T4 hm_72 hf_72 mr1 X4 he i4 mn
          replace hm_72 := fun (_ : Unit) => hm_72
          have c_190 : ∀ (nn : Nat) (mr5 : Int) (o5 : Int) (D : Int) (T5 : Zt), (sm9_ st o5) ≤ nn → (fr_ [(308, []), (311, []), (111, [112, 113])] T4 T5) → (((mr5 = 0 ∧ en = -1) ∨ (mr5 = 1 ∧ en ≠ -1)) ∧ 0 ≤ D ∧ 0 ≤ T5 111 0 112 ∧ T5 111 0 112 ≤ T3 111 0 112 + mr5) → (wy_ (ofs_ T tk f) (gh_ T3) (gh_ T5) pi (far_ T4) st D o5) → (∀ k, 0 ≤ k → k < 8 → -1 ≤ hld_ T5 k ∧ (hld_ T3 k ≠ -1 → hld_ T5 k ≠ -1)) → (en ≠ -1 → o5 = en ∨ T5 308 0 en ≠ -1) → (WM_ (ofs_ T tk f) (gh_ T5) (hld_ T5) (far_ T4) o5 (ms9_ (ofs_ T tk f) (gh_ T3) + (if en = -1 then 0 else T4 309 0 en - 10000)) (mc9_ (ofs_ T tk f) (gh_ T3) + mr5)) → (T5 111 0 113 = wr_ (ms9_ (ofs_ T tk f) (gh_ T3) + (if en = -1 then 0 else T4 309 0 en - 10000)) ∧ T5 111 0 112 = T3 111 0 112 + mr5) → (en ≠ -1 → D = T4 309 0 en - pi en) → (∀ q, 0 ≤ q → q < T 111 0 21 → T3 308 0 q = -1 → 0 ≤ T4 309 0 q → en ≠ -1 ∧ T4 309 0 en ≤ T4 309 0 q) → J_ zX11_matchRest T (po_X11_matchRest_e T f tk) 0 0 190 [some (vR 111 0), some (vI f), some (vI tk), some (vI mr5), some (vI en), some (vI o5), none, none] [] T5 := by
            intro nn
            induction nn using Nat.strongRecOn with
            | _ nn ih_190 =>
              intro mr5 o5 D T5 hm_190 hf_190 i5 W5 h5 e5 B5 s5 d5 mn5
              refine j_blx (F := fX11) tb_X11 (nn_ _) bk_X11_matchRest_e_190 bs_X11_matchRest_e_190 hz (fun K hK => ?_)
              refine And.intro (fun c1 => ?_) (fun c1 => ?_)
              · have hnl : en ≠ -1 → nh_ (hld_ T5) < nh_ (hld_ T3) := fun z => by
                  have e9 := e5 z
                  exact nh_l (f := hld_ T3) (g := hld_ T5) (o := en) (by omega) h5 (fun k a b => hh3 k a b) (by show T3 308 0 en = -1; omega) (by show T5 308 0 en ≠ -1; omega)
                have hnm := nh_m (f := hld_ T3) (g := hld_ T5) h5 (fun k a b => hh3 k a b)
                refine hK 239 _ [] T5 ?_
                refine j_blx (F := fX11) tb_X11 (nn_ _) bk_X11_matchRest_e_239 bs_X11_matchRest_e_239 hz (fun K hK => ?_)
                refine hK 56 _ [] T5 ?_
                refine j_drq [some (vR 111 0), some (vI f), some (vI tk), some (vI mr5), none, none, none, none] (drq_s (drq_s (drq_s (drq_s (drq_n (drq_n (drq_n (drq_n drq_0)))))))) ?_
                refine ih_56 _ ?_ mr5 (pn_ pi (far_ T4) D) (P + D) T5 (Nat.le_refl _) ?_ ?_ ?_ ?_ ?_ ?_ ?_ ?_ ?_ ?_
                · have hm_56 := hm_56 (); exact Nat.lt_of_lt_of_le (fm9_l (by omega) (nh_n _) (nh_n _) (by by_cases z : en = -1; exact Or.inl (by omega); exact Or.inr (hnl z))) hm_56
                · exact fr_t (fr_t (fr_t (fr_0 _ _) (fr_s hf_56 rfl)) (fr_s hf_72 rfl)) (fr_s hf_190 rfl)
                · omega
                · exact wy_e (of_9 (fun i o a b c d => hdd i o (by omega) (by omega) (by omega) (by omega))) X4 (by omega) (by rw [show (-1 : Int) = o5 by omega]; exact W5)
                · exact fun k a b => (h5 k a b).1
                · rcases i5.1 with z | z
                  · omega
                  · have z9 := hnl z.2
                    omega
                · have z9 : o5 = -1 := by omega
                  subst z9
                  have b9 := wm_z B5
                  exact b9.1
                · have z9 : o5 = -1 := by omega
                  subst z9
                  have b9 := wm_z B5
                  exact b9.2.1
                · have z9 : o5 = -1 := by omega
                  subst z9
                  have b9 := wm_z B5
                  intro z8
                  have c4 := C3 mr1
                  have en0 : 0 ≤ en ∧ en < T 111 0 21 ∧ 0 ≤ T4 309 0 en ∧ T3 308 0 en = -1 := he.resolve_left (by omega)
                  have fe : pi en = P := (c4.1.1 en en0.1 en0.2.1).2 ((K3 en en0.1 en0.2.1 (by omega)).mp en0.2.2.2)
                  refine ⟨ce_s X4 c4.1 W5 (by omega) ⟨fe, d5 (by omega)⟩ (fun q a b c d => (mn5 q a b ((K3 q a b (by omega)).mpr c) d).2) (fun q a b c => (K3 q a b (by omega)).mp ?_), by omega⟩
                  have k9 : hld_ T5 q = -1 := (b9.2.1 q a b (by omega)).mpr c
                  have h9 := h5 q a (by have : q < T 111 0 21 := b; omega)
                  omega
                · have z9 : o5 = -1 := by omega
                  subst z9
                  have b9 := wm_z B5
                  have y9 := mc_b (of_9 (fun i o a b c d => hdd i o (by omega) (by omega) (by omega) (by omega))) b9.1 (show 0 ≤ T 111 0 21 by omega)
                  have y8 : mc9_ (ofs_ T tk f) (gh_ T5) ≤ T 111 0 21 := y9.1.2
                  refine ⟨?_, by have := b9.2.2.2; omega⟩
                  rw [s5.1, ← b9.2.2.1]
                  unfold wr_
                  omega
                · have z9 : o5 = -1 := by omega
                  subst z9
                  have b9 := wm_z B5
                  intro z8 g G9
                  have c4 := C3 mr1
                  have y9 := ce_z (of_9 (fun i o a b c d => hdd i o (by omega) (by omega) (by omega) (by omega))) X4 M3 c4.1 c4.2 (show 0 ≤ T 111 0 21 ∧ T 111 0 21 ≤ 8 by omega) (fun q a b c => Int.not_le.mp (fun d => (mn5 q a b ((K3 q a b (by omega)).mpr c) d).1 (by omega))) G9
                  have b7 := b9.2.2.1
                  have b8 := b9.2.2.2
                  rw [if_pos (show en = -1 by omega)] at b7
                  omega
              · obtain ⟨w1, w2, w3, w4⟩ := wy_s (of_9 (fun i o a b c d => hdd i o (by omega) (by omega) (by omega) (by omega))) X4 W5 (by omega)
                have ho5 := W5.1.resolve_left (by omega)
                have ho51 : 0 ≤ o5 ∧ o5 < T 111 0 21 := ho5.1
                refine ix_i (by omega) ?_
                intro b2 b2b
                have e3 : T5 310 0 o5 = T4 310 0 o5 := hf_190 310 0 o5 rfl
                rw [e3] at b2 b2b ⊢
                refine ix_i (by omega) ?_
                intro b4 b4b
                refine iy_i (by omega) (by omega) ?_
                refine x_nm (fun U5 hU5 => ?_)
                have e6 := up_f hU5
                refine iy_i (by omega) (by omega) ?_
                refine x_nm (fun U7 hU7 => ?_)
                have e8 := up_f hU7
                have ehl : hld_ U7 = fu_ (hld_ T5) o5 (cby_ T4 o5) := funext (fun k => by
                  show U7 308 0 k = _
                  by_cases z : k = o5
                  · rw [z, up_f hU7]; exact (fu_s _ _ _).symm
                  · rw [up_g hU7 (fun q => z q.2.2), up_k hU5 (by exact Nat.ne_of_beq_eq_false rfl)]; exact (fu_n z).symm)
                have egh : gh_ U7 = fu_ (gh_ T5) (cby_ T4 o5) o5 := funext (fun k => by
                  show U7 311 0 k = _
                  rw [up_k hU7 (by exact Nat.ne_of_beq_eq_false rfl)]
                  by_cases z : k = T4 310 0 o5
                  · rw [z, up_f hU5]; exact (fu_s _ _ _).symm
                  · rw [up_g hU5 (fun q => z q.2.2)]; exact (fu_n (show k ≠ cby_ T4 o5 from z)).symm)
                refine hK 190 [some (vR 111 0), some (vI f), some (vI tk), some (vI mr5), some (vI en), some (vI (T5 311 0 (T4 310 0 o5))), some (vI (T4 310 0 o5)), some (vI (T5 311 0 (T4 310 0 o5)))] [] U7 ?_
                refine j_drq [some (vR 111 0), some (vI f), some (vI tk), some (vI mr5), some (vI en), some (vI (T5 311 0 (T4 310 0 o5))), none, none] (drq_s (drq_s (drq_s (drq_s (drq_s (drq_s (drq_n (drq_n drq_0)))))))) ?_
                have e9 : U7 111 0 112 = T5 111 0 112 := (up_k hU7 (by exact Nat.ne_of_beq_eq_false rfl) 0 112).trans (up_k hU5 (by exact Nat.ne_of_beq_eq_false rfl) 0 112)
                have e10 : U7 111 0 113 = T5 111 0 113 := (up_k hU7 (by exact Nat.ne_of_beq_eq_false rfl) 0 113).trans (up_k hU5 (by exact Nat.ne_of_beq_eq_false rfl) 0 113)
                refine ih_190 _ ?_ mr5 (T5 311 0 (T4 310 0 o5)) D U7 (Nat.le_refl _) ?_ ?_ ?_ ?_ ?_ ?_ ?_ ?_ ?_
                · have w9 : T5 311 0 (T4 310 0 o5) = -1 ∨ st (T5 311 0 (T4 310 0 o5)) < st o5 := w4
                  unfold sm9_ at hm_190 ⊢
                  rw [if_neg (by omega)] at hm_190
                  split <;> omega
                · exact fr_u (fr_u (fr_t (fr_0 _ _) (fr_s hf_190 rfl)) hU5 rfl) hU7 rfl
                · first
                  | omega
                  | (have x9 : pi en ≤ T4 309 0 en := fx_p X4 (o := en) (show 0 ≤ en ∧ en < T 111 0 21 by omega) (show 0 ≤ T4 309 0 en by omega); omega)
                · rw [egh]; exact w3
                · intro k a b
                  have h9 := h5 k a b
                  show -1 ≤ U7 308 0 k ∧ (T3 308 0 k ≠ -1 → U7 308 0 k ≠ -1)
                  by_cases z : k = o5
                  · rw [z, up_f hU7]; omega
                  · rw [up_g hU7 (fun q => z q.2.2), up_k hU5 (by exact Nat.ne_of_beq_eq_false rfl)]; exact h9
                · intro z
                  right
                  by_cases y : en = o5
                  · rw [y, up_f hU7]; omega
                  · rw [up_g hU7 (fun q => y q.2.2), up_k hU5 (by exact Nat.ne_of_beq_eq_false rfl)]
                    rcases e5 z with x | x
                    · omega
                    · exact x
                · rw [egh, ehl]; exact wm_s (show 0 ≤ f by omega) (of_9 (fun i o a b c d => hdd i o (by omega) (by omega) (by omega) (by omega))) X4 W5 (by omega) B5
                · exact ⟨((up_k hU7 (by exact Nat.ne_of_beq_eq_false rfl) 0 113).trans (up_k hU5 (by exact Nat.ne_of_beq_eq_false rfl) 0 113)).trans s5.1, ((up_k hU7 (by exact Nat.ne_of_beq_eq_false rfl) 0 112).trans (up_k hU5 (by exact Nat.ne_of_beq_eq_false rfl) 0 112)).trans s5.2⟩
                · exact d5
                · exact mn5
          refine j_blx (F := fX11) tb_X11 (nn_ _) bk_X11_matchRest_e_72 bs_X11_matchRest_e_72 hz (fun K hK => ?_)
          intro b11 b11b
          have e12 : T4 111 0 21 = T 111 0 21 := (hf_72 111 0 21 rfl).trans (hf_56 111 0 21 rfl)
          rw [e12] at b11 b11b ⊢
          refine And.intro (fun c13 => ?_) (fun c13 => ?_)
          · refine hK 140 _ [] T4 ?_
            refine j_blx (F := fX11) tb_X11 (nn_ _) bk_X11_matchRest_e_140 bs_X11_matchRest_e_140 hz (fun K hK => ?_)
            refine And.intro (fun c14 => ?_) (fun c14 => ?_)
            · refine hK 150 _ [] T4 ?_
              refine j_blx (F := fX11) tb_X11 (nn_ _) bk_X11_matchRest_e_150 bs_X11_matchRest_e_150 hz (fun K hK => ?_)
              refine And.intro (fun c15 => ?_) (fun c15 => ?_)
              · refine hK 186 [some (vR 111 0), some (vI f), some (vI tk), some (vI 0), some (vI en), some (vI o), none, none] [] T4 ?_
                refine j_blx (F := fX11) tb_X11 (nn_ _) bk_X11_matchRest_e_186 bs_X11_matchRest_e_186 hz (fun K hK => ?_)
                refine hK 190 [some (vR 111 0), some (vI f), some (vI tk), some (vI 0), some (vI en), some (vI en), none, none] [] T4 ?_
                have e16 : T4 111 0 112 = T3 111 0 112 := hf_72 111 0 112 rfl
                have e17 : T4 111 0 113 = T3 111 0 113 := hf_72 111 0 113 rfl
                refine c_190 _ 0 en 0 T4 (Nat.le_refl _) ?_ ?_ ?_ ?_ ?_ ?_ ?_ ?_ ?_
                · exact fr_0 _ _
                · first
                  | omega
                  | (have x9 : pi en ≤ T4 309 0 en := fx_p X4 (o := en) (show 0 ≤ en ∧ en < T 111 0 21 by omega) (show 0 ≤ T4 309 0 en by omega); omega)
                · exact ⟨by first | exact Or.inl (by omega) | exact Or.inr ⟨(show 0 ≤ en ∧ en < T 111 0 21 by omega), by show 0 ≤ T4 309 0 en; omega, by show T4 309 0 en ≤ pi en + (T4 309 0 en - pi en); omega⟩, fun i _ _ => Or.inl ((rfl).trans (hf_72 311 0 i rfl))⟩
                · intro k a b
                  have e9 : T4 308 0 k = T3 308 0 k := (rfl).trans (hf_72 308 0 k rfl)
                  have h8 : -1 ≤ T3 308 0 k := hh3 k a b
                  show -1 ≤ T4 308 0 k ∧ (T3 308 0 k ≠ -1 → T4 308 0 k ≠ -1)
                  omega
                · intro _; exact Or.inl rfl
                · have eg : gh_ T4 = gh_ T3 := funext (fun k => (rfl).trans (hf_72 311 0 k rfl))
                  have el : hld_ T4 = hld_ T3 := funext (fun k => (rfl).trans (hf_72 308 0 k rfl))
                  rw [eg, el]
                  rw [if_pos (show en = -1 by omega), show en = -1 by omega, Int.add_zero, Int.add_zero]
                  exact wm_0 M3 K3
                · have y9 := mc_b (of_9 (fun i o a b c d => hdd i o (by omega) (by omega) (by omega) (by omega))) M3 (show 0 ≤ T 111 0 21 by omega)
                  have y8 : mc9_ (ofs_ T tk f) (gh_ T3) ≤ T 111 0 21 := y9.1.2
                  rw [if_pos (show en = -1 by omega)]
                  unfold wr_
                  omega
                · intro z9; first | rfl | omega
                · exact fun q a b c d => mn q a (by omega) c d
              · exact absurd c15 (by decide)
            · refine hK 151 _ [vI 1] T4 ?_
              refine j_blx (F := fX11) tb_X11 (nn_ _) bk_X11_matchRest_e_151 bs_X11_matchRest_e_151 hz (fun K hK => ?_)
              refine And.intro (fun c18 => ?_) (fun c18 => ?_)
              · exact absurd c18 (by decide)
              · intro b19 b19b
                have e20 : T4 111 0 112 = T3 111 0 112 := hf_72 111 0 112 rfl
                rw [e20] at b19 b19b ⊢
                refine rg_i (by omega) ?_
                refine bd_i (by omega) ?_
                refine x_nm (fun U21 hU21 => ?_)
                have e22 := up_f hU21
                intro b23 b23b
                have e24 : U21 111 0 113 = T3 111 0 113 := (up_j hU21 (by decide) 111 0).trans (hf_72 111 0 113 rfl)
                rw [e24] at b23 b23b ⊢
                refine ix_i (by omega) ?_
                intro b25 b25b
                have e26 : U21 309 0 en = T4 309 0 en := up_k hU21 (by exact Nat.ne_of_beq_eq_false rfl) 0 en
                rw [e26] at b25 b25b ⊢
                intro w27 w27b
                intro w28 w28b
                refine bd_i (by omega) ?_
                refine x_nm (fun U29 hU29 => ?_)
                have e30 := up_f hU29
                refine hK 190 [some (vR 111 0), some (vI f), some (vI tk), some (vI 1), some (vI en), some (vI en), none, none] [] U29 ?_
                have e31 : U29 111 0 112 = (T3 111 0 112) + 1 := (up_j hU29 (by decide) 111 0).trans (up_f hU21)
                have e32 : U29 111 0 113 = wr_ ((T3 111 0 113) + (wr_ ((T4 309 0 en) - 10000))) := up_f hU29
                refine c_190 _ 1 en (T4 309 0 en - pi en) U29 (Nat.le_refl _) ?_ ?_ ?_ ?_ ?_ ?_ ?_ ?_ ?_
                · exact fr_u (fr_u (fr_0 _ _) hU21 rfl) hU29 rfl
                · first
                  | omega
                  | (have x9 : pi en ≤ T4 309 0 en := fx_p X4 (o := en) (show 0 ≤ en ∧ en < T 111 0 21 by omega) (show 0 ≤ T4 309 0 en by omega); omega)
                · exact ⟨by first | exact Or.inl (by omega) | exact Or.inr ⟨(show 0 ≤ en ∧ en < T 111 0 21 by omega), by show 0 ≤ T4 309 0 en; omega, by show T4 309 0 en ≤ pi en + (T4 309 0 en - pi en); omega⟩, fun i _ _ => Or.inl (((up_k hU29 (by exact Nat.ne_of_beq_eq_false rfl) 0 i).trans (up_k hU21 (by exact Nat.ne_of_beq_eq_false rfl) 0 i)).trans (hf_72 311 0 i rfl))⟩
                · intro k a b
                  have e9 : U29 308 0 k = T3 308 0 k := ((up_k hU29 (by exact Nat.ne_of_beq_eq_false rfl) 0 k).trans (up_k hU21 (by exact Nat.ne_of_beq_eq_false rfl) 0 k)).trans (hf_72 308 0 k rfl)
                  have h8 : -1 ≤ T3 308 0 k := hh3 k a b
                  show -1 ≤ U29 308 0 k ∧ (T3 308 0 k ≠ -1 → U29 308 0 k ≠ -1)
                  omega
                · intro _; exact Or.inl rfl
                · have eg : gh_ U29 = gh_ T3 := funext (fun k => ((up_k hU29 (by exact Nat.ne_of_beq_eq_false rfl) 0 k).trans (up_k hU21 (by exact Nat.ne_of_beq_eq_false rfl) 0 k)).trans (hf_72 311 0 k rfl))
                  have el : hld_ U29 = hld_ T3 := funext (fun k => ((up_k hU29 (by exact Nat.ne_of_beq_eq_false rfl) 0 k).trans (up_k hU21 (by exact Nat.ne_of_beq_eq_false rfl) 0 k)).trans (hf_72 308 0 k rfl))
                  rw [eg, el]
                  rw [if_neg (show en ≠ -1 by omega)]
                  have en0 : 0 ≤ en ∧ en < T 111 0 21 ∧ 0 ≤ T4 309 0 en ∧ T3 308 0 en = -1 := he.resolve_left (by omega)
                  exact wm_i (far := far_ T4) M3 K3 ⟨en0.1, en0.2.1⟩ en0.2.2.2
                · rw [if_neg (show en ≠ -1 by omega)]
                  refine ⟨?_, by omega⟩
                  rw [show U29 111 0 113 = wr_ (T3 111 0 113 + wr_ (T4 309 0 en - 10000)) from up_f hU29, ← s3.1]
                  unfold wr_
                  omega
                · intro z9; first | rfl | omega
                · exact fun q a b c d => mn q a (by omega) c d
          · refine ix_i (by omega) ?_
            intro b33 b33b
            refine And.intro (fun c34 => ?_) (fun c34 => ?_)
            · refine hK 130 _ [] T4 ?_
              refine j_blx (F := fX11) tb_X11 (nn_ _) bk_X11_matchRest_e_130 bs_X11_matchRest_e_130 hz (fun K hK => ?_)
              refine rg_i (by omega) ?_
              refine hK 72 [some (vR 111 0), some (vI f), some (vI tk), some (vI mr), some (vI en), some (vI (o + 1)), none, none] [] T4 ?_
              refine ih_72 _ ?_ en (o + 1) st T4 (Nat.le_refl _) ?_ ?_ ?_ ?_ ?_ ?_
              · have hm_72 := hm_72 (); omega
              · exact fr_t (fr_0 _ _) (fr_s hf_72 rfl)
              · omega
              · exact X4
              · first
                | exact he
                | omega
              · omega
              · intro q a b c d
                have e9 := hf_72 308 0 o rfl
                by_cases z : q = o
                · rw [z] at c d ⊢
                  omega
                · have h9 := mn q a (by omega) c d
                  omega
            · refine ix_i (by omega) ?_
              intro b35 b35b
              have e36 : T4 308 0 o = T3 308 0 o := hf_72 308 0 o rfl
              rw [e36] at b35 b35b ⊢
              refine And.intro (fun c37 => ?_) (fun c37 => ?_)
              · refine hK 130 [some (vR 111 0), some (vI f), some (vI tk), some (vI mr), some (vI en), some (vI o), none, none] [] T4 ?_
                refine j_blx (F := fX11) tb_X11 (nn_ _) bk_X11_matchRest_e_130 bs_X11_matchRest_e_130 hz (fun K hK => ?_)
                refine rg_i (by omega) ?_
                refine hK 72 [some (vR 111 0), some (vI f), some (vI tk), some (vI mr), some (vI en), some (vI (o + 1)), none, none] [] T4 ?_
                refine ih_72 _ ?_ en (o + 1) st T4 (Nat.le_refl _) ?_ ?_ ?_ ?_ ?_ ?_
                · have hm_72 := hm_72 (); omega
                · exact fr_t (fr_0 _ _) (fr_s hf_72 rfl)
                · omega
                · exact X4
                · first
                  | exact he
                  | omega
                · omega
                · intro q a b c d
                  have e9 := hf_72 308 0 o rfl
                  by_cases z : q = o
                  · rw [z] at c d ⊢
                    omega
                  · have h9 := mn q a (by omega) c d
                    omega
              · refine And.intro (fun c38 => ?_) (fun c38 => ?_)
                · refine hK 125 [some (vR 111 0), some (vI f), some (vI tk), some (vI mr), some (vI en), some (vI o), none, none] [] T4 ?_
                  refine j_blx (F := fX11) tb_X11 (nn_ _) bk_X11_matchRest_e_125 bs_X11_matchRest_e_125 hz (fun K hK => ?_)
                  refine hK 132 _ [vI o] T4 ?_
                  refine j_blx (F := fX11) tb_X11 (nn_ _) bk_X11_matchRest_e_132 bs_X11_matchRest_e_132 hz (fun K hK => ?_)
                  refine rg_i (by omega) ?_
                  refine hK 72 [some (vR 111 0), some (vI f), some (vI tk), some (vI mr), some (vI o), some (vI (o + 1)), none, none] [] T4 ?_
                  refine ih_72 _ ?_ o (o + 1) st T4 (Nat.le_refl _) ?_ ?_ ?_ ?_ ?_ ?_
                  · have hm_72 := hm_72 (); omega
                  · exact fr_t (fr_0 _ _) (fr_s hf_72 rfl)
                  · omega
                  · exact X4
                  · first
                    | exact he
                    | omega
                  · omega
                  · intro q a b c d
                    have e9 := hf_72 308 0 o rfl
                    by_cases z : q = o
                    · rw [z] at c d ⊢
                      omega
                    · have h9 := mn q a (by omega) c d
                      omega
                · refine ix_i (by omega) ?_
                  intro b39 b39b
                  refine ix_i (by omega) ?_
                  intro b40 b40b
                  refine And.intro (fun c41 => ?_) (fun c41 => ?_)
                  · refine hK 130 [some (vR 111 0), some (vI f), some (vI tk), some (vI mr), some (vI en), some (vI o), none, none] [] T4 ?_
                    refine j_blx (F := fX11) tb_X11 (nn_ _) bk_X11_matchRest_e_130 bs_X11_matchRest_e_130 hz (fun K hK => ?_)
                    refine rg_i (by omega) ?_
                    refine hK 72 [some (vR 111 0), some (vI f), some (vI tk), some (vI mr), some (vI en), some (vI (o + 1)), none, none] [] T4 ?_
                    refine ih_72 _ ?_ en (o + 1) st T4 (Nat.le_refl _) ?_ ?_ ?_ ?_ ?_ ?_
                    · have hm_72 := hm_72 (); omega
                    · exact fr_t (fr_0 _ _) (fr_s hf_72 rfl)
                    · omega
                    · exact X4
                    · first
                      | exact he
                      | omega
                    · omega
                    · intro q a b c d
                      have e9 := hf_72 308 0 o rfl
                      by_cases z : q = o
                      · rw [z] at c d ⊢
                        omega
                      · have h9 := mn q a (by omega) c d
                        omega
                  · refine hK 132 [some (vR 111 0), some (vI f), some (vI tk), some (vI mr), some (vI en), some (vI o), none, none] [vI o] T4 ?_
                    refine j_blx (F := fX11) tb_X11 (nn_ _) bk_X11_matchRest_e_132 bs_X11_matchRest_e_132 hz (fun K hK => ?_)
                    refine rg_i (by omega) ?_
                    refine hK 72 [some (vR 111 0), some (vI f), some (vI tk), some (vI mr), some (vI o), some (vI (o + 1)), none, none] [] T4 ?_
                    refine ih_72 _ ?_ o (o + 1) st T4 (Nat.le_refl _) ?_ ?_ ?_ ?_ ?_ ?_
                    · have hm_72 := hm_72 (); omega
                    · exact fr_t (fr_0 _ _) (fr_s hf_72 rfl)
                    · omega
                    · exact X4
                    · first
                      | exact he
                      | omega
                    · omega
                    · intro q a b c d
                      have e9 := hf_72 308 0 o rfl
                      by_cases z : q = o
                      · rw [z] at c d ⊢
                        omega
                      · have h9 := mn q a (by omega) c d
                        omega
      refine j_blx (F := fX11) tb_X11 (nn_ _) bk_X11_matchRest_e_56 bs_X11_matchRest_e_56 hz (fun K hK => ?_)
      refine And.intro (fun c42 => ?_) (fun c42 => ?_)
      · refine hK 242 _ [] T3 ?_
        refine j_blx (F := fX11) tb_X11 (nn_ _) bk_X11_matchRest_e_242 bs_X11_matchRest_e_242 hz (fun K hK => ?_)
        refine (show po_X11_matchRest_e T f tk T3 (none) from ?_)
        exact ⟨rfl, fr_t (fr_0 _ _) (fr_s hf_56 rfl), by omega, M3, s3.1, s3.2, z3 (by omega)⟩
      · have ofe3 : ofs_ T3 tk f = ofs_ T tk f := ofs_e (fun j => hf_56 222 0 j rfl) (fun j => hf_56 213 0 j rfl) (fun j => hf_56 232 0 j rfl) (fun j => hf_56 233 0 j rfl) (fun j => hf_56 223 0 j rfl) (fun j => hf_56 214 0 j rfl) (fun j => hf_56 306 0 j rfl) (hf_56 111 0 21 rfl) (hf_56 111 0 107 rfl)
        refine hK 63 _ [vI tk, vI f, vR 111 0] T3 ?_
        refine j_callV (y := yX11_findPaths) (Yc := zX11_findPaths) (rest := []) [vI f, vI tk] (ct_X11_findPaths (T := T3) (pi := pi) (by omega) (by rw [ofe3]; exact P3)) cl_X11_625 (qd_c (by decide +kernel)) (nn_ _) rfl (rf_of rfl) (Nat.le_of_ble_eq_true rfl) (Nat.le_of_ble_eq_true rfl) (Nat.le_of_ble_eq_true rfl) rfl ?_
        rintro U43 _ ⟨rfl, fU43, st0, X0⟩
        rw [ofe3] at X0
        show J_ zX11_matchRest T (po_X11_matchRest_e T f tk) 0 0 66 _ [] U43
        refine j_blx (F := fX11) tb_X11 (nn_ _) bk_X11_matchRest_e_66 bs_X11_matchRest_e_66 hz (fun K hK => ?_)
        refine hK 72 [some (vR 111 0), some (vI f), some (vI tk), some (vI mr), some (vI (-1)), some (vI 0), none, none] [] U43 ?_
        refine c_72 _ (-1) 0 st0 U43 (Nat.le_refl _) ?_ ?_ ?_ ?_ ?_ ?_
        · exact fr_t (fr_0 _ _) (fr_s fU43 rfl)
        · omega
        · exact X0
        · first
          | exact he
          | omega
        · omega
        · intro q a b; omega
  have c_33 : ∀ (nn : Nat) (i : Int) (T1 : Zt), ((400 - i).toNat) ≤ nn → (fr_ [(308, []), (311, []), (111, [112, 113])] T T1) → (f ≤ i ∧ T1 111 0 112 = 0 ∧ T1 111 0 113 = 0) → (∀ k, 0 ≤ k → k < 8 → hld_ T1 k = -1) → (∀ j, f ≤ j → j < i → T1 311 0 j = -1) → J_ zX11_matchRest T (po_X11_matchRest_e T f tk) 0 0 33 [some (vR 111 0), some (vI f), some (vI tk), some (vI i), none, none, none, none] [] T1 := by
    intro nn
    induction nn using Nat.strongRecOn with
    | _ nn ih_33 =>
      intro i T1 hm_33 hf_33 i1 hd1 z1
      replace hm_33 := fun (_ : Unit) => hm_33
      refine j_blx (F := fX11) tb_X11 (nn_ _) bk_X11_matchRest_e_33 bs_X11_matchRest_e_33 hz (fun K hK => ?_)
      intro b44 b44b
      have e45 : T1 111 0 107 = T 111 0 107 := hf_33 111 0 107 rfl
      rw [e45] at b44 b44b ⊢
      refine And.intro (fun c46 => ?_) (fun c46 => ?_)
      · refine hK 54 _ [] T1 ?_
        refine j_blx (F := fX11) tb_X11 (nn_ _) bk_X11_matchRest_e_54 bs_X11_matchRest_e_54 hz (fun K hK => ?_)
        refine hK 56 [some (vR 111 0), some (vI f), some (vI tk), some (vI 1), none, none, none, none] [] T1 ?_
        refine c_56 _ 1 (fun _ => 10000) 10000 T1 (Nat.le_refl _) ?_ ?_ ?_ ?_ ?_ ?_ ?_ ?_ ?_ ?_
        · exact fr_t (fr_0 _ _) (fr_s hf_33 rfl)
        · omega
        · exact po_0 (of_9 (fun i o a b c d => hdd i o (by omega) (by omega) (by omega) (by omega))) (show 0 ≤ T 111 0 21 by omega) (fun i a b => z1 i a (by have : i < T 111 0 107 := b; omega))
        · exact fun k a b => by rw [hd1 k a b]; decide
        · have r9 := nh_8 (hld_ T1)
          omega
        · exact (ce_0 (F := (ofs_ T tk f)) (ho := gh_ T1) (fun i a b => z1 i a (by have : i < T 111 0 107 := b; omega))).1
        · exact fun q a b _ => ⟨fun _ i c d => (by have y9 : gh_ T1 i = -1 := z1 i c (by have : i < T 111 0 107 := d; omega); omega), fun _ => hd1 q a (by have : q < T 111 0 21 := b; omega)⟩
        · exact fun _ => ⟨(ce_0 (F := (ofs_ T tk f)) (ho := gh_ T1) (fun i a b => z1 i a (by have : i < T 111 0 107 := b; omega))).2.1, Int.le_refl _⟩
        · have y9 := ce_0 (F := (ofs_ T tk f)) (ho := gh_ T1) (fun i a b => z1 i a (by have : i < T 111 0 107 := b; omega))
          exact ⟨by rw [y9.2.2.2]; omega, by rw [y9.2.2.1]; omega⟩
        · intro z; exact absurd z (by decide)
      · refine iy_i (by omega) (by omega) ?_
        refine x_nm (fun U47 hU47 => ?_)
        have e48 := up_f hU47
        refine rg_i (by omega) ?_
        refine hK 33 [some (vR 111 0), some (vI f), some (vI tk), some (vI (i + 1)), none, none, none, none] [] U47 ?_
        have e49 : U47 111 0 112 = T1 111 0 112 := up_k hU47 (by exact Nat.ne_of_beq_eq_false rfl) 0 112
        have e50 : U47 111 0 113 = T1 111 0 113 := up_k hU47 (by exact Nat.ne_of_beq_eq_false rfl) 0 113
        refine ih_33 _ ?_ (i + 1) U47 (Nat.le_refl _) ?_ ?_ ?_ ?_
        · have hm_33 := hm_33 (); omega
        · exact fr_u (fr_t (fr_0 _ _) (fr_s hf_33 rfl)) hU47 rfl
        · omega
        · intro k a b
          show U47 308 0 k = -1
          rw [up_k hU47 (by exact Nat.ne_of_beq_eq_false rfl)]
          exact hd1 k a b
        · intro j a b
          by_cases z : j = i
          · rw [z]; exact up_f hU47
          · rw [up_g hU47 (fun q => z q.2.2)]; exact z1 j a (by omega)
  have c_12 : ∀ (nn : Nat) (o : Int) (T0 : Zt), ((8 - o).toNat) ≤ nn → (fr_ [(308, []), (111, [112, 113])] T T0) → (0 ≤ o ∧ T0 111 0 112 = 0 ∧ T0 111 0 113 = 0) → (∀ j, 0 ≤ j → j < o → T0 308 0 j = -1) → J_ zX11_matchRest T (po_X11_matchRest_e T f tk) 0 0 12 [some (vR 111 0), some (vI f), some (vI tk), some (vI o), none, none, none, none] [] T0 := by
    intro nn
    induction nn using Nat.strongRecOn with
    | _ nn ih_12 =>
      intro o T0 hm_12 hf_12 i0 zh
      replace hm_12 := fun (_ : Unit) => hm_12
      refine j_blx (F := fX11) tb_X11 (nn_ _) bk_X11_matchRest_e_12 bs_X11_matchRest_e_12 hz (fun K hK => ?_)
      refine And.intro (fun c51 => ?_) (fun c51 => ?_)
      · refine hK 31 _ [] T0 ?_
        refine j_blx (F := fX11) tb_X11 (nn_ _) bk_X11_matchRest_e_31 bs_X11_matchRest_e_31 hz (fun K hK => ?_)
        refine hK 33 [some (vR 111 0), some (vI f), some (vI tk), some (vI f), none, none, none, none] [] T0 ?_
        refine c_33 _ f T0 (Nat.le_refl _) ?_ ?_ ?_ ?_
        · exact fr_t (fr_0 _ _) (fr_s hf_12 rfl)
        · omega
        · exact fun k a b => zh k a (by omega)
        · intro j a b; omega
      · refine iy_i (by omega) (by omega) ?_
        refine x_nm (fun U52 hU52 => ?_)
        have e53 := up_f hU52
        refine rg_i (by omega) ?_
        refine hK 12 [some (vR 111 0), some (vI f), some (vI tk), some (vI (o + 1)), none, none, none, none] [] U52 ?_
        have e54 : U52 111 0 112 = T0 111 0 112 := up_k hU52 (by exact Nat.ne_of_beq_eq_false rfl) 0 112
        have e55 : U52 111 0 113 = T0 111 0 113 := up_k hU52 (by exact Nat.ne_of_beq_eq_false rfl) 0 113
        refine ih_12 _ ?_ (o + 1) U52 (Nat.le_refl _) ?_ ?_ ?_
        · have hm_12 := hm_12 (); omega
        · exact fr_u (fr_t (fr_0 _ _) (fr_s hf_12 rfl)) hU52 rfl
        · omega
        · intro j a b
          by_cases z : j = o
          · rw [z]; exact up_f hU52
          · rw [up_g hU52 (fun q => z q.2.2)]; exact zh j a (by omega)
  refine j_blx (F := fX11) tb_X11 (nn_ _) bk_X11_matchRest_e_0 bs_X11_matchRest_e_0 hz (fun K hK => ?_)
  refine bd_i (by omega) ?_
  refine x_nm (fun U56 hU56 => ?_)
  have e57 := up_f hU56
  refine bd_i (by omega) ?_
  refine x_nm (fun U58 hU58 => ?_)
  have e59 := up_f hU58
  refine hK 12 [some (vR 111 0), some (vI f), some (vI tk), some (vI 0), none, none, none, none] [] U58 ?_
  have e60 : U58 111 0 112 = 0 := (up_j hU58 (by decide) 111 0).trans (up_f hU56)
  have e61 : U58 111 0 113 = 0 := up_f hU58
  refine c_12 _ 0 U58 (Nat.le_refl _) ?_ ?_ ?_
  · exact fr_u (fr_u (fr_0 _ _) hU56 rfl) hU58 rfl
  · omega
  · intro j a b; omega
