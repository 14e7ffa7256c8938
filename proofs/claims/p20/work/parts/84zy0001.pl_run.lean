/-- each row of a run is kept or put aside -/
theorem rn_len {r : Int → Int} : ∀ (l : List Rw_) (x : Rz_), ((l.foldl (stH_ r) x).2.1.length : Int) + (l.foldl (stH_ r) x).2.2 = (x.2.1.length : Int) + x.2.2 + (l.length : Int)
  | [], x => by
    show (x.2.1.length : Int) + x.2.2 = (x.2.1.length : Int) + x.2.2 + ((0 : Nat) : Int)
    omega
  | (k, s, q, o) :: l, x => by
    have h := rn_len (r := r) l (stH_ r x (k, s, q, o))
    show ((l.foldl (stH_ r) (stH_ r x (k, s, q, o))).2.1.length : Int) + (l.foldl (stH_ r) (stH_ r x (k, s, q, o))).2.2 = (x.2.1.length : Int) + x.2.2 + ((l.length + 1 : Nat) : Int)
    have e : ((stH_ r x (k, s, q, o)).2.1.length : Int) + (stH_ r x (k, s, q, o)).2.2 = (x.2.1.length : Int) + x.2.2 + 1 := by
      by_cases z : lw9_ r x.1 k s q o = 0
      · rw [stH_t z]
        show ((x.2.1 ++ [(k, s, q, o)]).length : Int) + x.2.2 = (x.2.1.length : Int) + x.2.2 + 1
        rw [List.length_append]
        show ((x.2.1.length + 1 : Nat) : Int) + x.2.2 = _
        omega
      · rw [stH_f z]
        show (x.2.1.length : Int) + (x.2.2 + 1) = _
        omega
    omega
theorem rn_lh {r : Int → Int} {a : Sg_} {l : List Rw_} : ((rnH_ r a l).2.1.length : Int) + (rnH_ r a l).2.2 = (l.length : Int) := by
  have h := rn_len (r := r) l (a, [], 0)
  have e : ((a, ([] : List Rw_), (0 : Int)) : Rz_).2.1.length = 0 := rfl
  have e2 : ((a, ([] : List Rw_), (0 : Int)) : Rz_).2.2 = 0 := rfl
  rw [e, e2] at h
  unfold rnH_
  omega
/-- a play run anew -/
theorem pl_run {T T1 T2 : Zt} {N m x1 x2 : Int} {l : List Rw_} (hpc : PCC_ T m) (rb : RB9_ (ruH_ T m)) (hl : l.length ≤ 3000) (h17 : 0 ≤ T 103 m 17) (kR : KRM_ T T1 m) (kH : KHM_ T1 T2 m) (e16 : T1 102 m 6 = T 102 m 6 ∧ T1 102 m 10 = T 102 m 10 ∧ T1 102 m 0 = T 102 m 0 ∧ T1 103 m 0 = T 103 m 0) (e401 : ∀ i w, T1 401 i w = T 401 i w) (e449 : ∀ t, T1 449 m t = T 449 m t) (f190 : ∀ i j, T2 190 i j = T1 190 i j) (h15 : 0 ≤ T2 103 m 15) (a : RNH_ (ruH_ T m) m x1 T T1 l) (b : RNR_ (ruH_ T m) m x2 T1 T2 l) : x1 = x2 ∧ PCC_ T2 m := by
  obtain ⟨p1, p2, p3, ⟨n, pn, ps⟩, p5, p6, p7, p8⟩ := hpc
  obtain ⟨a1, a2, a3, a4⟩ := a
  obtain ⟨bb, b0, b1, b2, b3, b4⟩ := b
  obtain ⟨k1, ⟨k2, k3, k4⟩, ⟨k5, k6, k7, k8⟩, k9, k0⟩ := kH
  obtain ⟨e1, e2, e3, e4⟩ := e16
  rw [kR.1] at b0
  have ws := ps.2.1
  have eq := ps.1
  have g9 : ruH_ T m 9 = T 401 (T 102 m 0) 9 := rlm_v (f := fun w => T 401 (T 102 m 0) w) (by decide) (by decide)
  have r49 : ∀ t, rs9_ T m 449 t = T 449 m t := fun t => rs_d rfl
  have sb := si_bg (m := m) (r := ruH_ T m) (a0 := rp9_ T m) (b := bb) (a := rs9_ T m) rb (fun t t0 t1 => by
      have y := ws.1 t t0 t1
      have z := p6 t t0 t1
      rw [g9]
      rw [r49] at y ⊢
      omega) ws.2.2.2.2 (fun t t0 t1 => (eq_j eq t0 t1).1) (fun t x t0 t1 x0 x1 => (eq.2.2.2.2 t x t0 t1 x0 x1).1) b0
  have rn := rn_q (m := m) (l := l) rb sb.1 sb.2 (by omega)
  have es : rs9_ T2 m = (rnH_ (ruH_ T m) (bb9_ (ruH_ T m) (rs9_ T m)) l).1 := (rs_n k1).trans a1
  have e5 : x1 = x2 := by rw [a3, b3, rn.2.2]
  have e0 : T2 102 m 0 = T 102 m 0 := by omega
  have e41 : ∀ w, T2 401 (T 102 m 0) w = T 401 (T 102 m 0) w := fun w => by
    rw [e3] at k9
    exact (k9 w).trans (e401 _ w)
  have er : ruH_ T2 m = ruH_ T m := rlm_e (fun w _ _ => by
    show T2 401 (T2 102 m 0) w = T 401 (T 102 m 0) w
    rw [e0, e41])
  have ll := congrArg List.length a2
  rw [hrw_l] at ll
  have lr := rn_lh (r := ruH_ T m) (a := bb9_ (ruH_ T m) (rs9_ T m)) (l := l)
  refine ⟨e5, by omega, by omega, by omega, ⟨3 * (l.length : Int), by omega, ?_⟩, ?_, fun t t0 t1 => ?_, ?_, ?_⟩
  · rw [er, b1, es]
    exact rn.1
  · rw [es]
    exact rn.2.1
  · rw [e0, e41, show T2 449 m t = T 449 m t from (k1 449 t rfl).trans (e449 t)]
    exact p6 t t0 t1
  · rw [b2, rn.2.2, ← a2, k6, k7]
    exact hrw_e (fun j _ _ => f190 _ j)
  · rw [k8, a4, b4, kR.2.2.2, p8, e5]
