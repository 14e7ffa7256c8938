/-- a match put off -/
theorem pl_post {T T1 T2 : Zt} {N m d x1 x2 : Int} (hT : ok_T T) (hI : IC_ N T) (hP : PLR_ T) (hX : TXR_ T) (hM : MAR_ T) (hH : THR_ T) (hC : CLM_ T) (hD : DAR_ T) (hV : MVR_ T) (hN : CNR_ T) (f1 : fr_ [(535, []), (534, []), (102, [5]), (533, []), (531, []), (106, [12])] T T1) (d1 : ((x1 = -2 ∧ ¬ (0 ≤ m ∧ m < T 106 0 4) ∧ T = T1) ∨ ((0 ≤ m ∧ m < T 106 0 4) ∧ ((x1 = -3 ∧ ¬ (T 108 0 13 < d ∧ d ≤ 999 ∧ 0 ≤ d) ∧ T = T1) ∨ ((T 108 0 13 < d ∧ d ≤ 999 ∧ 0 ≤ d) ∧ ((x1 = -4 ∧ ¬ ((T 102 m 6 = -1 ∧ T 102 m 10 = 0) ∧ T 102 m 5 ≠ d) ∧ T = T1) ∨ (((T 102 m 6 = -1 ∧ T 102 m 10 = 0) ∧ T 102 m 5 ≠ d) ∧ PTO_ T T1 m d x1))))))) (f2 : fr_ [(234, []), (271, []), (272, []), (111, [73, 75]), (274, [])] T1 T2) (d2 : ((x2 = -2 ∧ ¬ (0 ≤ m ∧ m < T1 111 0 29) ∧ T1 = T2) ∨ ((0 ≤ m ∧ m < T1 111 0 29) ∧ ((x2 = -3 ∧ ¬ (T1 111 0 3 < d ∧ d ≤ 999 ∧ 0 ≤ d) ∧ T1 = T2) ∨ ((T1 111 0 3 < d ∧ d ≤ 999 ∧ 0 ≤ d) ∧ ((x2 = -4 ∧ ¬ (T1 235 0 m = 0 ∧ T1 234 0 m ≠ d) ∧ T1 = T2) ∨ ((T1 235 0 m = 0 ∧ T1 234 0 m ≠ d) ∧ PTQ_ T1 T2 m d x2))))))) : x1 = x2 ∧ DAR_ T2 ∧ MVR_ T2 := by
  have c4 : T1 106 0 4 = T 106 0 4 := f1 106 0 4 rfl
  have c29 : T1 111 0 29 = T 111 0 29 := f1 111 0 29 rfl
  have c3 : T1 111 0 3 = T 111 0 3 := f1 111 0 3 rfl
  have v4 : T2 106 0 4 = T1 106 0 4 := f2 106 0 4 rfl
  have v5 : ∀ i, T2 102 i 5 = T1 102 i 5 := fun i => f2 102 i 5 rfl
  have v12 : T2 106 0 12 = T1 106 0 12 := f2 106 0 12 rfl
  have v31 : ∀ j, T2 531 0 j = T1 531 0 j := fun j => f2 531 0 j rfl
  have c34 : ∀ j, T1 234 0 j = T 234 0 j := fun j => f1 234 0 j rfl
  have c74 : ∀ j, T1 274 0 j = T 274 0 j := fun j => f1 274 0 j rfl
  have c75 : T1 111 0 75 = T 111 0 75 := f1 111 0 75 rfl
  have c35 : ∀ j, T1 235 0 j = T 235 0 j := fun j => f1 235 0 j rfl
  have mm := hM.1
  have t6 := hN.2.2.2
  have m4 : 0 ≤ T 106 0 4 ∧ T 106 0 4 ≤ 400 := bd_f hT 106 4 tl_6_4 0
  rcases d1 with ⟨rfl, hn, rfl⟩ | ⟨hm, d1⟩
  · rcases d2 with ⟨rfl, -, rfl⟩ | ⟨hm2, -⟩
    · exact ⟨rfl, hD, hV⟩
    · exfalso; omega
  · obtain ⟨-, d2⟩ := d2.resolve_left (fun z => z.2.1 (by omega))
    rcases d1 with ⟨rfl, a, rfl⟩ | ⟨a, d1⟩
    · rcases d2 with ⟨rfl, -, rfl⟩ | ⟨y, -⟩
      · exact ⟨rfl, hD, hV⟩
      · exfalso; omega
    · obtain ⟨-, d2⟩ := d2.resolve_left (fun z => z.2.1 (by omega))
      have t7 := pm_0 (hP.1 m hm.1 hm.2).2
      have t5 := hD m hm.1 hm.2
      have u5 := c34 m
      have u6 := c35 m
      rcases d1 with ⟨rfl, b, rfl⟩ | ⟨b, d1⟩
      · rcases d2 with ⟨rfl, -, rfl⟩ | ⟨y, -⟩
        · exact ⟨rfl, hD, hV⟩
        · exfalso; omega
      · obtain ⟨-, d2⟩ := d2.resolve_left (fun z => z.2.1 (by omega))
        have ee : ∀ (k : Nat) (j : Int), k = 205 ∨ k = 213 ∨ k = 230 ∨ k = 232 ∨ k = 233 ∨ k = 235 → T1 k 0 j = T k 0 j := fun k j h => by
          rcases h with rfl | rfl | rfl | rfl | rfl | rfl <;> exact f1 _ 0 j rfl
        have dq : ∀ j, 0 ≤ j → j < T 106 0 4 → T1 234 0 j = T 102 j 5 := fun j j0 j1 => (c34 j).trans (hD j j0 j1).symm
        have ag : ∀ k, 0 ≤ k → k < T 106 0 4 → (AGR_ T1 m d k ↔ AGH_ T m d k) := fun k k0 k1 => sa_q hT hI hP hX hM hH hC ee hm.1 hm.2 k0 k1 (dq k k0 k1)
        have bk : ∀ (f f' : Int → Int) (k x : Int), (∀ j, 0 ≤ j → j < T 106 0 4 → f' j = f j) → 0 ≤ k → k < T 106 0 4 → (BKR_ T1 f' k x ↔ BKH_ T f k x) := fun f f' k x h k0 k1 => by
          unfold BKR_ BKH_ BK_
          constructor
          · rintro ⟨z, z0, z1, z2⟩
            exact ⟨z, z0, by omega, (sa_q hT hI hP hX hM hH hC ee k0 k1 z0 (by omega) (h z z0 (by omega))).mp z2⟩
          · rintro ⟨z, z0, z1, z2⟩
            exact ⟨z, z0, by omega, (sa_q hT hI hP hX hM hH hC ee k0 k1 z0 z1 (h z z0 z1)).mpr z2⟩
        have mv := mv_e (bk := BKH_ T) (bk' := BKR_ T1) (ag := AGH_ T m d) (ag' := AGR_ T1 m d) (d := d) (day := u1_ (fun m => T 102 m 5) m d) (day' := u1_ (fun m => T1 234 0 m) m d) (n := T 106 0 4) (fun j j0 j1 => by
          by_cases z : j = m
          · rw [z, u1_s, u1_s]
          · rw [u1_n z, u1_n z]
            exact dq j j0 j1) ag bk (T 106 0 4).toNat (by omega)
        have tl : (∀ k, 0 ≤ k → k < T1 111 0 29 → AGR_ T1 m d k → TLR_ T1 k) ↔ (∀ k, 0 ≤ k → k < T 106 0 4 → AGH_ T m d k → TLD_ T k) := by
          constructor
          · intro h k k0 k1 k2
            have y : T1 235 0 k = 0 := h k k0 (by omega) ((ag k k0 k1).mpr k2)
            exact (pm_0 (hP.1 k k0 k1).2).mpr ((c35 k).symm.trans y)
          · intro h k k0 k1 k2
            have k1' : k < T 106 0 4 := by omega
            show T1 235 0 k = 0
            rw [c35]
            exact (pm_0 (hP.1 k k0 k1').2).mp (h k k0 k1' ((ag k k0 k1').mp k2))
        have e2 : (mvR_ T1 m d (T1 111 0 29)).2 = (mvH_ T m d (T 106 0 4)).2 := by
          unfold mvR_ mvH_
          rw [show T1 111 0 29 = T 106 0 4 by omega]
          exact mv.1
        have e3 : ∀ j, 0 ≤ j → j < T 106 0 4 → (mvR_ T1 m d (T1 111 0 29)).1 j = (mvH_ T m d (T 106 0 4)).1 j := fun j j0 j1 => by
          unfold mvR_ mvH_
          rw [show T1 111 0 29 = T 106 0 4 by omega]
          exact mv.2 j j0 j1
        unfold PTO_ at d1
        unfold PTQ_ at d2
        rw [tl, e2] at d2
        rcases d1 with ⟨x, y, z1, z2, z3⟩ | ⟨x, y1, y2, z1, z2, z3, z4⟩
        · rcases d2 with ⟨u, -, w1, w2, w3⟩ | ⟨-, u1, u2, -⟩
          · refine ⟨by omega, fun j j0 j1 => ?_, ?_, fun k k0 k1 => ?_⟩
            · rw [v5, z1, w1, c34]
              exact hD j j0 (by omega)
            · have := hV.1; omega
            · rw [v31, z2, w2, c74]
              exact hV.2 k k0 (by omega)
          · exact absurd ⟨u1, u2⟩ y
        · rcases d2 with ⟨-, u, -⟩ | ⟨u, -, -, w1, w2, w3⟩
          · exact absurd ⟨y1, y2⟩ u
          · rw [show T1 111 0 29 = T 106 0 4 by omega] at w2
            have lq := lhd_q z3 w2 (fun j j0 j1 => (ag j (by omega) (by omega)).symm) x u
            refine ⟨lq.1, fun j j0 j1 => ?_, by omega, fun k k0 k1 => ?_⟩
            · rw [v5, z1, w1]
              exact (e3 j j0 (by omega)).symm
            · rw [v31]
              exact lq.2 k k0 (by omega)
