-- bans and line-ups of both sides alike
theorem coc_k {T T' : Zt} {p d : Int} (e : ∀ (k : Nat) (j : Int), k = 217 ∨ k = 218 ∨ k = 219 ∨ k = 220 → T' k 0 j = T k 0 j) (e16 : T' 111 0 16 = T 111 0 16) : co9_c T' p d = co9_c T p d := by
  unfold co9_c
  rw [e16]
  exact cnn_k e _
theorem plN_n {T : Zt} {m q s : Int} : ∀ (n : Nat) (i : Int), 0 ≤ s → 0 ≤ i → plN_ T m q s n i = -1 → ∀ k, i ≤ k → k < i + (n : Int) → T 448 m (s * 10 + k) ≠ q
  | 0, i, _, _, _, k, a, b => by omega
  | n + 1, i, s0, i0, h, k, a, b => by
    by_cases z : T 448 m (s * 10 + i) = q
    · rw [plN_t z] at h
      omega
    · rw [plN_f z] at h
      by_cases y : k = i
      · rw [y]; exact z
      · exact plN_n n (i + 1) s0 (by omega) h k (by omega) (by omega)
/-- the place on one sheet -/
theorem pl_sl1 {T : Zt} {m q s : Int} (h : SHM_ T m) (s0 : 0 ≤ s) (s1 : s ≤ 1) : (plN_ T m q s (T 449 m s).toNat 0 = -1 ∧ slR_ (rp9_ T m) s q = -1) ∨ (s * 10 ≤ plN_ T m q s (T 449 m s).toNat 0 ∧ plN_ T m q s (T 449 m s).toNat 0 < s * 10 + T 449 m s ∧ slR_ (rp9_ T m) s q = plN_ T m q s (T 449 m s).toNat 0) := by
  have g := h.1 s s0 s1
  have e48 : ∀ x, s * 10 ≤ x → x < s * 10 + T 449 m s → rp9_ T m 448 x = T 448 m x := fun x x0 x1 => by
    rw [rp_40 (by omega) (by omega)]
    exact h.2.1 s x s0 s1 x0 x1
  unfold slR_
  rw [rp_39 s0 s1, g.1]
  rcases plN_b (T := T) (m := m) (q := q) (s := s) (T 449 m s).toNat 0 with y | y
  · refine Or.inl ⟨y, ?_⟩
    rcases sln_b (a := rp9_ T m) (s := s) (q := q) (T 449 m s).toNat with w | w
    · exact w
    · exfalso
      have n := plN_n (T 449 m s).toNat 0 s0 (by decide) y (sln_ (rp9_ T m) s q (T 449 m s).toNat - s * 10) (by omega) (by omega)
      rw [show s * 10 + (sln_ (rp9_ T m) s q (T 449 m s).toNat - s * 10) = sln_ (rp9_ T m) s q (T 449 m s).toNat by omega, ← e48 _ (by omega) (by omega)] at n
      exact n w.2.2
  · have y1 : plN_ T m q s (T 449 m s).toNat 0 < s * 10 + T 449 m s := by omega
    refine Or.inr ⟨by omega, y1, ?_⟩
    refine sl_u _ (by omega) (by omega) ((e48 _ (by omega) y1).trans y.2.2) (fun x x0 x1 e => ?_)
    rw [e48 x x0 (by omega)] at e
    exact h.2.2 s x _ s0 s1 x0 (by omega) (by omega) y1 (e.trans y.2.2.symm)
/-- the place on the sheets -/
theorem pl_sl {T : Zt} {m q : Int} (m0 : 0 ≤ m) (h : SHM_ T m) : (plc_ T m q = -1 ∧ slc_ T m q = -1) ∨ (∃ t, (0 ≤ t ∧ t ≤ 1) ∧ t * 10 ≤ plc_ T m q ∧ plc_ T m q < t * 10 + T 449 m t ∧ slc_ T m q = 20 * m + plc_ T m q) := by
  have g0 := h.1 0 (by decide) (by decide)
  have g1 := h.1 1 (by decide) (by decide)
  rcases pl_sl1 (q := q) h (s := 0) (by decide) (by decide) with ⟨a, b⟩ | ⟨a, b, c⟩
  · have e0 : ab9_ m (slR_ (rp9_ T m) 0 q) = -1 := ab_1 b
    rw [plc_1 a, slc_1 rfl e0 rfl]
    rcases pl_sl1 (q := q) h (s := 1) (by decide) (by decide) with ⟨u, v⟩ | ⟨u, v, w⟩
    · exact Or.inl ⟨u, ab_1 v⟩
    · refine Or.inr ⟨1, by decide, u, v, ?_⟩
      rw [ab_2 (by omega), w]
  · have e0 : ab9_ m (slR_ (rp9_ T m) 0 q) = 20 * m + plN_ T m q 0 (T 449 m 0).toNat 0 := by rw [ab_2 (by omega), c]
    rw [plc_0 (by omega), slc_0 rfl (by omega), e0]
    exact Or.inr ⟨0, by decide, a, b, rfl⟩
/-- whether a match is decided -/
theorem pm_d {T : Zt} {m : Int} (h : PM_ T m) : (T 102 m 6 ≠ -1 ∨ (T 102 m 10 ≠ 0 ∧ T 103 m 3 ≠ 0)) ↔ (T 235 0 m = 2 ∨ T 235 0 m = 3) := by
  rcases h with z | z | z
  · have a := z.1
    have b := z.2.1
    have c := z.2.2.1
    constructor
    · intro u; omega
    · intro u; omega
  · have a := z.2.2.1
    have c := z.2.1
    constructor
    · intro u; omega
    · intro u; omega
  · obtain ⟨n, -, ps⟩ := z.2.2.2.1
    have e := ps.1.2.2.1.2.2
    rw [rp_35, show rs9_ T m 103 3 = T 103 m 3 from rs_d rfl] at e
    have a := z.1
    have b := z.2.1
    constructor
    · intro u; omega
    · intro u; omega
theorem kd_q {T : Zt} {m q : Int} (m0 : 0 ≤ m) (h : SHM_ T m) (g : PM_ T m) (d : T 235 0 m = 2 ∨ T 235 0 m = 3) : kdH_ T q m = kdR_ T q m ∧ (kdH_ T q m = 2 → yvH_ T q m = yvR_ T q m) := by
  rcases g with z | z | z
  · have c := z.2.2.1
    exfalso; omega
  · have c := z.2.1
    rw [kdH_0 (Or.inl z.1), kdR_0 (fun y => by omega)]
    exact ⟨rfl, fun y => absurd y (by decide)⟩
  · obtain ⟨n, -, ps⟩ := z.2.2.2.1
    have e3 := ps.1.2.2.1.2.2
    rw [rp_35] at e3
    have e2 : T 235 0 m = 2 := by omega
    rcases pl_sl (q := q) m0 h with ⟨a, b⟩ | ⟨t, ht, a, b, c⟩
    · rw [kdH_0 (Or.inr a), kdR_0 (fun y => y.2 b)]
      exact ⟨rfl, fun y => absurd y (by decide)⟩
    · have g49 := h.1 t ht.1 ht.2
      have r49 : rs9_ T m 449 t = T 449 m t := rs_d rfl
      have eq := ps.1.2.2.2.2 t (plc_ T m q) ht.1 ht.2 a (by rw [r49]; exact b)
      have d0 : 0 ≤ plc_ T m q ∧ plc_ T m q ≤ 19 := by omega
      rw [show rs9_ T m 472 (plc_ T m q) = T 472 m (plc_ T m q) from rs_d rfl, show rs9_ T m 473 (plc_ T m q) = T 473 m (plc_ T m q) from rs_d rfl, rp_v (m := m) (K := 242) (x := 20 * m + plc_ T m q) (dm_473 d0) rfl rfl, rp_v (m := m) (K := 243) (x := 20 * m + plc_ T m q) (dm_474 d0) rfl rfl, ← c] at eq
      have n1 : ¬ (T 102 m 10 = 0 ∨ plc_ T m q = -1) := fun y => by
        rcases y with y | y
        · exact z.2.1 y
        · omega
      have n2 : T 235 0 m = 2 ∧ slc_ T m q ≠ -1 := ⟨e2, by omega⟩
      rcases eq.2.2 with ⟨y1, -, y3⟩ | ⟨y1, -, y3⟩
      · rw [kdH_1 n1 y1, kdR_1 n2 y3]
        exact ⟨rfl, fun y => absurd y (by decide)⟩
      · rw [kdH_2 n1 y1, kdR_2 n2 (by omega)]
        exact ⟨rfl, fun _ => eq.2.1.symm⟩
theorem sbn_e {red cards : Int} {kd yv kd' yv' : Int → Int} {m : Int} (h : kd' m = kd m) (g : kd m = 2 → yv' m = yv m) : sbn_ red cards kd' yv' m = sbn_ red cards kd yv m := by
  funext x
  by_cases z : kd m = 1
  · rw [sbn_1 z, sbn_1 (h.trans z)]
  · by_cases y : kd m = 2
    · rw [sbn_2 y, sbn_2 (h.trans y), g y]
    · rw [sbn_0 z y, sbn_0 (by rw [h]; exact z) (by rw [h]; exact y)]
/-- the bans are the same -/
theorem bn_q {T : Zt} {N q p : Int} (hT : ok_T T) (hI : IC_ N T) (hP : PLR_ T) (hX : TXR_ T) (hM : MAR_ T) (hE : ENR_ T) (hD : DAR_ T) (hp : 0 ≤ p ∧ p < T 106 0 4) : bnH_ T q p = bnR_ T q p := by
  have hc : 0 ≤ T 102 p 0 ∧ T 102 p 0 < T 106 0 2 := (hI.1.2.1 p hp.1 hp.2).2
  have ec := (hM.2 p hp.1 hp.2).1
  have en := hE.1 _ hc.1 hc.2
  have kc := hI.1.2.2.1 _ hc.1 hc.2
  have rl := (hX.2.2.2.2 _ hc.1 hc.2).1
  have b7 : 0 ≤ T 100 (T 102 p 0) 7 := (bd_f hT 100 7 tl_0_7 _).1
  have ed := hD p hp.1 hp.2
  unfold bnH_ bnR_
  rw [← ec, ← rl 13 (by decide) (by decide), ← rl 14 (by decide) (by decide), ← en.2.2.1, ← en.2.2.2.1, ← ed]
  have hin : ∀ m, T 100 (T 102 p 0) 7 ≤ m → m < T 100 (T 102 p 0) 7 + T 100 (T 102 p 0) 8 → 0 ≤ m ∧ m < T 106 0 4 := fun m a b => by omega
  have hr : ∀ m, T 100 (T 102 p 0) 7 ≤ m → m < T 100 (T 102 p 0) 7 + T 100 (T 102 p 0) 8 → (rlH_ T q m ↔ rlR_ T q m) := fun m a b => by
    have i := hin m a b
    have mm := hM.2 m i.1 i.2
    have dd := hD m i.1 i.2
    have pd := pm_d (hP.1 m i.1 i.2).2
    have h3 : 0 ≤ T 102 m 3 := (bd_f hT 102 3 tl_2_3 m).1
    have h4 : 0 ≤ T 102 m 4 := (bd_f hT 102 4 tl_2_4 m).1
    unfold rlH_ rlR_
    rw [← dd, pd, ← mm.2.2.1, ← mm.2.2.2]
    constructor
    · rintro ⟨u, v⟩
      exact ⟨u, by omega, by omega⟩
    · rintro ⟨u, v, w⟩
      exact ⟨u, by omega⟩
  refine congrArg Prod.fst (bf_c (fun m a b => ?_) hr (fun m a b r => ?_) _)
  · exact hD m (hin m a b).1 (hin m a b).2
  · have i := hin m a b
    have g := hP.1 m i.1 i.2
    have k := kd_q (q := q) i.1 g.1 g.2 r.1
    exact sbn_e k.1 (fun y => k.2 (k.1.trans y))
theorem els_q {T : Zt} {q p : Int} (hP : PLR_ T) (hM : MAR_ T) (hD : DAR_ T) (hp : 0 ≤ p ∧ p < T 106 0 4) : elsH_ T q p ↔ elsR_ T q p := by
  have ed := hD p hp.1 hp.2
  constructor
  · rintro ⟨k, k0, k1, k2, k3, k4, k5⟩
    have g := hP.1 k k0 k1
    refine ⟨k, k0, by have := hM.1; omega, k2, by have := hD k k0 k1; omega, (pm_3 g.2).mp k4, ?_⟩
    rcases pl_sl (q := q) k0 g.1 with y | ⟨t, y⟩
    · exact absurd y.1 k5
    · omega
  · rintro ⟨k, k0, k1, k2, k3, k4, k5⟩
    have k1' : k < T 106 0 4 := by have := hM.1; omega
    have g := hP.1 k k0 k1'
    refine ⟨k, k0, k1', k2, by have := hD k k0 k1'; omega, (pm_3 g.2).mpr k4, ?_⟩
    rcases pl_sl (q := q) k0 g.1 with y | ⟨t, y⟩
    · exact absurd y.2 k5
    · omega
theorem cz_e {A : Type} {P Q : Prop} {x y : A} (h : P ↔ Q) : cz_ P x y = cz_ Q x y := by rw [propext h]
/-- the reason is the same -/
theorem wy_q {T : Zt} {N q p d : Int} (hT : ok_T T) (hI : IC_ N T) (hP : PLR_ T) (hX : TXR_ T) (hM : MAR_ T) (hE : ENR_ T) (hD : DAR_ T) (hp : 0 ≤ p ∧ p < T 106 0 4) : wyH_ T q p d = wyR_ T q p d := by
  have ed := hD p hp.1 hp.2
  have mm := hM.2 p hp.1 hp.2
  have g := hP.1 p hp.1 hp.2
  have sl : plc_ T p q ≠ -1 ↔ slc_ T p q ≠ -1 := by
    rcases pl_sl (q := q) hp.1 g.1 with y | ⟨t, y⟩
    · omega
    · omega
  unfold wyH_ wyR_
  rw [ed, mm.2.2.1, mm.2.2.2, bn_q hT hI hP hX hM hE hD hp, cz_e (els_q hP hM hD hp), cz_e sl]
/-- what the reason of the reference hangs on -/
theorem wyR_k {T T' : Zt} {q p d : Int} (e : ∀ (k : Nat) (j : Int), 200 ≤ k → k ≤ 256 → T' k 0 j = T k 0 j) (e16 : T' 111 0 16 = T 111 0 16) (e29 : T' 111 0 29 = T 111 0 29) : wyR_ T' q p d = wyR_ T q p d := by
  have c : ∀ q d, co9_c T' q d = co9_c T q d := fun q d => coc_k (fun k j h => e k j (by omega) (by omega)) e16
  have rp : ∀ m, rp9_ T' m = rp9_ T m := fun m => rp_x (fun K j h => e K j (by omega) (by omega))
  have s : ∀ m q, slc_ T' m q = slc_ T m q := fun m q => by
    unfold slc_
    rw [rp]
  have e34 : ∀ m, T' 234 0 m = T 234 0 m := fun m => e 234 m (by decide) (by decide)
  have e35 : ∀ m, T' 235 0 m = T 235 0 m := fun m => e 235 m (by decide) (by decide)
  have e32 : ∀ m, T' 232 0 m = T 232 0 m := fun m => e 232 m (by decide) (by decide)
  have e33 : ∀ m, T' 233 0 m = T 233 0 m := fun m => e 233 m (by decide) (by decide)
  have kd : kdR_ T' q = kdR_ T q := by
    funext m
    unfold kdR_
    rw [s, e35, e 243 _ (by decide) (by decide)]
  have yv : yvR_ T' q = yvR_ T q := by
    funext m
    unfold yvR_
    rw [s, e 242 _ (by decide) (by decide)]
  have rl : rlR_ T' q = rlR_ T q := by
    funext m
    unfold rlR_
    rw [c, e34, e35, e32, e33]
  have dy : (fun m => T' 234 0 m) = fun m => T 234 0 m := funext e34
  have bn : bnR_ T' q p = bnR_ T q p := by
    unfold bnR_
    rw [kd, yv, rl, dy, e34, e 230 p (by decide) (by decide), e 205 _ (by decide) (by decide), e 205 _ (by decide) (by decide), e 210 _ (by decide) (by decide), e 211 _ (by decide) (by decide)]
  have el : elsR_ T' q p ↔ elsR_ T q p := by
    unfold elsR_
    rw [e29, e34 p]
    constructor
    · rintro ⟨k, k0, k1, k2, k3, k4, k5⟩
      rw [e34] at k3
      rw [e35] at k4
      rw [s] at k5
      exact ⟨k, k0, k1, k2, k3, k4, k5⟩
    · rintro ⟨k, k0, k1, k2, k3, k4, k5⟩
      rw [← e34] at k3
      rw [← e35] at k4
      rw [← s] at k5
      exact ⟨k, k0, k1, k2, k3, k4, k5⟩
  unfold wyR_
  rw [c, e34, e32, e33, bn, s, cz_e el]
theorem kn9_ (k : Nat) (j : Int) (h : k < 400) : fw_ [(448, []), (449, []), (533, [])] k j = false ∧ fw_ [(533, [])] k j = false := by
  have a : ∀ n : Nat, 400 ≤ n → (k == n) = false := fun n b => by
    rw [beq_eq_false_iff_ne]
    omega
  constructor <;> simp [fw_, a 448 (by decide), a 449 (by decide), a 533 (by decide)]
/-- whether a person may play -/
theorem pl_elig {T T1 : Zt} {N q m t x1 x2 : Int} (hT : ok_T T) (hI : IC_ N T) (hP : PLR_ T) (hX : TXR_ T) (hM : MAR_ T) (hE : ENR_ T) (hD : DAR_ T) (hN : CNR_ T) (f1 : fr_ [(533, [])] T T1) (d1 : ((x1 = -2 ∧ ¬ ((0 ≤ q ∧ q < T 108 0 3) ∧ 0 ≤ m ∧ m < T 106 0 4)) ∨ (((0 ≤ q ∧ q < T 108 0 3) ∧ 0 ≤ m ∧ m < T 106 0 4) ∧ ((x1 = -3 ∧ ¬ (0 ≤ t ∧ t ≤ 1)) ∨ ((0 ≤ t ∧ t ≤ 1) ∧ x1 = wyH_ T q m t))))) (d2 : ((x2 = -2 ∧ ¬ ((0 ≤ q ∧ q < T1 111 0 15) ∧ 0 ≤ m ∧ m < T1 111 0 29)) ∨ (((0 ≤ q ∧ q < T1 111 0 15) ∧ 0 ≤ m ∧ m < T1 111 0 29) ∧ ((x2 = -3 ∧ ¬ (0 ≤ t ∧ t ≤ 1)) ∨ ((0 ≤ t ∧ t ≤ 1) ∧ x2 = wyR_ T1 q m t))))) : x1 = x2 := by
  have mm := hM.1
  have c29 : T1 111 0 29 = T 111 0 29 := f1 111 0 29 rfl
  have c15 : T1 111 0 15 = T 111 0 15 := f1 111 0 15 rfl
  have n2 := hN.2.1
  rcases d1 with ⟨rfl, a⟩ | ⟨a, d1⟩
  · rcases d2 with ⟨rfl, -⟩ | ⟨b, -⟩
    · rfl
    · exfalso; omega
  · obtain ⟨-, d2⟩ := d2.resolve_left (fun z => z.2 (by omega))
    have k : wyR_ T1 q m t = wyR_ T q m t := wyR_k (fun k j a b => f1 k 0 j (kn9_ k j (by omega)).2) (f1 111 0 16 rfl) c29
    rw [k, ← wy_q hT hI hP hX hM hE hD a.2] at d2
    omega
/-- a line-up -/
theorem pl_line {T T1 T2 : Zt} {N q m t x1 x2 : Int} (hT : ok_T T) (hI : IC_ N T) (hR : IR_ T) (hP : PLR_ T) (hL : LDR_ T) (hX : TXR_ T) (hM : MAR_ T) (hE : ENR_ T) (hD : DAR_ T) (hN : CNR_ T) (f1 : fr_ [(448, []), (449, []), (533, [])] T T1) (d1 : ((x1 = -2 ∧ ¬ ((0 ≤ q ∧ q < T 108 0 3) ∧ 0 ≤ m ∧ m < T 106 0 4) ∧ SHN_ T T1) ∨ (((0 ≤ q ∧ q < T 108 0 3) ∧ 0 ≤ m ∧ m < T 106 0 4) ∧ ((x1 = -3 ∧ ¬ (0 ≤ t ∧ t ≤ 1) ∧ SHN_ T T1) ∨ ((0 ≤ t ∧ t ≤ 1) ∧ ((x1 = -4 ∧ ¬ (T 102 m 6 = -1 ∧ T 102 m 10 = 0) ∧ SHN_ T T1) ∨ ((T 102 m 6 = -1 ∧ T 102 m 10 = 0) ∧ ((x1 = -5 ∧ T 401 (T 102 m 0) 9 + 4 ≤ T 449 m t ∧ SHN_ T T1) ∨ (T 449 m t < T 401 (T 102 m 0) 9 + 4 ∧ ((wyH_ T q m t ≠ 0 ∧ x1 = -10 - wyH_ T q m t ∧ SHN_ T T1) ∨ (wyH_ T q m t = 0 ∧ x1 = T 449 m t + 1 ∧ SHH_ T T1 m t q))))))))))) (f2 : fr_ [(239, []), (240, [])] T1 T2) (d2 : ((SH_ T2 ∧ ∀ z, T1 239 0 z ≤ T2 239 0 z) ∧ ((x2 = -2 ∧ ¬ ((0 ≤ q ∧ q < T1 111 0 15) ∧ 0 ≤ m ∧ m < T1 111 0 29) ∧ T1 = T2) ∨ (((0 ≤ q ∧ q < T1 111 0 15) ∧ 0 ≤ m ∧ m < T1 111 0 29) ∧ ((x2 = -3 ∧ ¬ (0 ≤ t ∧ t ≤ 1) ∧ T1 = T2) ∨ ((0 ≤ t ∧ t ≤ 1) ∧ ((x2 = -4 ∧ T1 235 0 m ≠ 0 ∧ T1 = T2) ∨ (T1 235 0 m = 0 ∧ ((x2 = -5 ∧ T1 239 0 (2 * m + t) = T1 205 0 (23 * T1 230 0 m + 9) + 4 ∧ T1 = T2) ∨ (T1 239 0 (2 * m + t) ≠ T1 205 0 (23 * T1 230 0 m + 9) + 4 ∧ ((wyR_ T1 q m t ≠ 0 ∧ x2 = -10 - wyR_ T1 q m t ∧ T1 = T2) ∨ (wyR_ T1 q m t = 0 ∧ x2 = T1 239 0 (2 * m + t) + 1 ∧ SRR_ T1 T2 m t q)))))))))))) : x1 = x2 ∧ PLR_ T2 := by
  have mm := hM.1
  have c4 : T1 106 0 4 = T 106 0 4 := f1 106 0 4 rfl
  have c29 : T1 111 0 29 = T 111 0 29 := f1 111 0 29 rfl
  have c15 : T1 111 0 15 = T 111 0 15 := f1 111 0 15 rfl
  have v4 : T2 106 0 4 = T1 106 0 4 := f2 106 0 4 rfl
  have v29 : T2 111 0 29 = T1 111 0 29 := f2 111 0 29 rfl
  have n2 := hN.2.1
  have kR : ∀ j, KRM_ T T1 j := fun j => kqm_s (ks_f f1 (by decide +kernel))
  have kH : ∀ j, KHM_ T1 T2 j := fun j => khm_s (ks_f f2 (by decide +kernel))
  obtain ⟨-, d2⟩ := d2
  have stay : SHN_ T T1 → T1 = T2 → PLR_ T2 := fun s e => by
    subst e
    refine plr_s (m := -1) hP c4 c29 (fun z => absurd z (by decide)) (fun j _ _ _ => ⟨?_, kR j⟩) (fun j _ _ => ⟨f1 236 0 j rfl, f1 237 0 j rfl⟩)
    refine ⟨fun K i d => ?_, ⟨f1 102 j 0 rfl, f1 102 j 6 rfl, f1 102 j 10 rfl⟩, ⟨f1 103 j 0 rfl, f1 103 j 14 rfl, f1 103 j 15 rfl, f1 103 j 17 rfl⟩, fun w => f1 401 _ w rfl, fun _ i _ _ => f1 190 _ i rfl⟩
    rcases dk_c d with rfl | rfl | rfl | rfl | rfl | rfl | rfl | rfl | rfl | rfl | ⟨rfl, _⟩
    · exact s.1 j i
    · exact s.2 j i
    all_goals exact f1 _ j i rfl
  rcases d1 with ⟨rfl, a, s⟩ | ⟨a, d1⟩
  · rcases d2 with ⟨rfl, -, e⟩ | ⟨b, -⟩
    · exact ⟨rfl, stay s e⟩
    · exfalso; omega
  · obtain ⟨-, d2⟩ := d2.resolve_left (fun z => z.2.1 (by omega))
    have hm := a.2
    have g := hP.1 m hm.1 hm.2
    rcases d1 with ⟨rfl, b, s⟩ | ⟨b, d1⟩
    · rcases d2 with ⟨rfl, -, e⟩ | ⟨y, -⟩
      · exact ⟨rfl, stay s e⟩
      · exact absurd y b
    · obtain ⟨-, d2⟩ := d2.resolve_left (fun z => z.2.1 b)
      have t7 := pm_0 g.2
      have t2 : T1 235 0 m = T 235 0 m := f1 235 0 m rfl
      rcases d1 with ⟨rfl, c, s⟩ | ⟨c, d1⟩
      · rcases d2 with ⟨rfl, -, e⟩ | ⟨y, -⟩
        · exact ⟨rfl, stay s e⟩
        · exfalso; omega
      · obtain ⟨-, d2⟩ := d2.resolve_left (fun z => z.2.1 (by omega))
        have hc : 0 ≤ T 102 m 0 ∧ T 102 m 0 < T 106 0 2 := (hI.1.2.1 m hm.1 hm.2).2
        have e230 : T1 230 0 m = T 102 m 0 := (f1 230 0 m rfl).trans (hM.2 m hm.1 hm.2).1.symm
        have e9 : T1 205 0 (23 * T1 230 0 m + 9) = T 401 (T 102 m 0) 9 := by
          rw [e230, f1 205 0 (23 * T 102 m 0 + 9) rfl]
          exact ((hX.2.2.2.2 _ hc.1 hc.2).1 9 (by decide) (by decide)).symm
        have sm := g.1.1 t b.1 b.2
        have e39 : T1 239 0 (2 * m + t) = T 239 0 (2 * m + t) := f1 239 0 _ rfl
        have sh := (hR.2.2.2.2.2.2.1 m t hm.1 (by have n4 : T 106 0 4 ≤ 400 := (bd_f hT 106 4 tl_6_4 0).2; omega) b.1 b.2).1 (by omega)
        have e9b : T 205 0 (23 * T 230 0 m + 9) = T 401 (T 102 m 0) 9 := by
          rw [← (hM.2 m hm.1 hm.2).1]
          exact ((hX.2.2.2.2 _ hc.1 hc.2).1 9 (by decide) (by decide)).symm
        have kr := hI.1.2.2.2.1 _ hc.1 hc.2
        have k : wyR_ T1 q m t = wyH_ T q m t := (wyR_k (fun k j a b => f1 k 0 j (kn9_ k j (by omega)).1) (f1 111 0 16 rfl) c29).trans (wy_q hT hI hP hX hM hE hD hm).symm
        rw [e9, k] at d2
        rcases d1 with ⟨rfl, u, s⟩ | ⟨u, d1⟩
        · rcases d2 with ⟨rfl, -, e⟩ | ⟨y, -⟩
          · exact ⟨rfl, stay s e⟩
          · exfalso; omega
        · obtain ⟨-, d2⟩ := d2.resolve_left (fun z => by have := z.2.1; omega)
          rcases d1 with ⟨w, e1, s⟩ | ⟨w, e1, s⟩
          · rcases d2 with ⟨-, e2, e⟩ | ⟨y, -⟩
            · exact ⟨by omega, stay s e⟩
            · exact absurd y w
          · rcases d2 with ⟨y, -⟩ | ⟨-, e2, s2⟩
            · exact absurd w y
            · have pn : plc_ T m q = -1 := by
                refine Classical.byContradiction (fun z => ?_)
                by_cases o1 : co9_c T q (T 102 m 5) ≠ cz_ (t = 0) (T 102 m 3) (T 102 m 4)
                · rw [wyH_1 o1] at w; exact absurd w (by decide)
                · by_cases o2 : 0 < bnH_ T q m
                  · rw [wyH_2 o1 o2] at w; exact absurd w (by decide)
                  · rw [wyH_3 o1 o2 z] at w; exact absurd w (by decide)
              have pa : PAA_ T m := by
                rcases g.2 with y | y | y
                · exact y
                · exfalso; have := y.2.1; omega
                · exact absurd c.2 y.2.1
              obtain ⟨s1, s3, s4, s5⟩ := s
              obtain ⟨r1, r3, r4, r5⟩ := s2
              have e49 : ∀ i j, T2 449 i j = T1 449 i j := fun i j => f2 449 i j rfl
              have e48 : ∀ i j, T2 448 i j = T1 448 i j := fun i j => f2 448 i j rfl
              have k39 : ∀ j, T1 239 0 j = T 239 0 j := fun j => f1 239 0 j rfl
              have k40 : ∀ j, T1 240 0 j = T 240 0 j := fun j => f1 240 0 j rfl
              have nq : ∀ y, t * 10 ≤ y → y < t * 10 + T 449 m t → T 448 m y ≠ q := fun y y0 y1 e => by
                have p0 := pl_sl1 (q := q) g.1 (s := 0) (by decide) (by decide)
                by_cases o1 : plN_ T m q 0 (T 449 m 0).toNat 0 = -1
                · rw [plc_1 o1] at pn
                  rcases (by omega : t = 0 ∨ t = 1) with tc | tc
                  · rw [tc] at y0 y1
                    have n := plN_n (T 449 m 0).toNat 0 (by decide) (by decide) o1 y (by omega) (by omega)
                    rw [show (0 : Int) * 10 + y = y by omega] at n
                    exact n e
                  · rw [tc] at y0 y1
                    have n := plN_n (T 449 m 1).toNat 0 (by decide) (by decide) pn (y - 10) (by omega) (by omega)
                    rw [show (1 : Int) * 10 + (y - 10) = y by omega] at n
                    exact n e
                · rw [plc_0 o1] at pn
                  exact o1 pn
              refine ⟨by omega, plr_s (m := m) hP (by omega) (by omega) (fun _ _ => ⟨⟨fun t' u0 u1 => ?_, fun t' x u0 u1 x0 x1 => ?_, fun t' x y u0 u1 x0 x1 y0 y1 e => ?_⟩, Or.inl ?_⟩) (fun j j0 j1 nj => ⟨?_, ?_⟩) (fun j _ _ => ⟨(f2 236 0 j rfl).trans (f1 236 0 j rfl), (f2 237 0 j rfl).trans (f1 237 0 j rfl)⟩)⟩
              · have y := g.1.1 t' u0 u1
                rw [e49]
                by_cases o1 : t' = t
                · rw [o1] at y ⊢
                  omega
                · rw [r5 _ (by omega), k39, s5 m t' (fun z => o1 z.2)]
                  exact y
              · have y := g.1.1 t' u0 u1
                rw [e49] at x1
                rw [e48]
                by_cases o1 : t' = t
                · rw [o1] at x0 x1 y
                  rw [s3] at x1
                  by_cases o2 : x = t * 10 + T 449 m t
                  · rw [o2, s1, show 20 * m + (t * 10 + T 449 m t) = 10 * (2 * m + t) + T1 239 0 (2 * m + t) by omega]
                    exact r1
                  · rw [r4 _ (by omega), k40, s4 m x (fun z => o2 z.2)]
                    exact g.1.2.1 t x b.1 b.2 x0 (by omega)
                · rw [s5 m t' (fun z => o1 z.2)] at x1
                  rw [r4 _ (by omega), k40, s4 m x (fun z => by have := z.2; omega)]
                  exact g.1.2.1 t' x u0 u1 x0 x1
              · have y9 := g.1.1 t' u0 u1
                rw [e49] at x1 y1
                rw [e48, e48] at e
                by_cases o1 : t' = t
                · rw [o1] at x0 x1 y0 y1
                  rw [s3] at x1 y1
                  by_cases o2 : x = t * 10 + T 449 m t
                  · by_cases o3 : y = t * 10 + T 449 m t
                    · omega
                    · rw [o2, s1, s4 m y (fun z => o3 z.2)] at e
                      exact absurd e.symm (nq y y0 (by omega))
                  · by_cases o3 : y = t * 10 + T 449 m t
                    · rw [o3, s1, s4 m x (fun z => o2 z.2)] at e
                      exact absurd e (nq x x0 (by omega))
                    · rw [s4 m x (fun z => o2 z.2), s4 m y (fun z => o3 z.2)] at e
                      exact g.1.2.2 t x y b.1 b.2 x0 (by omega) y0 (by omega) e
                · rw [s5 m t' (fun z => o1 z.2)] at x1 y1
                  rw [s4 m x (fun z => by have := z.2; omega), s4 m y (fun z => by have := z.2; omega)] at e
                  exact g.1.2.2 t' x y u0 u1 x0 x1 y0 y1 e
              · unfold PAA_ at pa ⊢
                rw [f2 102 m 6 rfl, f1 102 m 6 rfl, f2 102 m 10 rfl, f1 102 m 10 rfl, f2 235 0 m rfl, f1 235 0 m rfl, f2 236 0 m rfl, f1 236 0 m rfl, f2 237 0 m rfl, f1 237 0 m rfl, f2 254 0 m rfl, f1 254 0 m rfl, f2 256 0 m rfl, f1 256 0 m rfl]
                exact pa
              · refine khm_t ⟨fun K i d => ?_, ⟨f1 102 j 0 rfl, f1 102 j 6 rfl, f1 102 j 10 rfl⟩, ⟨f1 103 j 0 rfl, f1 103 j 14 rfl, f1 103 j 15 rfl, f1 103 j 17 rfl⟩, fun w => f1 401 _ w rfl, fun _ i _ _ => f1 190 _ i rfl⟩ (kH j)
                rcases dk_c d with rfl | rfl | rfl | rfl | rfl | rfl | rfl | rfl | rfl | rfl | ⟨rfl, _⟩
                · exact s4 j i (fun z => nj z.1)
                · exact s5 j i (fun z => nj z.1)
                all_goals exact f1 _ j i rfl
              · refine kqm_t (kR j) ⟨?_, rw_k (fun k x c => by rcases c with rfl | rfl | rfl | rfl <;> exact f2 _ 0 x rfl) (fun x => f2 252 0 x rfl) (f2 253 0 j rfl) (f2 254 0 j rfl), f2 254 0 j rfl, f2 256 0 j rfl⟩
                funext K i
                by_cases y : dm_ K i = true
                · rw [rp_d y, rp_d y]
                  rcases dm_c y with ⟨z1, z2, z3, z4, z5⟩ | ⟨z1, z2, z3, z4, z5⟩ | ⟨z1, z2, z3, z4, z5⟩ | ⟨z1, z2, z3, z4, z5⟩ | ⟨z1, z2, z3, z4, z5⟩ | ⟨z1, z2, z3, z4, z5⟩ | ⟨z1, z2, z3, z4, z5⟩ | ⟨z1, z2, z3, z4, z5⟩ | ⟨z1, z2, z3, z4, z5⟩ | ⟨z1, z2, z3, z4, z5⟩ | ⟨z1, z2, z4, z5⟩ | ⟨z1, z2, z4, z5⟩ | ⟨z1, z2, z4, z5⟩ | ⟨z1, z2, z4, z5⟩ | ⟨z1, z2, z4, z5⟩ <;> rw [z4, z5] <;> first | exact f2 _ 0 _ rfl | exact r5 _ (by omega) | exact r4 _ (by omega)
                · rw [rp_z y, rp_z y]
-- postponements, plans, competitions, referees and title: the plays stay alike
/-- each match is of clubs that are there -/
def CLM_ (T : Zt) : Prop := ∀ m, 0 ≤ m → m < T 106 0 4 → T 102 m 3 < T 108 0 2 ∧ T 102 m 4 < T 108 0 2
theorem sa_q {T T1 : Zt} {N : Int} {f f' : Int → Int} {a b x : Int} (hT : ok_T T) (hI : IC_ N T) (hP : PLR_ T) (hX : TXR_ T) (hM : MAR_ T) (hH : THR_ T) (hC : CLM_ T) (e : ∀ (k : Nat) (j : Int), k = 205 ∨ k = 213 ∨ k = 230 ∨ k = 232 ∨ k = 233 ∨ k = 235 → T1 k 0 j = T k 0 j) (a0 : 0 ≤ a) (a1 : a < T 106 0 4) (b0 : 0 ≤ b) (b1 : b < T 106 0 4) (hf : f' b = f b) : SAR_ T1 f' a b x ↔ SAH_ T f a b x := by
  have ma := hM.2 a a0 a1
  have mb := hM.2 b b0 b1
  have ca := (hI.1.2.1 a a0 a1).2
  have cb := (hI.1.2.1 b b0 b1).2
  have na : 0 ≤ T 102 a 3 := (bd_f hT 102 3 tl_2_3 a).1
  have nb : 0 ≤ T 102 b 3 := (bd_f hT 102 3 tl_2_3 b).1
  have ta := (hH.1 _ na (hC a a0 a1).1).1
  have tb := (hH.1 _ nb (hC b b0 b1).1).1
  unfold SAR_ SAH_
  refine sa_e ?_ ?_ ⟨?_, ?_⟩ ?_ ?_ hf
  · unfold sqR_ sqH_
    rw [e 213 _ (by decide), e 213 _ (by decide), e 232 _ (by decide), e 232 _ (by decide), ← ma.2.2.1, ← mb.2.2.1, ta, tb]
  · unfold hqR_ hqH_
    rw [e 232 a (by decide), e 232 b (by decide), e 233 a (by decide), e 233 b (by decide), ← ma.2.2.1, ← mb.2.2.1, ← ma.2.2.2, ← mb.2.2.2]
    constructor
    · intro u; omega
    · intro u; omega
  · unfold rsR_ rsH_
    rw [e 205 _ (by decide), e 230 _ (by decide), ← ma.1]
    exact ((hX.2.2.2.2 _ ca.1 ca.2).1 8 (by decide) (by decide)).symm
  · unfold rsR_ rsH_
    rw [e 205 _ (by decide), e 230 _ (by decide), ← mb.1]
    exact ((hX.2.2.2.2 _ cb.1 cb.2).1 8 (by decide) (by decide)).symm
  · unfold abR_ abH_
    rw [e 235 _ (by decide)]
    exact (pm_3 (hP.1 a a0 a1).2).symm
  · unfold abR_ abH_
    rw [e 235 _ (by decide)]
    exact (pm_3 (hP.1 b b0 b1).2).symm
/-- a match put off -/
theorem pl_post {T T1 T2 : Zt} {N m d x1 x2 : Int} (hT : ok_T T) (hI : IC_ N T) (hP : PLR_ T) (hX : TXR_ T) (hM : MAR_ T) (hH : THR_ T) (hC : CLM_ T) (hD : DAR_ T) (hV : MVR_ T) (hN : CNR_ T) (f1 : fr_ [(535, []), (534, []), (102, [5]), (533, []), (531, []), (106, [12])] T T1) (d1 : ((x1 = -2 ∧ ¬ (0 ≤ m ∧ m < T 106 0 4) ∧ T = T1) ∨ ((0 ≤ m ∧ m < T 106 0 4) ∧ ((x1 = -3 ∧ ¬ (T 108 0 13 < d ∧ d ≤ 999 ∧ 0 ≤ d) ∧ T = T1) ∨ ((T 108 0 13 < d ∧ d ≤ 999 ∧ 0 ≤ d) ∧ ((x1 = -4 ∧ ¬ ((T 102 m 6 = -1 ∧ T 102 m 10 = 0) ∧ T 102 m 5 ≠ d) ∧ T = T1) ∨ (((T 102 m 6 = -1 ∧ T 102 m 10 = 0) ∧ T 102 m 5 ≠ d) ∧ PTO_ T T1 m d x1))))))) (f2 : fr_ [(234, []), (271, []), (272, []), (111, [73, 75]), (274, [])] T1 T2) (d2 : ((x2 = -2 ∧ ¬ (0 ≤ m ∧ m < T1 111 0 29) ∧ T1 = T2) ∨ ((0 ≤ m ∧ m < T1 111 0 29) ∧ ((x2 = -3 ∧ ¬ (T1 111 0 3 < d ∧ d ≤ 999 ∧ 0 ≤ d) ∧ T1 = T2) ∨ ((T1 111 0 3 < d ∧ d ≤ 999 ∧ 0 ≤ d) ∧ ((x2 = -4 ∧ ¬ (T1 235 0 m = 0 ∧ T1 234 0 m ≠ d) ∧ T1 = T2) ∨ ((T1 235 0 m = 0 ∧ T1 234 0 m ≠ d) ∧ PTQ_ T1 T2 m d x2))))))) : x1 = x2 ∧ DAR_ T2 ∧ MVR_ T2 := by
  have c4 : T1 106 0 4 = T 106 0 4 := f1 106 0 4 rfl
  have c29 : T1 111 0 29 = T 111 0 29 := f1 111 0 29 rfl
  have c3 : T1 111 0 3 = T 111 0 3 := f1 111 0 3 rfl
  have v4 : T2 106 0 4 = T1 106 0 4 := f2 106 0 4 rfl
  have v5 : ∀ i, T2 102 i 5 = T1 102 i 5 := fun i => f2 102 i 5 rfl
  have v12 : T2 106 0 12 = T1 106 0 12 := f2 106 0 12 rfl
  have v31 : ∀ j, T2 531 0 j = T1 531 0 j := fun j => f2 531 0 j rfl
  have c34 : ∀ j, T1 234 0 j = T 234 0 j := fun j => f1 234 0 j rfl
  have c74 : ∀ j, T1 274 0 j = T 274 0 j := fun j => f1 274 0 j rfl
  have c75 : T1 111 0 75 = T 111 0 75 := f1 111 0 75 rfl
  have c35 : ∀ j, T1 235 0 j = T 235 0 j := fun j => f1 235 0 j rfl
  have mm := hM.1
  have t6 := hN.2.2.2
  have m4 : 0 ≤ T 106 0 4 ∧ T 106 0 4 ≤ 400 := bd_f hT 106 4 tl_6_4 0
  rcases d1 with ⟨rfl, hn, rfl⟩ | ⟨hm, d1⟩
  · rcases d2 with ⟨rfl, -, rfl⟩ | ⟨hm2, -⟩
    · exact ⟨rfl, hD, hV⟩
    · exfalso; omega
  · obtain ⟨-, d2⟩ := d2.resolve_left (fun z => z.2.1 (by omega))
    rcases d1 with ⟨rfl, a, rfl⟩ | ⟨a, d1⟩
    · rcases d2 with ⟨rfl, -, rfl⟩ | ⟨y, -⟩
      · exact ⟨rfl, hD, hV⟩
      · exfalso; omega
    · obtain ⟨-, d2⟩ := d2.resolve_left (fun z => z.2.1 (by omega))
      have t7 := pm_0 (hP.1 m hm.1 hm.2).2
      have t5 := hD m hm.1 hm.2
      have u5 := c34 m
      have u6 := c35 m
      rcases d1 with ⟨rfl, b, rfl⟩ | ⟨b, d1⟩
      · rcases d2 with ⟨rfl, -, rfl⟩ | ⟨y, -⟩
        · exact ⟨rfl, hD, hV⟩
        · exfalso; omega
      · obtain ⟨-, d2⟩ := d2.resolve_left (fun z => z.2.1 (by omega))
        have ee : ∀ (k : Nat) (j : Int), k = 205 ∨ k = 213 ∨ k = 230 ∨ k = 232 ∨ k = 233 ∨ k = 235 → T1 k 0 j = T k 0 j := fun k j h => by
          rcases h with rfl | rfl | rfl | rfl | rfl | rfl <;> exact f1 _ 0 j rfl
        have dq : ∀ j, 0 ≤ j → j < T 106 0 4 → T1 234 0 j = T 102 j 5 := fun j j0 j1 => (c34 j).trans (hD j j0 j1).symm
        have ag : ∀ k, 0 ≤ k → k < T 106 0 4 → (AGR_ T1 m d k ↔ AGH_ T m d k) := fun k k0 k1 => sa_q hT hI hP hX hM hH hC ee hm.1 hm.2 k0 k1 (dq k k0 k1)
        have bk : ∀ (f f' : Int → Int) (k x : Int), (∀ j, 0 ≤ j → j < T 106 0 4 → f' j = f j) → 0 ≤ k → k < T 106 0 4 → (BKR_ T1 f' k x ↔ BKH_ T f k x) := fun f f' k x h k0 k1 => by
          unfold BKR_ BKH_ BK_
          constructor
          · rintro ⟨z, z0, z1, z2⟩
            exact ⟨z, z0, by omega, (sa_q hT hI hP hX hM hH hC ee k0 k1 z0 (by omega) (h z z0 (by omega))).mp z2⟩
          · rintro ⟨z, z0, z1, z2⟩
            exact ⟨z, z0, by omega, (sa_q hT hI hP hX hM hH hC ee k0 k1 z0 z1 (h z z0 z1)).mpr z2⟩
        have mv := mv_e (bk := BKH_ T) (bk' := BKR_ T1) (ag := AGH_ T m d) (ag' := AGR_ T1 m d) (d := d) (day := u1_ (fun m => T 102 m 5) m d) (day' := u1_ (fun m => T1 234 0 m) m d) (n := T 106 0 4) (fun j j0 j1 => by
          by_cases z : j = m
          · rw [z, u1_s, u1_s]
          · rw [u1_n z, u1_n z]
            exact dq j j0 j1) ag bk (T 106 0 4).toNat (by omega)
        have tl : (∀ k, 0 ≤ k → k < T1 111 0 29 → AGR_ T1 m d k → TLR_ T1 k) ↔ (∀ k, 0 ≤ k → k < T 106 0 4 → AGH_ T m d k → TLD_ T k) := by
          constructor
          · intro h k k0 k1 k2
            have y : T1 235 0 k = 0 := h k k0 (by omega) ((ag k k0 k1).mpr k2)
            exact (pm_0 (hP.1 k k0 k1).2).mpr ((c35 k).symm.trans y)
          · intro h k k0 k1 k2
            have k1' : k < T 106 0 4 := by omega
            show T1 235 0 k = 0
            rw [c35]
            exact (pm_0 (hP.1 k k0 k1').2).mp (h k k0 k1' ((ag k k0 k1').mp k2))
        have e2 : (mvR_ T1 m d (T1 111 0 29)).2 = (mvH_ T m d (T 106 0 4)).2 := by
          unfold mvR_ mvH_
          rw [show T1 111 0 29 = T 106 0 4 by omega]
          exact mv.1
        have e3 : ∀ j, 0 ≤ j → j < T 106 0 4 → (mvR_ T1 m d (T1 111 0 29)).1 j = (mvH_ T m d (T 106 0 4)).1 j := fun j j0 j1 => by
          unfold mvR_ mvH_
          rw [show T1 111 0 29 = T 106 0 4 by omega]
          exact mv.2 j j0 j1
        unfold PTO_ at d1
        unfold PTQ_ at d2
        rw [tl, e2] at d2
        rcases d1 with ⟨x, y, z1, z2, z3⟩ | ⟨x, y1, y2, z1, z2, z3, z4⟩
        · rcases d2 with ⟨u, -, w1, w2, w3⟩ | ⟨-, u1, u2, -⟩
          · refine ⟨by omega, fun j j0 j1 => ?_, ?_, fun k k0 k1 => ?_⟩
            · rw [v5, z1, w1, c34]
              exact hD j j0 (by omega)
            · have := hV.1; omega
            · rw [v31, z2, w2, c74]
              exact hV.2 k k0 (by omega)
          · exact absurd ⟨u1, u2⟩ y
        · rcases d2 with ⟨-, u, -⟩ | ⟨u, -, -, w1, w2, w3⟩
          · exact absurd ⟨y1, y2⟩ u
          · rw [show T1 111 0 29 = T 106 0 4 by omega] at w2
            have lq := lhd_q z3 w2 (fun j j0 j1 => (ag j (by omega) (by omega)).symm) x u
            refine ⟨lq.1, fun j j0 j1 => ?_, by omega, fun k k0 k1 => ?_⟩
            · rw [v5, z1, w1]
              exact (e3 j j0 (by omega)).symm
            · rw [v31]
              exact lq.2 k k0 (by omega)
/-- what both plans do -/
theorem enr_b {T T1 T2 : Zt} {c f x1 x2 : Int} (h : ENR_ T) (hm : MAR_ T) (ht : TXR_ T) (hd : T 108 0 13 = T 111 0 3) (hd0 : 0 ≤ T 108 0 13) (h0 : 0 ≤ T 106 0 4) (hb5 : ∀ d, 0 ≤ T 100 d 5 ∧ T 100 d 5 ≤ 12) (d1 : PH9_ T T1 c f x1) (r : krn_ T T1) (rp : krp_ T T1) (rt : ktr_ T T1) (r3 : T1 111 0 3 = T 111 0 3) (d2 : PR9_ T1 T2 c f x2) (s2 : (x2 < 0 ∧ T2 = T1) ∨ PQ9_ T1 T2 c) : (T1 = T ∧ T2 = T1) ∨ ((0 ≤ c ∧ c < T 106 0 2) ∧ SJ_ T T1 c ∧ PQ9_ T1 T2 c ∧ ∃ l, AP9_ T T1 c l ∧ AR9_ T1 T2 c l) := by
  obtain ⟨t1, t2, t3, t4, t5⟩ := ht
  by_cases hc : 0 ≤ c ∧ c < T 106 0 2
  · obtain ⟨z1, z2, z3, z4, z5, z6⟩ := h.1 c hc.1 hc.2
    have tc := (t5 c hc.1 hc.2).1
    have q6 := tc 6 (by omega) (by omega)
    have q7 := tc 7 (by omega) (by omega)
    have rc := r.2 c
    have e8 : T1 208 0 c = T 100 c 5 := by omega
    have e9 : T1 209 0 c = T 100 c 6 := by omega
    have e6 : T1 205 0 (23 * c + 6) = T 401 c 6 := by rw [rt.2.2.2.2]; omega
    have e7 : T1 205 0 (23 * c + 7) = T 401 c 7 := by rw [rt.2.2.2.2]; omega
    have am := an9_m (x := T 100 c 5) (by have := hb5 c; omega)
    have e29 : T1 111 0 29 = T 106 0 4 := by have := rp.1; have := hm.1; omega
    unfold PR9_ at d2
    rw [e8, e9, e6, e7, e29, r3, ← hd, Int.mul_comm (T 401 c 6) (T 100 c 5 + T 100 c 5 % 2 - 1), Int.mul_comm (T 401 c 6) (T 100 c 5 * (T 100 c 5 - 1) / 2)] at d2
    unfold PH9_ at d1
    rw [am] at d1
    have hc2 : 0 ≤ c ∧ c < T1 111 0 6 := by have := rt.2.2.1; omega
    rcases d1 with ⟨a0, a⟩ | ⟨a1, a2, a3, a4, a5, a6, a7, a8, a9⟩
    · rcases d2 with ⟨b0, b⟩ | ⟨b1, b2, b3, b4, b5, b6, b7, b8, b9⟩
      · exact Or.inl ⟨a0, b0⟩
      · exfalso
        omega
    · rcases d2 with ⟨b0, b⟩ | ⟨b1, b2, b3, b4, b5, b6, b7, b8, b9⟩
      · exfalso
        omega
      · exact Or.inr ⟨hc, a8, s2.resolve_left (fun z => by omega), _, a9, b9⟩
  · have hc2 : ¬ (0 ≤ c ∧ c < T1 111 0 6) := by have := rt.2.2.1; omega
    unfold PR9_ at d2
    unfold PH9_ at d1
    rcases d1 with ⟨a0, -⟩ | ⟨a1, -⟩
    · rcases d2 with ⟨b0, -⟩ | ⟨b1, -⟩
      · exact Or.inl ⟨a0, b0⟩
      · exact absurd b1 hc2
    · exact absurd a1 hc
/-- a plan -/
theorem pl_plan {T T1 T2 : Zt} {N c : Int} (hI : IC_ N T) (hR : IR_ T) (hP : PLR_ T) (hL : LDR_ T) (hM : MAR_ T) (hD : DAR_ T) (hC : CLM_ T) (i2 : IC_ (N + 1) T2) (j2 : IR_ T2) (hE2 : ENR_ T2) (hN2 : CNR_ T2) (c4 : T 106 0 2 ≤ 4) (cl3_ : ∀ i, 0 ≤ T2 102 i 3 ∧ T2 102 i 3 < 12) (cl4_ : ∀ i, 0 ≤ T2 102 i 4 ∧ T2 102 i 4 < 12) (h40 : T2 111 0 29 ≤ 400) (sk : SQ8_ T T1) (g : (T1 = T ∧ T2 = T1) ∨ ((0 ≤ c ∧ c < T 106 0 2) ∧ SJ_ T T1 c ∧ PQ9_ T1 T2 c ∧ ∃ l, AP9_ T T1 c l ∧ AR9_ T1 T2 c l)) (f2 : fr_ [(230, []), (231, []), (232, []), (233, []), (234, []), (235, []), (238, []), (253, []), (255, []), (111, [29]), (209, []), (210, []), (211, [])] T1 T2) : PLR_ T2 ∧ LDR_ T2 ∧ DAR_ T2 ∧ CLM_ T2 := by
  rcases g with ⟨rfl, rfl⟩ | ⟨hc, ⟨-, f1, od, -, ⟨s6, s7, s8⟩, oc⟩, ⟨⟨am1, am2, am3, am4⟩, -, -, -, -, -⟩, l, ⟨p1, p2⟩, q1, q2⟩
  · exact ⟨hP, hL, hD, hC⟩
  · have c29 : T1 111 0 29 = T 111 0 29 := f1 111 0 29 rfl
    have v4 : T2 106 0 4 = T1 106 0 4 := f2 106 0 4 rfl
    have mm := hM.1
    have kH : ∀ j, KHM_ T1 T2 j := fun j => khm_s (ks_f f2 (by decide +kernel))
    have new : ∀ m, T 106 0 4 ≤ m → m < T1 106 0 4 → ∃ (k : Nat) (q : Fx9_), m = T 106 0 4 + (k : Int) ∧ l[k]? = some q := fun m a b => by
      have hk : (m - T 106 0 4).toNat < l.length := by omega
      exact ⟨(m - T 106 0 4).toNat, l[(m - T 106 0 4).toNat], by omega, List.getElem?_eq_getElem hk⟩
    have old : ∀ j, 0 ≤ j → j < T 106 0 4 → KHM_ T T2 j ∧ KRM_ T T2 j := fun j j0 j1 => by
      refine ⟨khm_t ⟨fun K i d => ?_, ⟨od j 0 j1, od j 6 j1, od j 10 j1⟩, ⟨f1 103 j 0 rfl, f1 103 j 14 rfl, f1 103 j 15 rfl, f1 103 j 17 rfl⟩, fun w => f1 401 _ w rfl, fun _ i _ _ => f1 190 _ i rfl⟩ (kH j), kqm_t (kqm_s (ks_f f1 (by decide +kernel))) ⟨?_, rw_k (fun k x c => by rcases c with rfl | rfl | rfl | rfl <;> exact f2 _ 0 x rfl) (fun x => f2 252 0 x rfl) (am2 j (by omega)).2.2.2.2.2.2.2.1 (f2 254 0 j rfl), f2 254 0 j rfl, f2 256 0 j rfl⟩⟩
      · rcases dk_c d with rfl | rfl | rfl | rfl | rfl | rfl | rfl | rfl | rfl | rfl | ⟨rfl, _⟩
        · exact sk.1 448 j i (Or.inl rfl) j1
        · exact sk.1 449 j i (Or.inr rfl) j1
        all_goals exact f1 _ j i rfl
      · funext K i
        by_cases y : dm_ K i = true
        · rw [rp_d y, rp_d y]
          rcases dm_c y with ⟨z1, z2, z3, z4, z5⟩ | ⟨z1, z2, z3, z4, z5⟩ | ⟨z1, z2, z3, z4, z5⟩ | ⟨z1, z2, z3, z4, z5⟩ | ⟨z1, z2, z3, z4, z5⟩ | ⟨z1, z2, z3, z4, z5⟩ | ⟨z1, z2, z3, z4, z5⟩ | ⟨z1, z2, z3, z4, z5⟩ | ⟨z1, z2, z3, z4, z5⟩ | ⟨z1, z2, z3, z4, z5⟩ | ⟨z1, z2, z4, z5⟩ | ⟨z1, z2, z4, z5⟩ | ⟨z1, z2, z4, z5⟩ | ⟨z1, z2, z4, z5⟩ | ⟨z1, z2, z4, z5⟩ <;> rw [z4, z5] <;> first | exact f2 _ 0 _ rfl | exact (am2 j (by omega)).2.2.2.2.2.1
        · rw [rp_z y, rp_z y]
    refine ⟨⟨fun j j0 j1 => ?_, fun j j0 j1 => ?_⟩, ?_, fun j j0 j1 => ?_, fun j j0 j1 => ?_⟩
    · by_cases z : j < T 106 0 4
      · have g := hP.1 j j0 z
        have k := old j j0 z
        exact ⟨shm_k g.1 k.1 k.2, pm_k g.2 k.1 k.2⟩
      · obtain ⟨k, q, e, hq⟩ := new j (by omega) (by omega)
        have y := p2 k q hq
        have w := q2 k q hq
        rw [show T1 111 0 29 + (k : Int) = j by omega] at w
        rw [← e] at y
        have s9 := hR.2.2.2.2.2.2.1 j
        have e49 : ∀ t, 0 ≤ t → T2 449 j t = 0 := fun t t0 => (f2 449 j t rfl).trans (sk.2 j t (by omega) (by omega) t0)
        have e39 : ∀ t, 0 ≤ t → t ≤ 1 → T2 239 0 (2 * j + t) = 0 := fun t t0 t1 => (f2 239 0 _ rfl).trans ((f1 239 0 _ rfl).trans ((s9 t (by omega) (by omega) t0 t1).2 (by omega)))
        have rz := hR.2.2.2.2.2.2.2.2.2.1 j (by omega) (by omega)
        have hz := hP.2 j (by omega) (by omega)
        refine ⟨⟨fun t t0 t1 => ?_, fun t x t0 t1 x0 x1 => ?_, fun t x y t0 t1 x0 x1 y0 y1 e => ?_⟩, Or.inl ⟨?_, ?_, w.2.2.2.2.2.1, ?_, ?_, ?_, ?_⟩⟩
        · rw [e39 t t0 t1, e49 t t0]
          exact ⟨rfl, by decide, by decide⟩
        · rw [e49 t t0] at x1
          exfalso; omega
        · rw [e49 t t0] at x1
          exfalso; omega
        · rw [f2 102 j 6 rfl]; exact y.2.2.2.2.2.1
        · rw [f2 102 j 10 rfl]; exact y.2.2.2.2.2.2.2
        · exact (f2 236 0 j rfl).trans ((f1 236 0 j rfl).trans hz.1)
        · exact (f2 237 0 j rfl).trans ((f1 237 0 j rfl).trans hz.2)
        · exact (f2 254 0 j rfl).trans ((f1 254 0 j rfl).trans rz.1)
        · exact (f2 256 0 j rfl).trans ((f1 256 0 j rfl).trans rz.2)
    · have hz := hP.2 j (by omega) j1
      have y1 : T2 236 0 j = T 236 0 j := (f2 236 0 j rfl).trans (f1 236 0 j rfl)
      have y2 : T2 237 0 j = T 237 0 j := (f2 237 0 j rfl).trans (f1 237 0 j rfl)
      omega
    · have e10 : ∀ j, 0 ≤ j → j < T2 106 0 4 → T2 102 j 10 ≠ 0 → j < T 106 0 4 ∧ T 102 j 10 ≠ 0 := fun j j0 j1 jp => by
        by_cases z : j < T 106 0 4
        · rw [f2 102 j 10 rfl, od j 10 z] at jp
          exact ⟨z, jp⟩
        · exfalso
          obtain ⟨k, q, e, hq⟩ := new j (by omega) (by omega)
          have y := p2 k q hq
          rw [← e] at y
          rw [f2 102 j 10 rfl] at jp
          exact jp y.2.2.2.2.2.2.2
      have e14 : ∀ j, T2 103 j 14 = T 103 j 14 := fun j => (f2 103 j 14 rfl).trans (f1 103 j 14 rfl)
      have e16 : ∀ j, T2 103 j 16 = T 103 j 16 := fun j => (f2 103 j 16 rfl).trans (f1 103 j 16 rfl)
      have e44 : T2 104 0 4 = T 104 0 4 := (f2 104 0 4 rfl).trans (f1 104 0 4 rfl)
      have e15 : T2 109 0 15 = T 109 0 15 := (f2 109 0 15 rfl).trans (f1 109 0 15 rfl)
      have e91 : T2 191 0 0 = T 191 0 0 := (f2 191 0 0 rfl).trans (f1 191 0 0 rfl)
      refine ⟨by have := hL.1; omega, fun i i0 i1 ip => ?_⟩
      have y := e10 i i0 i1 ip
      have u := hL.2 i i0 y.1 y.2
      rw [e14, e16, e44, e15]
      refine ⟨u.1, fun j j0 j1 jp n => ?_⟩
      have y2 := e10 j j0 j1 jp
      rw [e14, e16]
      exact u.2 j j0 y2.1 y2.2 n
    · by_cases z : j < T 106 0 4
      · rw [f2 102 j 5 rfl, od j 5 z, (am2 j (by omega)).2.2.2.2.1, f1 234 0 j rfl]
        exact hD j j0 z
      · obtain ⟨k, q, e, hq⟩ := new j (by omega) (by omega)
        have y := p2 k q hq
        have w := q2 k q hq
        rw [show T1 111 0 29 + (k : Int) = j by omega] at w
        rw [← e] at y
        rw [f2 102 j 5 rfl, y.2.2.2.2.1, w.2.2.2.2.1]
    · have e108 : T2 108 0 2 = T 108 0 2 := (f2 108 0 2 rfl).trans (f1 108 0 2 rfl)
      by_cases z : j < T 106 0 4
      · rw [f2 102 j 3 rfl, f2 102 j 4 rfl, od j 3 z, od j 4 z, e108]
        exact hC j j0 z
      · have b2 : T2 106 0 2 = T 106 0 2 := (f2 106 0 2 rfl).trans (f1 106 0 2 rfl)
        have h7 : T2 100 c 7 = T1 100 c 7 := f2 100 c 7 rfl
        have h8 : T2 100 c 8 = T1 100 c 8 := f2 100 c 8 rfl
        have ks := i2.1.2.2.2.2.1 c hc.1 (by omega) j (by omega) (by omega)
        have en := hE2.1 c hc.1 (by omega)
        have ee := (j2.2.2.2.1 c hc.1 (by omega)).1
        have n2 := hN2.1
        have key : ∀ b, 0 ≤ b → b < 12 → 0 ≤ T2 404 c b → b < T2 108 0 2 := fun b b0 b1 s => by
          rcases en.2.2.2.2.2 b b0 b1 with y | ⟨y1, y2, y3⟩
          · omega
          · have u := en.2.2.2.2.1 _ y1 y2
            have v := ee _ y1 (by have := en.1; omega)
            rw [← u, y3] at v
            omega
        exact ⟨key _ (cl3_ j).1 (cl3_ j).2 ks.2.1, key _ (cl4_ j).1 (cl4_ j).2 ks.2.2⟩
/-- the plays under what leaves all rows but one -/
theorem plr_a {T T1 : Zt} {N w : Int} (hl : LP_ N T) (hP : PLR_ T) (k : ks_ [(102, [0, 6, 10]), (103, []), (448, []), (449, []), (466, []), (467, []), (468, []), (469, []), (470, []), (471, []), (472, []), (473, []), (401, [])] T T1) (kr : ks_ FRF_ T T1) (c1 : T1 106 0 4 = T 106 0 4) (c2 : T1 111 0 29 = T 111 0 29) (h : ∀ x j, x < T 191 0 0 → x ≠ w → T1 190 x j = T 190 x j) (g : ∀ m, 0 ≤ m → m < T 106 0 4 → T 102 m 10 ≠ 0 → T 103 m 14 ≠ w) : PLR_ T1 := by
  refine plr_s (m := -1) hP c1 c2 (fun z => absurd z (by decide)) (fun j j0 j1 _ => ⟨⟨fun K i d => ?_, ⟨k 102 j 0 rfl, k 102 j 6 rfl, k 102 j 10 rfl⟩, ⟨k 103 j 0 rfl, k 103 j 14 rfl, k 103 j 15 rfl, k 103 j 17 rfl⟩, fun w => k 401 _ w rfl, fun q i _ _ => h _ i (hl j j0 j1 q).1.2.2.2.2.2.1 (g j j0 j1 q)⟩, kqm_s kr⟩) (fun j _ _ => ⟨kr 236 0 j rfl, kr 237 0 j rfl⟩)
  rcases dk_c d with rfl | rfl | rfl | rfl | rfl | rfl | rfl | rfl | rfl | rfl | ⟨rfl, _⟩ <;> exact k _ j i rfl
theorem ldr_a {T T1 : Zt} {N : Int} (hl : LP_ N T) (h : LDR_ T) (e : T1 106 0 4 = T 106 0 4) (e15 : T1 109 0 15 = T 109 0 15) (g : ∀ m, T1 102 m 10 = T 102 m 10 ∧ T1 103 m 14 = T 103 m 14 ∧ T1 103 m 16 = T 103 m 16) (l : T 191 0 0 ≤ T1 191 0 0) (k : T1 104 0 4 = T 104 0 4 ∨ (T1 104 0 4 = T 191 0 0 ∧ T 191 0 0 < T1 191 0 0)) : LDR_ T1 := by
  refine ⟨by have := h.1; omega, fun m m0 m1 mp => ?_⟩
  have gm := g m
  have y := h.2 m m0 (by omega) (by omega)
  have lm := (hl m m0 (by omega) (by omega)).1.2.2.2.2.2.1
  refine ⟨by have := y.1; omega, fun j j0 j1 jp n => ?_⟩
  have gj := g j
  have w := y.2 j j0 (by omega) (by omega) n
  omega
theorem ldr_c {T T1 : Zt} {N : Int} (hl : LP_ N T) (h : LDR_ T) (e : T1 106 0 4 = T 106 0 4) (e44 : T1 104 0 4 = T 104 0 4) (g : ∀ m, T1 102 m 10 = T 102 m 10 ∧ T1 103 m 14 = T 103 m 14 ∧ T1 103 m 16 = T 103 m 16) (l : T 191 0 0 ≤ T1 191 0 0) (k : T1 109 0 15 = T 109 0 15 ∨ (T1 109 0 15 = T 191 0 0 + 1 ∧ T 191 0 0 < T1 191 0 0)) : LDR_ T1 := by
  refine ⟨by have := h.1; omega, fun m m0 m1 mp => ?_⟩
  have gm := g m
  have y := h.2 m m0 (by omega) (by omega)
  have lm := (hl m m0 (by omega) (by omega)).1.2.2.2.2.2.1
  refine ⟨by have := y.1; omega, fun j j0 j1 jp n => ?_⟩
  have gj := g j
  have w := y.2 j j0 (by omega) (by omega) n
  omega
/-- referees shared out -/
theorem pl_assign {T T1 : Zt} {N : Int} (hI : IC_ N T) (hP : PLR_ T) (hL : LDR_ T) (f1 : fr_ [(104, [3, 4]), (482, []), (102, [7]), (190, []), (191, [0])] T T1) (k : KPA_ T T1) (lh : lh_ T T1) : PLR_ T1 ∧ LDR_ T1 :=
  ⟨plr_a hI.2.2.2.1 hP (ks_f f1 (by decide +kernel)) (ks_f f1 (by decide +kernel)) (f1 106 0 4 rfl) (f1 111 0 29 rfl) k.1 (fun m a b c => (hL.2 m a b c).1.2.1), ldr_a hI.2.2.2.1 hL (f1 106 0 4 rfl) (f1 109 0 15 rfl) (fun m => ⟨f1 102 m 10 rfl, f1 103 m 14 rfl, f1 103 m 16 rfl⟩) lh.2 k.2⟩
/-- the title asked for -/
theorem pl_can {T T1 : Zt} {N : Int} (hI : IC_ N T) (hP : PLR_ T) (hL : LDR_ T) (f1 : fr_ [(109, [5, 3, 9, 6, 2, 15]), (584, []), (588, []), (587, []), (591, []), (592, []), (590, []), (593, []), (594, []), (107, [1]), (542, []), (543, []), (544, []), (545, []), (546, []), (190, []), (191, [0])] T T1) (k : KPT_ T T1) (lh : lh_ T T1) : PLR_ T1 ∧ LDR_ T1 :=
  ⟨plr_a (w := T 109 0 15 - 1) hI.2.2.2.1 hP (ks_f f1 (by decide +kernel)) (ks_f f1 (by decide +kernel)) (f1 106 0 4 rfl) (f1 111 0 29 rfl) (fun x j a b => k.1 x j a (by omega)) (fun m a b c => by have := (hL.2 m a b c).1.2.2; omega), ldr_c hI.2.2.2.1 hL (f1 106 0 4 rfl) (f1 104 0 4 rfl) (fun m => ⟨f1 102 m 10 rfl, f1 103 m 14 rfl, f1 103 m 16 rfl⟩) lh.2 k.2⟩
/-- a new competition -/
theorem pl_comp {T T1 : Zt} {N : Int} (hI : IC_ N T) (hP : PLR_ T) (k : ks_ [(102, [0, 6, 10]), (103, []), (448, []), (449, []), (466, []), (467, []), (468, []), (469, []), (470, []), (471, []), (472, []), (473, []), (190, [])] T T1) (kr : ks_ FRF_ T T1) (c1 : T1 106 0 4 = T 106 0 4) (c2 : T1 111 0 29 = T 111 0 29) (h : ∀ i j, i ≠ T 106 0 2 → T1 401 i j = T 401 i j) : PLR_ T1 := by
  refine plr_s (m := -1) hP c1 c2 (fun z => absurd z (by decide)) (fun j j0 j1 _ => ⟨⟨fun K i d => ?_, ⟨k 102 j 0 rfl, k 102 j 6 rfl, k 102 j 10 rfl⟩, ⟨k 103 j 0 rfl, k 103 j 14 rfl, k 103 j 15 rfl, k 103 j 17 rfl⟩, fun w => h _ w (by have := (hI.1.2.1 j j0 j1).2; omega), fun _ i _ _ => k 190 _ i rfl⟩, kqm_s kr⟩) (fun j _ _ => ⟨kr 236 0 j rfl, kr 237 0 j rfl⟩)
  rcases dk_c d with rfl | rfl | rfl | rfl | rfl | rfl | rfl | rfl | rfl | rfl | ⟨rfl, _⟩ <;> exact k _ j i rfl
/-- a home has its matches of a competition on different days still -/
theorem dd_p {T T1 : Zt} {p d x : Int} (hd : DD_ T) (e4 : T1 106 0 4 = T 106 0 4) (m4 : 0 ≤ T 106 0 4) (h : PTO_ T T1 p d x) : DD_ T1 := by
  rcases h with ⟨-, -, o, -, -⟩ | ⟨-, -, y2, z1, z2, -, -⟩
  · intro i j i0 i1 j1 a b c e q
    rw [o i 6] at a
    rw [o j 6] at b
    rw [o i 0, o j 0] at c
    rw [o i 3, o j 3] at e
    rw [o i 5, o j 5] at q
    rw [e4] at j1
    exact hd i j i0 i1 j1 a b c e q
  · intro i j i0 i1 j1 a b c e q
    rw [z2 i 6 (by decide)] at a
    rw [z2 j 6 (by decide)] at b
    rw [z2 i 0 (by decide), z2 j 0 (by decide)] at c
    rw [z2 i 3 (by decide), z2 j 3 (by decide)] at e
    rw [z1, z1] at q
    rw [e4] at j1
    have g := mv_dd (sq := sqH_ T) (hq := hqH_ T) (R := fun a b => T 102 a 0 = T 102 b 0 ∧ T 102 a 3 = T 102 b 3) (rs := rsH_ T) (ab := abH_ T) (n := T 106 0 4) (p := p) (d := d) (ag := AGH_ T p d) (day := u1_ (fun m => T 102 m 5) p d) (fun a b r => by
        show T 560 0 (T 102 a 3) = T 560 0 (T 102 b 3)
        rw [r.2]) (fun a b r => ⟨r.1.symm, r.2.symm⟩) (fun a b a0 a1 b0 b1 ne ha hb r eq => by
        by_cases wa : a = p
        · refine Or.inl ⟨wa, fun w => ne (wa.trans w), wa ▸ ha, hb, Or.inl ⟨?_, ?_⟩⟩
          · rw [wa, u1_s, u1_n (fun w => ne (wa.trans w.symm))] at eq
            exact eq
          · show T 560 0 (T 102 p 3) = T 560 0 (T 102 b 3)
            rw [← wa, r.2]
        · by_cases wb : b = p
          · refine Or.inr ⟨wb, fun w => wa w.symm, wb ▸ hb, ha, Or.inl ⟨?_, ?_⟩⟩
            · rw [wb, u1_s, u1_n wa] at eq
              exact eq.symm
            · show T 560 0 (T 102 p 3) = T 560 0 (T 102 a 3)
              rw [← wb, r.2]
          · rw [u1_n wa, u1_n wb] at eq
            exfalso
            rcases Int.lt_or_gt_of_ne ne with u | u
            · exact hd a b a0 u b1 ha hb r.1 r.2 eq
            · exact hd b a b0 u a1 hb ha r.1.symm r.2.symm eq.symm) (T 106 0 4).toNat (by omega) y2 i j i0 (by omega) (by omega) j1 (by omega) a b ⟨c, e⟩ q
    omega
theorem dd_q {T T1 : Zt} {m d x : Int} (hd : DD_ T) (e4 : T1 106 0 4 = T 106 0 4) (m4 : 0 ≤ T 106 0 4) (h : ((x = -2 ∧ ¬ (0 ≤ m ∧ m < T 106 0 4) ∧ T = T1) ∨ ((0 ≤ m ∧ m < T 106 0 4) ∧ ((x = -3 ∧ ¬ (T 108 0 13 < d ∧ d ≤ 999 ∧ 0 ≤ d) ∧ T = T1) ∨ ((T 108 0 13 < d ∧ d ≤ 999 ∧ 0 ≤ d) ∧ ((x = -4 ∧ ¬ ((T 102 m 6 = -1 ∧ T 102 m 10 = 0) ∧ T 102 m 5 ≠ d) ∧ T = T1) ∨ (((T 102 m 6 = -1 ∧ T 102 m 10 = 0) ∧ T 102 m 5 ≠ d) ∧ PTO_ T T1 m d x))))))) : DD_ T1 := by
  rcases h with ⟨-, -, rfl⟩ | ⟨-, h⟩
  · exact hd
  · rcases h with ⟨-, -, rfl⟩ | ⟨-, h⟩
    · exact hd
    · rcases h with ⟨-, -, rfl⟩ | ⟨-, h⟩
      · exact hd
      · exact dd_p hd e4 m4 h
-- what is asked of a match, both sides alike
theorem pl_match {T : Zt} {N m w x1 x2 : Int} (hI : IC_ N T) (hP : PLR_ T) (hM : MAR_ T) (hD : DAR_ T) (hO : CNO_ T) (d1 : ((x1 = -2 ∧ ¬ (0 ≤ m ∧ m < T 106 0 4)) ∨ ((0 ≤ m ∧ m < T 106 0 4) ∧ ((w = 0 ∧ x1 = T 100 (T 102 m 0) 0) ∨ (w = 1 ∧ x1 = T 102 m 2) ∨ (w = 2 ∧ x1 = T 102 m 3) ∨ (w = 3 ∧ x1 = T 102 m 4) ∨ (w = 4 ∧ x1 = T 102 m 5) ∨ (w = 5 ∧ ((T 102 m 6 ≠ -1 ∧ x1 = 3) ∨ (T 102 m 6 = -1 ∧ ((T 102 m 10 = 0 ∧ x1 = 0) ∨ (T 102 m 10 ≠ 0 ∧ ((T 103 m 3 = 0 ∧ x1 = 1) ∨ (T 103 m 3 ≠ 0 ∧ x1 = 2))))))) ∨ (w = 6 ∧ ((T 102 m 6 ≠ -1 ∧ ((0 = T 102 m 6 ∧ x1 = 0) ∨ (0 ≠ T 102 m 6 ∧ x1 = T 401 (T 102 m 0) 12))) ∨ (T 102 m 6 = -1 ∧ ((T 102 m 10 = 0 ∧ x1 = 0) ∨ (T 102 m 10 ≠ 0 ∧ x1 = T 468 m 0))))) ∨ (w = 7 ∧ ((T 102 m 6 ≠ -1 ∧ ((1 = T 102 m 6 ∧ x1 = 0) ∨ (1 ≠ T 102 m 6 ∧ x1 = T 401 (T 102 m 0) 12))) ∨ (T 102 m 6 = -1 ∧ ((T 102 m 10 = 0 ∧ x1 = 0) ∨ (T 102 m 10 ≠ 0 ∧ x1 = T 468 m 1))))) ∨ (¬ (0 ≤ w ∧ w ≤ 7) ∧ x1 = -3))))) (d2 : ((x2 = -2 ∧ ¬ (0 ≤ m ∧ m < T 111 0 29)) ∨ ((0 ≤ m ∧ m < T 111 0 29) ∧ ((w = 0 ∧ x2 = T 230 0 m) ∨ (w = 1 ∧ x2 = T 231 0 m) ∨ (w = 2 ∧ x2 = T 232 0 m) ∨ (w = 3 ∧ x2 = T 233 0 m) ∨ (w = 4 ∧ x2 = T 234 0 m) ∨ (w = 5 ∧ x2 = T 235 0 m) ∨ (w = 6 ∧ x2 = T 236 0 m) ∨ (w = 7 ∧ x2 = T 237 0 m) ∨ (¬ (0 ≤ w ∧ w ≤ 7) ∧ x2 = -3))))) : x1 = x2 := by
  have m1 := hM.1
  rcases d1 with ⟨rfl, a⟩ | ⟨hm, d1⟩
  · rcases d2 with ⟨rfl, -⟩ | ⟨b, -⟩
    · rfl
    · exfalso; omega
  · obtain ⟨-, d2⟩ := d2.resolve_left (fun z => z.2 (by omega))
    have mm := hM.2 m hm.1 hm.2
    have dd := hD m hm.1 hm.2
    have hc : 0 ≤ T 102 m 0 ∧ T 102 m 0 < T 106 0 2 := (hI.1.2.1 m hm.1 hm.2).2
    have ho := hO _ hc.1 hc.2
    rcases (hP.1 m hm.1 hm.2).2 with z | z | z
    · unfold PAA_ at z
      omega
    · unfold PBB_ at z
      omega
    · obtain ⟨p1, p2, -, ⟨n, -, ps⟩, -⟩ := z
      have e3 := ps.1.2.2.1.2.2
      rw [rp_35, show rs9_ T m 103 3 = T 103 m 3 from rs_d rfl] at e3
      have s0 := (eq_j ps.1 (s := 0) (by decide) (by decide)).2.2.2.2.1
      have s1 := (eq_j ps.1 (s := 1) (by decide) (by decide)).2.2.2.2.1
      rw [rp_36, show rs9_ T m 468 0 = T 468 m 0 from rs_d rfl] at s0
      rw [rp_37, show rs9_ T m 468 1 = T 468 m 1 from rs_d rfl] at s1
      omega
theorem pl_rows {T : Zt} {N m w x1 x2 : Int} (hI : IC_ N T) (hR : IR_ T) (hP : PLR_ T) (hM : MAR_ T) (d1 : ((x1 = -2 ∧ ¬ (0 ≤ m ∧ m < T 106 0 4)) ∨ ((0 ≤ m ∧ m < T 106 0 4) ∧ ((¬ (0 ≤ w ∧ w ≤ 1) ∧ x1 = -3) ∨ ((0 ≤ w ∧ w ≤ 1) ∧ ((T 102 m 10 = 0 ∧ x1 = 0) ∨ (T 102 m 10 ≠ 0 ∧ ((w = 0 ∧ x1 = T 103 m 15) ∨ (w = 1 ∧ x1 = T 103 m 17))))))))) (d2 : ((x2 = -2 ∧ ¬ (0 ≤ m ∧ m < T 111 0 29)) ∨ ((0 ≤ m ∧ m < T 111 0 29) ∧ ((¬ (0 ≤ w ∧ w ≤ 1) ∧ x2 = -3) ∨ (w = 0 ∧ x2 = T 254 0 m) ∨ (w = 1 ∧ x2 = T 256 0 m))))) : x1 = x2 := by
  have m1 := hM.1
  rcases d1 with ⟨rfl, a⟩ | ⟨hm, d1⟩
  · rcases d2 with ⟨rfl, -⟩ | ⟨b, -⟩
    · rfl
    · exfalso; omega
  · obtain ⟨-, d2⟩ := d2.resolve_left (fun z => z.2 (by omega))
    rcases (hP.1 m hm.1 hm.2).2 with z | z | z
    · unfold PAA_ at z
      omega
    · unfold PBB_ at z
      omega
    · have e := pcc_n z (hI.2.2.2.1 m hm.1 hm.2 z.2.1).1.1 (rx_n hR.2.2.2.2.2.2.2.2.1 hm.1 (by omega))
      have e2 := z.2.2.2.2.2.2.2
      have e3 := z.2.1
      omega
theorem pl_state {T : Zt} {m w x1 x2 : Int} (hP : PLR_ T) (hM : MAR_ T) (d1 : ((x1 = -2 ∧ ¬ (0 ≤ m ∧ m < T 106 0 4)) ∨ ((0 ≤ m ∧ m < T 106 0 4) ∧ ((¬ (0 ≤ w ∧ w ≤ 7) ∧ x1 = -3) ∨ ((0 ≤ w ∧ w ≤ 7) ∧ ((T 102 m 10 = 0 ∧ x1 = -4) ∨ (T 102 m 10 ≠ 0 ∧ ((w = 0 ∧ x1 = T 103 m 4) ∨ ((w = 1 ∨ w = 2) ∧ x1 = T 466 m (w - 1)) ∨ ((w = 3 ∨ w = 4) ∧ x1 = T 467 m (w - 3)) ∨ (w = 5 ∧ x1 = T 103 m 5) ∨ ((w = 6 ∨ w = 7) ∧ x1 = T 469 m (w - 6)))))))))) (d2 : ((x2 = -2 ∧ ¬ (0 ≤ m ∧ m < T 111 0 29)) ∨ ((0 ≤ m ∧ m < T 111 0 29) ∧ ((¬ (0 ≤ w ∧ w ≤ 7) ∧ x2 = -3) ∨ ((0 ≤ w ∧ w ≤ 7) ∧ ((¬ (T 235 0 m = 1 ∨ T 235 0 m = 2) ∧ x2 = -4) ∨ ((T 235 0 m = 1 ∨ T 235 0 m = 2) ∧ x2 = T 246 0 (8 * m + w)))))))) : x1 = x2 := by
  have m1 := hM.1
  rcases d1 with ⟨rfl, a⟩ | ⟨hm, d1⟩
  · rcases d2 with ⟨rfl, -⟩ | ⟨b, -⟩
    · rfl
    · exfalso; omega
  · obtain ⟨-, d2⟩ := d2.resolve_left (fun z => z.2 (by omega))
    rcases (hP.1 m hm.1 hm.2).2 with z | z | z
    · unfold PAA_ at z
      omega
    · unfold PBB_ at z
      omega
    · obtain ⟨p1, p2, -, ⟨n, -, ps⟩, -⟩ := z
      have e3 := ps.1.2.2.1
      have s0 := eq_j ps.1 (s := 0) (by decide) (by decide)
      have s1 := eq_j ps.1 (s := 1) (by decide) (by decide)
      have b0 : rp9_ T m 103 4 = T 246 0 (8 * m) := rp_v rfl rfl rfl
      have b5 : rp9_ T m 103 5 = T 246 0 (8 * m + 5) := rp_v rfl rfl rfl
      have b1 : rp9_ T m 466 0 = T 246 0 (8 * m + 1 + 0) := rp_v rfl rfl rfl
      have b2 : rp9_ T m 466 1 = T 246 0 (8 * m + 1 + 1) := rp_v rfl rfl rfl
      have b3 : rp9_ T m 467 0 = T 246 0 (8 * m + 3 + 0) := rp_v rfl rfl rfl
      have b4 : rp9_ T m 467 1 = T 246 0 (8 * m + 3 + 1) := rp_v rfl rfl rfl
      have b6 : rp9_ T m 469 0 = T 246 0 (8 * m + 6 + 0) := rp_v rfl rfl rfl
      have b7 : rp9_ T m 469 1 = T 246 0 (8 * m + 6 + 1) := rp_v rfl rfl rfl
      rw [show 8 * m + 1 + 0 = 8 * m + 1 by omega] at b1
      rw [show 8 * m + 1 + 1 = 8 * m + 2 by omega] at b2
      rw [show 8 * m + 3 + 0 = 8 * m + 3 by omega] at b3
      rw [show 8 * m + 3 + 1 = 8 * m + 4 by omega] at b4
      rw [show 8 * m + 6 + 0 = 8 * m + 6 by omega] at b6
      rw [show 8 * m + 6 + 1 = 8 * m + 7 by omega] at b7
      have a4 : rs9_ T m 103 4 = T 103 m 4 := rs_d rfl
      have a5 : rs9_ T m 103 5 = T 103 m 5 := rs_d rfl
      have a3 : rs9_ T m 103 3 = T 103 m 3 := rs_d rfl
      have g0 : rs9_ T m 466 0 = T 466 m 0 := rs_d rfl
      have g1 : rs9_ T m 466 1 = T 466 m 1 := rs_d rfl
      have g2 : rs9_ T m 467 0 = T 467 m 0 := rs_d rfl
      have g3 : rs9_ T m 467 1 = T 467 m 1 := rs_d rfl
      have g6 : rs9_ T m 469 0 = T 469 m 0 := rs_d rfl
      have g7 : rs9_ T m 469 1 = T 469 m 1 := rs_d rfl
      rw [rp_35, b0, b5, a3, a4, a5] at e3
      rw [b1, b3, b6, g0, g2, g6] at s0
      rw [b2, b4, b7, g1, g3, g7] at s1
      rcases d1 with ⟨u, rfl⟩ | ⟨u, d1⟩
      · rcases d2 with ⟨-, rfl⟩ | ⟨y, -⟩
        · rfl
        · exact absurd y u
      · obtain ⟨-, d2⟩ := d2.resolve_left (fun y => y.1 u)
        have d2 := d2.resolve_left (fun y => y.1 (by omega))
        have d1 := d1.resolve_left (fun y => p2 y.1)
        obtain ⟨-, d1⟩ := d1
        obtain ⟨-, rfl⟩ := d2
        rcases d1 with ⟨rfl, rfl⟩ | ⟨c | c, rfl⟩ | ⟨c | c, rfl⟩ | ⟨rfl, rfl⟩ | ⟨c | c, rfl⟩
        · rw [Int.add_zero]; omega
        · rw [c]; show T 466 m 0 = T 246 0 (8 * m + 1); omega
        · rw [c]; show T 466 m 1 = T 246 0 (8 * m + 2); omega
        · rw [c]; show T 467 m 0 = T 246 0 (8 * m + 3); omega
        · rw [c]; show T 467 m 1 = T 246 0 (8 * m + 4); omega
        · omega
        · rw [c]; show T 469 m 0 = T 246 0 (8 * m + 6); omega
        · rw [c]; show T 469 m 1 = T 246 0 (8 * m + 7); omega
theorem pl_field {T : Zt} {m t i x1 x2 : Int} (hP : PLR_ T) (hM : MAR_ T) (d1 : ((x1 = -2 ∧ ¬ (0 ≤ m ∧ m < T 106 0 4)) ∨ ((0 ≤ m ∧ m < T 106 0 4) ∧ ((¬ (0 ≤ t ∧ t ≤ 1) ∧ x1 = -3) ∨ ((0 ≤ t ∧ t ≤ 1) ∧ ((¬ (T 102 m 10 ≠ 0 ∧ 0 ≤ i ∧ i < T 470 m t) ∧ x1 = -1) ∨ (T 102 m 10 ≠ 0 ∧ (0 ≤ i ∧ i < T 470 m t) ∧ x1 = T 448 m (T 471 m (t * 6 + i))))))))) (d2 : ((x2 = -2 ∧ ¬ (0 ≤ m ∧ m < T 111 0 29)) ∨ ((0 ≤ m ∧ m < T 111 0 29) ∧ ((¬ (0 ≤ t ∧ t ≤ 1) ∧ x2 = -3) ∨ ((0 ≤ t ∧ t ≤ 1) ∧ ((¬ ((T 235 0 m = 1 ∨ T 235 0 m = 2) ∧ 0 ≤ i ∧ i < T 244 0 (2 * m + t)) ∧ x2 = -1) ∨ ((T 235 0 m = 1 ∨ T 235 0 m = 2) ∧ (0 ≤ i ∧ i < T 244 0 (2 * m + t)) ∧ x2 = T 240 0 (T 245 0 (6 * (2 * m + t) + i))))))))) : x1 = x2 := by
  have m1 := hM.1
  rcases d1 with ⟨rfl, a⟩ | ⟨hm, d1⟩
  · rcases d2 with ⟨rfl, -⟩ | ⟨b, -⟩
    · rfl
    · exfalso; omega
  · obtain ⟨-, d2⟩ := d2.resolve_left (fun z => z.2 (by omega))
    rcases d1 with ⟨u, rfl⟩ | ⟨u, d1⟩
    · rcases d2 with ⟨-, rfl⟩ | ⟨y, -⟩
      · rfl
      · exact absurd y u
    · obtain ⟨-, d2⟩ := d2.resolve_left (fun y => y.1 u)
      have g := hP.1 m hm.1 hm.2
      rcases g.2 with z | z | z
      · have e1 := z.2.1
        have e2 := z.2.2.1
        omega
      · have e1 := z.1
        have e2 := z.2.1
        omega
      · obtain ⟨p1, p2, -, ⟨n, -, ps⟩, -⟩ := z
        have e3 := ps.1.2.2.1.2.2
        rw [rp_35] at e3
        have f := (eq_j ps.1 u.1 u.2).2.1
        rw [rp_v (m := m) (K := 244) (x := 2 * m + t) (dm_470 u) rfl rfl, show rs9_ T m 470 t = T 470 m t from rs_d rfl] at f
        rcases d1 with ⟨v, rfl⟩ | ⟨-, v, rfl⟩
        · rcases d2 with ⟨-, rfl⟩ | ⟨y1, y2, -⟩
          · rfl
          · exact absurd ⟨p2, by omega, by omega⟩ v
        · rcases d2 with ⟨y, -⟩ | ⟨-, -, rfl⟩
          · exact absurd ⟨by omega, by omega, by omega⟩ y
          · have w := ps.2.1
            have w1 := w.1 t u.1 u.2
            rw [show rs9_ T m 470 t = T 470 m t from rs_d rfl] at w1
            have r70 : rs9_ T m 470 t = T 470 m t := rs_d rfl
            have q := ps.1.2.2.2.1 t (t * 6 + i) u.1 u.2 (by omega) (by rw [r70]; omega)
            have s := w.2.1 t (t * 6 + i) u.1 u.2 (by omega) (by rw [r70]; omega)
            rw [rp_v (m := m) (K := 245) (x := 12 * m + (t * 6 + i)) (dm_471 ⟨by omega, by omega⟩) rfl rfl, show rs9_ T m 471 (t * 6 + i) = T 471 m (t * 6 + i) from rs_d rfl] at q
            rw [show rs9_ T m 471 (t * 6 + i) = T 471 m (t * 6 + i) from rs_d rfl, show rs9_ T m 449 t = T 449 m t from rs_d rfl] at s
            rw [show 6 * (2 * m + t) + i = 12 * m + (t * 6 + i) by omega, q]
            exact (g.1.2.1 t _ u.1 u.2 s.1 s.2.1).symm
theorem pl_moved {T : Zt} {k x1 x2 : Int} (hV : MVR_ T) (d1 : ((0 ≤ k ∧ k < T 106 0 12 ∧ x1 = T 531 0 k) ∨ (¬ (0 ≤ k ∧ k < T 106 0 12) ∧ x1 = -1))) (d2 : ((0 ≤ k ∧ k < T 111 0 75 ∧ x2 = T 274 0 k) ∨ (¬ (0 ≤ k ∧ k < T 111 0 75) ∧ x2 = -1))) : x1 = x2 := by
  have h := hV.1
  rcases d1 with ⟨a, b, rfl⟩ | ⟨a, rfl⟩
  · rcases d2 with ⟨-, -, rfl⟩ | ⟨y, -⟩
    · exact hV.2 k a b
    · exact absurd ⟨a, by omega⟩ y
  · rcases d2 with ⟨y1, y2, -⟩ | ⟨-, rfl⟩
    · exact absurd ⟨y1, by omega⟩ a
    · rfl
theorem pl_count {T : Zt} {w x1 x2 : Int} (hN : CNR_ T) (hS : SPR_ T) (hX : TXR_ T) (hM : MAR_ T) (hC : RCR_ T) (d1 : ((w = 0 ∧ x1 = T 108 0 2) ∨ (w = 1 ∧ x1 = T 108 0 3) ∨ (w = 2 ∧ x1 = T 108 0 5) ∨ (w = 3 ∧ x1 = T 108 0 12) ∨ (w = 4 ∧ x1 = T 106 0 2) ∨ (w = 5 ∧ x1 = T 106 0 4) ∨ (w = 6 ∧ x1 = T 106 0 5) ∨ (w = 7 ∧ x1 = T 108 0 13) ∨ (¬ (0 ≤ w ∧ w ≤ 7) ∧ x1 = -3))) (d2 : ((w = 0 ∧ x2 = T 111 0 12) ∨ (w = 1 ∧ x2 = T 111 0 15) ∨ (w = 2 ∧ x2 = T 111 0 16) ∨ (w = 3 ∧ x2 = T 111 0 21) ∨ (w = 4 ∧ x2 = T 111 0 6) ∨ (w = 5 ∧ x2 = T 111 0 29) ∨ (w = 6 ∧ x2 = T 111 0 47) ∨ (w = 7 ∧ x2 = T 111 0 3) ∨ (¬ (0 ≤ w ∧ w ≤ 7) ∧ x2 = -3))) : x1 = x2 := by
  have a1 := hN.1
  have a2 := hN.2.1
  have a3 := hN.2.2.1
  have a4 := hN.2.2.2
  have a5 := hS.1
  have a6 := hX.2.2.1
  have a7 := hM.1
  have a8 : T 106 0 5 = T 111 0 47 := hC
  omega
/-- a walkover takes no match back -/
theorem wo_k {T T1 : Zt} {m d x : Int} (h : ((x = -2 ∧ ¬ (0 ≤ m ∧ m < T 106 0 4) ∧ T = T1) ∨ ((0 ≤ m ∧ m < T 106 0 4) ∧ ((x = -3 ∧ ¬ (0 ≤ d ∧ d ≤ 1) ∧ T = T1) ∨ ((0 ≤ d ∧ d ≤ 1) ∧ ((x = -4 ∧ ¬ ((T 102 m 6 = -1 ∧ T 102 m 10 = 0) ∧ T 102 m 5 ≤ T 108 0 13) ∧ T = T1) ∨ (x = 1 ∧ ((T 102 m 6 = -1 ∧ T 102 m 10 = 0) ∧ T 102 m 5 ≤ T 108 0 13) ∧ T1 = up_ T 102 m 6 d))))))) : ∀ i, T1 102 i 6 = T 102 i 6 ∨ T1 102 i 6 ≠ -1 := by
  rcases h with ⟨-, -, rfl⟩ | ⟨-, h⟩
  · exact fun i => Or.inl rfl
  · rcases h with ⟨-, -, rfl⟩ | ⟨a, h⟩
    · exact fun i => Or.inl rfl
    · rcases h with ⟨-, -, rfl⟩ | ⟨-, -, u⟩
      · exact fun i => Or.inl rfl
      · intro i
        by_cases z : i = m
        · exact Or.inr (by rw [z, up_f u]; omega)
        · exact Or.inl (up_g u (fun y => z y.2.1))
-- tables: pure words. A view of the matches of a competition: match, item (0 counts, 1 home, 2 away, 3 and 4 the scores, 5 and 6 the cards)
abbrev Mv_ : Type := Int → Int → Int
def ptm9_ (ru : Int → Int) (a b : Int) : Int := if b < a then ru 1 else if a = b then ru 2 else ru 3
def cv9_ (ru : Int → Int) (w a b : Int) : Int := if w = 0 then 1 else if w = 1 then (if b < a then 1 else 0) else if w = 2 then (if a = b then 1 else 0) else if w = 3 then (if a < b then 1 else 0) else if w = 4 then a else if w = 5 then b else ptm9_ ru a b
/-- what match k gives club x in column w -/
def td9_ (ru : Int → Int) (v : Mv_) (x w k : Int) : Int :=
  if v k 0 = 1 then (if w = 7 then (if v k 2 = x then v k 4 else 0) else if w = 8 then (if v k 1 = x then v k 5 else 0) + (if v k 2 = x then v k 6 else 0) else (if v k 1 = x then cv9_ ru w (v k 3) (v k 4) else 0) + (if v k 2 = x then cv9_ ru w (v k 4) (v k 3) else 0)) else 0
def tn9_ (ru : Int → Int) (v : Mv_) (x w : Int) : Nat → Int
  | 0 => 0
  | n + 1 => tn9_ ru v x w n + td9_ ru v x w (n : Int)
/-- two views tell the same of the first n matches -/
def VE_ (n : Int) (v v' : Mv_) : Prop := ∀ k : Int, 0 ≤ k → k < n → v k 0 = v' k 0 ∧ (v k 0 = 1 → v k 1 = v' k 1 ∧ v k 2 = v' k 2 ∧ v k 3 = v' k 3 ∧ v k 4 = v' k 4 ∧ v k 5 = v' k 5 ∧ v k 6 = v' k 6)
theorem td_0 {ru : Int → Int} {v : Mv_} {x w k : Int} (h : v k 0 ≠ 1) : td9_ ru v x w k = 0 := if_neg h
theorem td_1 {ru : Int → Int} {v : Mv_} {x w k : Int} (h : v k 0 = 1) : td9_ ru v x w k = (if w = 7 then (if v k 2 = x then v k 4 else 0) else if w = 8 then (if v k 1 = x then v k 5 else 0) + (if v k 2 = x then v k 6 else 0) else (if v k 1 = x then cv9_ ru w (v k 3) (v k 4) else 0) + (if v k 2 = x then cv9_ ru w (v k 4) (v k 3) else 0)) := if_pos h
theorem td_e {ru : Int → Int} {v v' : Mv_} {x w k : Int} (h : v k 0 = v' k 0 ∧ (v k 0 = 1 → v k 1 = v' k 1 ∧ v k 2 = v' k 2 ∧ v k 3 = v' k 3 ∧ v k 4 = v' k 4 ∧ v k 5 = v' k 5 ∧ v k 6 = v' k 6)) : td9_ ru v x w k = td9_ ru v' x w k := by
  by_cases z : v k 0 = 1
  · obtain ⟨e1, e2, e3, e4, e5, e6⟩ := h.2 z
    rw [td_1 z, td_1 (h.1.symm.trans z), e1, e2, e3, e4, e5, e6]
  · rw [td_0 z, td_0 (fun y => z (h.1.trans y))]
theorem tn_e {ru : Int → Int} {v v' : Mv_} {x w : Int} : ∀ n : Nat, VE_ (n : Int) v v' → tn9_ ru v x w n = tn9_ ru v' x w n
  | 0, _ => rfl
  | n + 1, h => by
    have i := tn_e (ru := ru) (x := x) (w := w) n (fun k a b => h k a (by omega))
    have d := td_e (ru := ru) (x := x) (w := w) (h (n : Int) (by omega) (by omega))
    show tn9_ ru v x w n + td9_ ru v x w (n : Int) = tn9_ ru v' x w n + td9_ ru v' x w (n : Int)
    rw [i, d]
-- among two clubs
theorem cz_g {A : Type} {P Q : Prop} {x y : A} (h : P ↔ Q) : cz_ P x y = cz_ Q x y := by
  by_cases z : P
  · rw [cz_t z, cz_t (h.1 z)]
  · rw [cz_f z, cz_f (fun q => z (h.2 q))]
theorem cz_0 {P : Prop} {x : Int} (h : x = 0) : cz_ P x 0 = 0 := by
  by_cases z : P
  · exact (cz_t z).trans h
  · exact cz_f z
noncomputable def hq9_ (ru : Int → Int) (v : Mv_) (a b k : Int) : Int := cz_ (v k 0 = 1) (cz_ (v k 1 = a ∧ v k 2 = b) (ptm9_ ru (v k 3) (v k 4)) 0 + cz_ (v k 2 = a ∧ v k 1 = b) (ptm9_ ru (v k 4) (v k 3)) 0) 0
noncomputable def hg9_ (v : Mv_) (a b k : Int) : Int := cz_ (v k 0 = 1) (cz_ (v k 1 = a ∧ v k 2 = b) (v k 3) 0 + cz_ (v k 2 = a ∧ v k 1 = b) (v k 4) 0) 0
noncomputable def hp9_ (ru : Int → Int) (v : Mv_) (a b : Int) : Nat → Int
  | 0 => 0
  | n + 1 => hp9_ ru v a b n + hq9_ ru v a b (n : Int)
noncomputable def hs9_ (v : Mv_) (a b : Int) : Nat → Int
  | 0 => 0
  | n + 1 => hs9_ v a b n + hg9_ v a b (n : Int)
/-- every club of the first n matches that count has a seat, and only one -/
def SE_ (n e : Int) (v : Mv_) (cl : Int → Int) : Prop := (∀ s t : Int, 0 ≤ s → s < e → 0 ≤ t → t < e → cl s = cl t → s = t) ∧ ∀ k : Int, 0 ≤ k → k < n → v k 0 = 1 → ∀ i, i = 1 ∨ i = 2 → ∃ s, 0 ≤ s ∧ s < e ∧ cl s = v k i
-- the reference's tally, exactly: words
/-- the cards of a sheet -/
def fr9c_ (T : Zt) (sh : Int) : Nat → Int
  | 0 => 0
  | n + 1 => fr9c_ T sh n + (T 242 0 (10 * sh + (n : Int)) + (if T 243 0 (10 * sh + (n : Int)) = 0 then 0 else 3))
theorem frc_0 {T : Zt} {sh : Int} {n : Nat} (h : T 243 0 (10 * sh + (n : Int)) = 0) : fr9c_ T sh (n + 1) = fr9c_ T sh n + (T 242 0 (10 * sh + (n : Int)) + 0) := by
  show fr9c_ T sh n + (T 242 0 (10 * sh + (n : Int)) + (if T 243 0 (10 * sh + (n : Int)) = 0 then 0 else 3)) = _
  rw [if_pos h]
theorem frc_1 {T : Zt} {sh : Int} {n : Nat} (h : T 243 0 (10 * sh + (n : Int)) ≠ 0) : fr9c_ T sh (n + 1) = fr9c_ T sh n + (T 242 0 (10 * sh + (n : Int)) + 3) := by
  show fr9c_ T sh n + (T 242 0 (10 * sh + (n : Int)) + (if T 243 0 (10 * sh + (n : Int)) = 0 then 0 else 3)) = _
  rw [if_neg h]
/-- what the reference tells of match m up to day d -/
noncomputable def vR_ (T : Zt) (d m : Int) : Int → Int := fun i =>
  if i = 0 then cz_ (((T 235 0 m = 2 ∨ T 235 0 m = 3) ∧ T 234 0 m ≤ d) ∨ (¬ (T 235 0 m = 2 ∨ T 235 0 m = 3) ∧ T 111 0 80 ≠ 0)) 1 0
  else if i = 1 then T 232 0 m else if i = 2 then T 233 0 m
  else if i = 3 then cz_ (T 235 0 m = 2 ∨ T 235 0 m = 3) (T 236 0 m) (cz_ (T 281 0 m = 0) 1 0)
  else if i = 4 then cz_ (T 235 0 m = 2 ∨ T 235 0 m = 3) (T 237 0 m) (cz_ (T 281 0 m = 2) 1 0)
  else if i = 5 then cz_ (T 235 0 m = 2) (fr9c_ T (2 * m) (T 239 0 (2 * m)).toNat) 0
  else cz_ (T 235 0 m = 2) (fr9c_ T (2 * m + 1) (T 239 0 (2 * m + 1)).toNat) 0
theorem vr_0 {T : Zt} {d m : Int} : vR_ T d m 0 = cz_ (((T 235 0 m = 2 ∨ T 235 0 m = 3) ∧ T 234 0 m ≤ d) ∨ (¬ (T 235 0 m = 2 ∨ T 235 0 m = 3) ∧ T 111 0 80 ≠ 0)) 1 0 := by
  unfold vR_
  rw [if_pos rfl]
theorem vr_1 {T : Zt} {d m : Int} : vR_ T d m 1 = T 232 0 m := by
  unfold vR_
  rw [if_neg (by decide), if_pos rfl]
theorem vr_2 {T : Zt} {d m : Int} : vR_ T d m 2 = T 233 0 m := by
  unfold vR_
  rw [if_neg (by decide), if_neg (by decide), if_pos rfl]
theorem vr_3 {T : Zt} {d m : Int} : vR_ T d m 3 = cz_ (T 235 0 m = 2 ∨ T 235 0 m = 3) (T 236 0 m) (cz_ (T 281 0 m = 0) 1 0) := by
  unfold vR_
  rw [if_neg (by decide), if_neg (by decide), if_neg (by decide), if_pos rfl]
theorem vr_4 {T : Zt} {d m : Int} : vR_ T d m 4 = cz_ (T 235 0 m = 2 ∨ T 235 0 m = 3) (T 237 0 m) (cz_ (T 281 0 m = 2) 1 0) := by
  unfold vR_
  rw [if_neg (by decide), if_neg (by decide), if_neg (by decide), if_neg (by decide), if_pos rfl]
theorem vr_5 {T : Zt} {d m : Int} : vR_ T d m 5 = cz_ (T 235 0 m = 2) (fr9c_ T (2 * m) (T 239 0 (2 * m)).toNat) 0 := by
  unfold vR_
  rw [if_neg (by decide), if_neg (by decide), if_neg (by decide), if_neg (by decide), if_neg (by decide), if_pos rfl]
theorem vr_6 {T : Zt} {d m : Int} : vR_ T d m 6 = cz_ (T 235 0 m = 2) (fr9c_ T (2 * m + 1) (T 239 0 (2 * m + 1)).toNat) 0 := by
  unfold vR_
  rw [if_neg (by decide), if_neg (by decide), if_neg (by decide), if_neg (by decide), if_neg (by decide), if_neg (by decide)]
theorem vr_c1 {T : Zt} {d m : Int} (h : ((T 235 0 m = 2 ∨ T 235 0 m = 3) ∧ T 234 0 m ≤ d) ∨ (¬ (T 235 0 m = 2 ∨ T 235 0 m = 3) ∧ T 111 0 80 ≠ 0)) : vR_ T d m 0 = 1 := vr_0.trans (cz_t h)
theorem vr_c0 {T : Zt} {d m : Int} (h : ¬ (((T 235 0 m = 2 ∨ T 235 0 m = 3) ∧ T 234 0 m ≤ d) ∨ (¬ (T 235 0 m = 2 ∨ T 235 0 m = 3) ∧ T 111 0 80 ≠ 0))) : vR_ T d m 0 ≠ 1 := fun q => by
  rw [vr_0, cz_f h] at q
  exact absurd q (by decide)
/-- columns that are added to -/
def TV_ (T U : Zt) (D : Int → Int → Int) : Prop := ∀ x w : Int, 0 ≤ x → x < 12 → 0 ≤ w → w ≤ 8 → U 276 0 (9 * x + w) = T 276 0 (9 * x + w) + D x w
theorem tv_0 {T : Zt} : TV_ T T (fun _ _ => 0) := fun x w _ _ _ _ => by
  show T 276 0 (9 * x + w) = T 276 0 (9 * x + w) + 0
  omega
theorem tv_k {T U U2 : Zt} {D : Int → Int → Int} (h : TV_ T U D) (e : ∀ j, U2 276 0 j = U 276 0 j) : TV_ T U2 D := fun x w a b c d => (e _).trans (h x w a b c d)
theorem tv_b {T0 T U : Zt} {D : Int → Int → Int} (h : TV_ T U D) (e : ∀ j, T 276 0 j = T0 276 0 j) : TV_ T0 U D := fun x w a b c d => by rw [← e]; exact h x w a b c d
theorem tv_u {T U U2 : Zt} {D : Int → Int → Int} {j v y c q : Int} (h : TV_ T U D) (e : U2 = up_ U 276 0 j v) (hj : j = 9 * c + q) (hq : 0 ≤ q ∧ q ≤ 8) (hv : v = U 276 0 j + y) : TV_ T U2 (fun x w => D x w + cz_ (x = c ∧ w = q) y 0) := fun x w x0 x1 w0 w1 => by
  show U2 276 0 (9 * x + w) = T 276 0 (9 * x + w) + (D x w + cz_ (x = c ∧ w = q) y 0)
  have g := h x w x0 x1 w0 w1
  by_cases z : x = c ∧ w = q
  · have e9 : 9 * x + w = j := by omega
    rw [cz_t z, e9, up_f e, hv]
    rw [e9] at g
    omega
  · rw [cz_f z, up_g e (fun p => z (by omega)), g]
    omega
theorem tv_t {T U U2 : Zt} {D D' : Int → Int → Int} (h : TV_ T U D) (g : TV_ U U2 D') : TV_ T U2 (fun x w => D x w + D' x w) := fun x w x0 x1 w0 w1 => by
  show U2 276 0 (9 * x + w) = T 276 0 (9 * x + w) + (D x w + D' x w)
  have a := h x w x0 x1 w0 w1
  have b := g x w x0 x1 w0 w1
  omega
theorem tv_e {T U : Zt} {D D' : Int → Int → Int} (h : TV_ T U D) (e : ∀ x w, 0 ≤ x → x < 12 → 0 ≤ w → w ≤ 8 → D x w = D' x w) : TV_ T U D' := fun x w x0 x1 w0 w1 => by
  rw [← e x w x0 x1 w0 w1]
  exact h x w x0 x1 w0 w1
/-- the columns of one result, up to column n -/
noncomputable abbrev tu9_ (ru : Int → Int) (n cl a b : Int) : Int → Int → Int := fun x w => cz_ (x = cl ∧ w < n) (cv9_ ru w a b) 0
theorem tu_0 {T : Zt} {ru : Int → Int} {cl a b : Int} : TV_ T T (tu9_ ru 0 cl a b) := tv_e tv_0 (fun x w _ _ w0 _ => (cz_f (fun q => by omega)).symm)
theorem tu_s {T T1 T2 : Zt} {ru : Int → Int} {n cl a b j v y : Int} (h : TV_ T T1 (tu9_ ru n cl a b)) (e : T2 = up_ T1 276 0 j v) (hj : j = 9 * cl + n) (hn : 0 ≤ n ∧ n ≤ 6) (hv : v = T1 276 0 j + y) (hy : y = cv9_ ru n a b) : TV_ T T2 (tu9_ ru (n + 1) cl a b) := by
  refine tv_e (tv_u h e hj (by omega) hv) (fun x w _ _ w0 w1 => ?_)
  show cz_ (x = cl ∧ w < n) (cv9_ ru w a b) 0 + cz_ (x = cl ∧ w = n) y 0 = cz_ (x = cl ∧ w < n + 1) (cv9_ ru w a b) 0
  by_cases z : x = cl ∧ w = n
  · have e9 : cv9_ ru w a b = y := by rw [z.2, hy]
    rw [cz_t z, cz_f (fun q => by omega), cz_t ⟨z.1, by omega⟩, e9]
    omega
  · rw [cz_f z, cz_g (P := x = cl ∧ w < n + 1) (Q := x = cl ∧ w < n) ⟨fun q => ⟨q.1, by omega⟩, fun q => ⟨q.1, by omega⟩⟩]
    omega
theorem cv_0 {ru : Int → Int} {a b : Int} : cv9_ ru 0 a b = 1 := by
  unfold cv9_
  rw [if_pos rfl]
theorem cv_1t {ru : Int → Int} {a b : Int} (h : b < a) : cv9_ ru 1 a b = 1 := by
  unfold cv9_
  rw [if_neg (by decide), if_pos rfl, if_pos h]
theorem cv_1f {ru : Int → Int} {a b : Int} (h : ¬ b < a) : cv9_ ru 1 a b = 0 := by
  unfold cv9_
  rw [if_neg (by decide), if_pos rfl, if_neg h]
theorem cv_2t {ru : Int → Int} {a b : Int} (h : a = b) : cv9_ ru 2 a b = 1 := by
  unfold cv9_
  rw [if_neg (by decide), if_neg (by decide), if_pos rfl, if_pos h]
theorem cv_2f {ru : Int → Int} {a b : Int} (h : ¬ a = b) : cv9_ ru 2 a b = 0 := by
  unfold cv9_
  rw [if_neg (by decide), if_neg (by decide), if_pos rfl, if_neg h]
theorem cv_3t {ru : Int → Int} {a b : Int} (h : a < b) : cv9_ ru 3 a b = 1 := by
  unfold cv9_
  rw [if_neg (by decide), if_neg (by decide), if_neg (by decide), if_pos rfl, if_pos h]
theorem cv_3f {ru : Int → Int} {a b : Int} (h : ¬ a < b) : cv9_ ru 3 a b = 0 := by
  unfold cv9_
  rw [if_neg (by decide), if_neg (by decide), if_neg (by decide), if_pos rfl, if_neg h]
theorem cv_4 {ru : Int → Int} {a b : Int} : cv9_ ru 4 a b = a := by
  unfold cv9_
  rw [if_neg (by decide), if_neg (by decide), if_neg (by decide), if_neg (by decide), if_pos rfl]
theorem cv_5 {ru : Int → Int} {a b : Int} : cv9_ ru 5 a b = b := by
  unfold cv9_
  rw [if_neg (by decide), if_neg (by decide), if_neg (by decide), if_neg (by decide), if_neg (by decide), if_pos rfl]
theorem cv_6 {ru : Int → Int} {a b : Int} : cv9_ ru 6 a b = ptm9_ ru a b := by
  unfold cv9_
  rw [if_neg (by decide), if_neg (by decide), if_neg (by decide), if_neg (by decide), if_neg (by decide), if_neg (by decide)]
theorem pt_1 {ru : Int → Int} {a b : Int} (h : b < a) : ptm9_ ru a b = ru 1 := if_pos h
theorem pt_2 {ru : Int → Int} {a b : Int} (h : a = b) : ptm9_ ru a b = ru 2 := by
  unfold ptm9_
  rw [if_neg (by omega), if_pos h]
theorem pt_3 {ru : Int → Int} {a b : Int} (h : a < b) : ptm9_ ru a b = ru 3 := by
  unfold ptm9_
  rw [if_neg (by omega), if_neg (by omega)]
/-- a match as the sum of what is added -/
theorem td_d {ru : Int → Int} {v : Mv_} {x w k : Int} (h : v k 0 = 1) (w0 : 0 ≤ w) (w1 : w ≤ 8) : cz_ (x = v k 1 ∧ w < 7) (cv9_ ru w (v k 3) (v k 4)) 0 + cz_ (x = v k 2 ∧ w < 7) (cv9_ ru w (v k 4) (v k 3)) 0 + cz_ (x = v k 2 ∧ w = 7) (v k 4) 0 + cz_ (x = v k 1 ∧ w = 8) (v k 5) 0 + cz_ (x = v k 2 ∧ w = 8) (v k 6) 0 = td9_ ru v x w k := by
  rw [td_1 h]
  by_cases a7 : w = 7
  · rw [if_pos a7, cz_f (P := x = v k 1 ∧ w < 7) (fun q => by omega), cz_f (P := x = v k 2 ∧ w < 7) (fun q => by omega), cz_f (P := x = v k 1 ∧ w = 8) (fun q => by omega), cz_f (P := x = v k 2 ∧ w = 8) (fun q => by omega)]
    by_cases y : v k 2 = x
    · rw [if_pos y, cz_t ⟨y.symm, a7⟩]; omega
    · rw [if_neg y, cz_f (fun q => y q.1.symm)]; omega
  · rw [if_neg a7, cz_f (P := x = v k 2 ∧ w = 7) (fun q => a7 q.2)]
    by_cases a8 : w = 8
    · rw [if_pos a8, cz_f (P := x = v k 1 ∧ w < 7) (fun q => by omega), cz_f (P := x = v k 2 ∧ w < 7) (fun q => by omega)]
      by_cases y : v k 1 = x
      · by_cases y2 : v k 2 = x
        · rw [if_pos y, if_pos y2, cz_t (P := x = v k 1 ∧ w = 8) ⟨y.symm, a8⟩, cz_t (P := x = v k 2 ∧ w = 8) ⟨y2.symm, a8⟩]; omega
        · rw [if_pos y, if_neg y2, cz_t (P := x = v k 1 ∧ w = 8) ⟨y.symm, a8⟩, cz_f (P := x = v k 2 ∧ w = 8) (fun q => y2 q.1.symm)]; omega
      · by_cases y2 : v k 2 = x
        · rw [if_neg y, if_pos y2, cz_f (P := x = v k 1 ∧ w = 8) (fun q => y q.1.symm), cz_t (P := x = v k 2 ∧ w = 8) ⟨y2.symm, a8⟩]; omega
        · rw [if_neg y, if_neg y2, cz_f (P := x = v k 1 ∧ w = 8) (fun q => y q.1.symm), cz_f (P := x = v k 2 ∧ w = 8) (fun q => y2 q.1.symm)]; omega
    · rw [if_neg a8, cz_f (P := x = v k 1 ∧ w = 8) (fun q => a8 q.2), cz_f (P := x = v k 2 ∧ w = 8) (fun q => a8 q.2)]
      by_cases y : v k 1 = x
      · by_cases y2 : v k 2 = x
        · rw [if_pos y, if_pos y2, cz_t (P := x = v k 1 ∧ w < 7) ⟨y.symm, by omega⟩, cz_t (P := x = v k 2 ∧ w < 7) ⟨y2.symm, by omega⟩]; omega
        · rw [if_pos y, if_neg y2, cz_t (P := x = v k 1 ∧ w < 7) ⟨y.symm, by omega⟩, cz_f (P := x = v k 2 ∧ w < 7) (fun q => y2 q.1.symm)]; omega
      · by_cases y2 : v k 2 = x
        · rw [if_neg y, if_pos y2, cz_f (P := x = v k 1 ∧ w < 7) (fun q => y q.1.symm), cz_t (P := x = v k 2 ∧ w < 7) ⟨y2.symm, by omega⟩]; omega
        · rw [if_neg y, if_neg y2, cz_f (P := x = v k 1 ∧ w < 7) (fun q => y q.1.symm), cz_f (P := x = v k 2 ∧ w < 7) (fun q => y2 q.1.symm)]; omega
/-- a match that counts: told for both, then the away score, then the cards -/
theorem tv_m {T U1 U2 U3 : Zt} {ru : Int → Int} {v : Mv_} {k H A a b j y : Int} (h1 : TV_ T U1 (tu9_ ru 7 H a b)) (h2 : TV_ U1 U2 (tu9_ ru 7 A b a)) (e : U3 = up_ U2 276 0 j y) (hj : j = 9 * A + 7) (hy : y = U2 276 0 j + b) (g0 : v k 0 = 1) (g1 : v k 1 = H) (g2 : v k 2 = A) (g3 : v k 3 = a) (g4 : v k 4 = b) : TV_ T U3 (fun x w => cz_ (x = v k 1 ∧ w < 7) (cv9_ ru w (v k 3) (v k 4)) 0 + cz_ (x = v k 2 ∧ w < 7) (cv9_ ru w (v k 4) (v k 3)) 0 + cz_ (x = v k 2 ∧ w = 7) (v k 4) 0) := by
  rw [g1, g2, g3, g4]
  exact tv_u (tv_t h1 h2) e hj (by decide) hy
theorem tv_n {T U3 : Zt} {ru : Int → Int} {v : Mv_} {k : Int} (h : TV_ T U3 (fun x w => cz_ (x = v k 1 ∧ w < 7) (cv9_ ru w (v k 3) (v k 4)) 0 + cz_ (x = v k 2 ∧ w < 7) (cv9_ ru w (v k 4) (v k 3)) 0 + cz_ (x = v k 2 ∧ w = 7) (v k 4) 0)) (g0 : v k 0 = 1) (g5 : v k 5 = 0) (g6 : v k 6 = 0) : TV_ T U3 (fun x w => td9_ ru v x w k) := tv_e h (fun x w _ _ w0 w1 => by
  show cz_ (x = v k 1 ∧ w < 7) (cv9_ ru w (v k 3) (v k 4)) 0 + cz_ (x = v k 2 ∧ w < 7) (cv9_ ru w (v k 4) (v k 3)) 0 + cz_ (x = v k 2 ∧ w = 7) (v k 4) 0 = td9_ ru v x w k
  rw [← td_d g0 w0 w1, cz_0 (P := x = v k 1 ∧ w = 8) g5, cz_0 (P := x = v k 2 ∧ w = 8) g6]
  omega)
theorem tv_f {T U3 U4 U5 : Zt} {ru : Int → Int} {v : Mv_} {k j y j2 y2 : Int} (h : TV_ T U3 (fun x w => cz_ (x = v k 1 ∧ w < 7) (cv9_ ru w (v k 3) (v k 4)) 0 + cz_ (x = v k 2 ∧ w < 7) (cv9_ ru w (v k 4) (v k 3)) 0 + cz_ (x = v k 2 ∧ w = 7) (v k 4) 0)) (e : U4 = up_ U3 276 0 j y) (hj : j = 9 * v k 1 + 8) (hy : y = U3 276 0 j + v k 5) (e2 : U5 = up_ U4 276 0 j2 y2) (hj2 : j2 = 9 * v k 2 + 8) (hy2 : y2 = U4 276 0 j2 + v k 6) (g0 : v k 0 = 1) : TV_ T U5 (fun x w => td9_ ru v x w k) :=
  tv_e (tv_u (tv_u h e hj (by decide) hy) e2 hj2 (by decide) hy2) (fun x w _ _ w0 w1 => td_d g0 w0 w1)
/-- the columns after n matches -/
def TN_ (U : Zt) (ru : Int → Int) (v : Mv_) (n : Nat) : Prop := ∀ x w : Int, 0 ≤ x → x < 12 → 0 ≤ w → w ≤ 8 → U 276 0 (9 * x + w) = tn9_ ru v x w n
theorem tn_s {T U : Zt} {ru : Int → Int} {v : Mv_} {n : Nat} (h : TN_ T ru v n) (g : TV_ T U (fun x w => td9_ ru v x w (n : Int))) : TN_ U ru v (n + 1) := fun x w a b c d => by
  rw [g x w a b c d, h x w a b c d]
  rfl
theorem tn_z {T U : Zt} {ru : Int → Int} {v : Mv_} {n : Nat} (h : TN_ T ru v n) (g : v (n : Int) 0 ≠ 1) (e : ∀ j, U 276 0 j = T 276 0 j) : TN_ U ru v (n + 1) := fun x w a b c d => by
  rw [e, h x w a b c d]
  show tn9_ ru v x w n = tn9_ ru v x w n + td9_ ru v x w (n : Int)
  rw [td_0 g]
  omega
theorem tn_k {T U : Zt} {ru : Int → Int} {v : Mv_} {n : Nat} (h : TN_ T ru v n) (e : ∀ j, U 276 0 j = T 276 0 j) : TN_ U ru v n := fun x w a b c d => by
  rw [e]
  exact h x w a b c d
/-- what is taken from a club, up to the n-th deduction -/
noncomputable def dd9_ (T : Zt) (c d x : Int) : Nat → Int
  | 0 => 0
  | n + 1 => dd9_ T c d x n + cz_ (T 226 0 (n : Int) = x ∧ T 225 0 (n : Int) = c ∧ T 228 0 (n : Int) ≤ d) (T 227 0 (n : Int)) 0
def TD_ (T0 U : Zt) (ru : Int → Int) (v : Mv_) (n : Nat) (c d : Int) (i : Nat) : Prop := ∀ x w : Int, 0 ≤ x → x < 12 → 0 ≤ w → w ≤ 8 → U 276 0 (9 * x + w) = tn9_ ru v x w n - cz_ (w = 6) (dd9_ T0 c d x i) 0
theorem tdd_0 {T0 U : Zt} {ru : Int → Int} {v : Mv_} {n : Nat} {c d : Int} (h : TN_ U ru v n) : TD_ T0 U ru v n c d 0 := fun x w a b e f => by
  rw [h x w a b e f, cz_0 (show dd9_ T0 c d x 0 = 0 from rfl)]
  omega
theorem tdd_s {T0 U U2 : Zt} {ru : Int → Int} {v : Mv_} {n i : Nat} {c d j y q : Int} (h : TD_ T0 U ru v n c d i) (e : U2 = up_ U 276 0 j y) (hj : j = 9 * T0 226 0 (i : Int) + 6) (hy : y = U 276 0 j - q) (hq : q = cz_ (T0 225 0 (i : Int) = c ∧ T0 228 0 (i : Int) ≤ d) (T0 227 0 (i : Int)) 0) : TD_ T0 U2 ru v n c d (i + 1) := fun x w a b e0 f => by
  have g := h x w a b e0 f
  have ed : dd9_ T0 c d x (i + 1) = dd9_ T0 c d x i + cz_ (T0 226 0 (i : Int) = x ∧ T0 225 0 (i : Int) = c ∧ T0 228 0 (i : Int) ≤ d) (T0 227 0 (i : Int)) 0 := rfl
  by_cases z : x = T0 226 0 (i : Int) ∧ w = 6
  · have e9 : 9 * x + w = j := by omega
    have c9 : cz_ (T0 226 0 (i : Int) = x ∧ T0 225 0 (i : Int) = c ∧ T0 228 0 (i : Int) ≤ d) (T0 227 0 (i : Int)) 0 = q := by
      rw [hq]
      exact cz_g ⟨fun p => p.2, fun p => ⟨z.1.symm, p⟩⟩
    rw [cz_t z.2, ed, c9, e9, up_f e, hy]
    rw [cz_t z.2, e9] at g
    omega
  · rw [up_g e (fun p => z (by omega)), g]
    by_cases w6 : w = 6
    · rw [cz_t w6, cz_t w6, ed, cz_f (fun p => z ⟨p.1.symm, w6⟩)]
      omega
    · rw [cz_f w6, cz_f w6]
theorem tdd_k {T0 U U2 : Zt} {ru : Int → Int} {v : Mv_} {n i : Nat} {c d : Int} (h : TD_ T0 U ru v n c d i) (e : ∀ j, U2 276 0 j = U 276 0 j) : TD_ T0 U2 ru v n c d i := fun x w a b g f => by
  rw [e]
  exact h x w a b g f
theorem frc_k {T U : Zt} (h2 : ∀ j, U 242 0 j = T 242 0 j) (h3 : ∀ j, U 243 0 j = T 243 0 j) {sh : Int} : ∀ n : Nat, fr9c_ U sh n = fr9c_ T sh n
  | 0 => rfl
  | n + 1 => by
    show fr9c_ U sh n + (U 242 0 (10 * sh + (n : Int)) + (if U 243 0 (10 * sh + (n : Int)) = 0 then 0 else 3)) = fr9c_ T sh n + (T 242 0 (10 * sh + (n : Int)) + (if T 243 0 (10 * sh + (n : Int)) = 0 then 0 else 3))
    rw [frc_k h2 h3 n, h2, h3]
theorem frc_q {ws : List (Nat × List Int)} {T U : Zt} (f : fr_ ws T U) (w2 : ∀ j, fw_ ws 242 j = false) (w3 : ∀ j, fw_ ws 243 j = false) (w9 : ∀ j, fw_ ws 239 j = false) {sh : Int} : fr9c_ U sh (U 239 0 sh).toNat = fr9c_ T sh (T 239 0 sh).toNat := by
  rw [f 239 0 sh (w9 sh)]
  exact frc_k (fun j => f 242 0 j (w2 j)) (fun j => f 243 0 j (w3 j)) _
theorem vr_g {ws : List (Nat × List Int)} {T T2 : Zt} {d m : Int} (f : fr_ ws T T2) (w : ∀ (k : Nat) (j : Int), k = 232 ∨ k = 233 ∨ k = 234 ∨ k = 235 ∨ k = 236 ∨ k = 237 ∨ k = 239 ∨ k = 242 ∨ k = 243 ∨ k = 281 → fw_ ws k j = false) (w8 : fw_ ws 111 80 = false) : vR_ T2 d m = vR_ T d m := by
  have e32 : ∀ j, T2 232 0 j = T 232 0 j := fun j => f 232 0 j (w 232 j (by decide))
  have e33 : ∀ j, T2 233 0 j = T 233 0 j := fun j => f 233 0 j (w 233 j (by decide))
  have e34 : ∀ j, T2 234 0 j = T 234 0 j := fun j => f 234 0 j (w 234 j (by decide))
  have e35 : ∀ j, T2 235 0 j = T 235 0 j := fun j => f 235 0 j (w 235 j (by decide))
  have e36 : ∀ j, T2 236 0 j = T 236 0 j := fun j => f 236 0 j (w 236 j (by decide))
  have e37 : ∀ j, T2 237 0 j = T 237 0 j := fun j => f 237 0 j (w 237 j (by decide))
  have e39 : ∀ j, T2 239 0 j = T 239 0 j := fun j => f 239 0 j (w 239 j (by decide))
  have e81 : ∀ j, T2 281 0 j = T 281 0 j := fun j => f 281 0 j (w 281 j (by decide))
  have e80 : T2 111 0 80 = T 111 0 80 := f 111 0 80 w8
  have ef : ∀ sh n, fr9c_ T2 sh n = fr9c_ T sh n := fun sh n => frc_k (fun j => f 242 0 j (w 242 j (by decide))) (fun j => f 243 0 j (w 243 j (by decide))) n
  funext i
  simp only [vR_, e32, e33, e34, e35, e36, e37, e39, e81, e80, ef]
theorem bk_X11_counts_e_0 : ck_ fX11 (some .boolean) cX11_counts 0 [.aload 0, .tableswitch 0 11 35 #[], .iload 1, .iaload, .iconst 2, .if_icmp .eq 20, .aload 0, .tableswitch 0 11 35 #[], .iload 1, .iaload, .iconst 3, .if_icmp .ne 56, .aload 0, .aload 0, .tableswitch 0 11 36 #[], .iload 1, .iaload, .tableswitch 1 11 82 #[], .aload 0, .aload 0, .tableswitch 0 11 37 #[], .iload 1, .iaload, .tableswitch 1 11 83 #[], .aload 0, .tableswitch 0 11 34 #[], .iload 1, .iaload, .iload 2, .if_icmp .gt 54, .iconst 1, .goto 55] 54 = true := qck_r (nn_ _) (by decide +kernel)
theorem bs_X11_counts_e_0 {P : Zt → Option Zv → Prop} (K : Int → Zl → List Zv → Zt → Prop) : sx_ K P [.aload 0, .tableswitch 0 11 35 #[], .iload 1, .iaload, .iconst 2, .if_icmp .eq 20, .aload 0, .tableswitch 0 11 35 #[], .iload 1, .iaload, .iconst 3, .if_icmp .ne 56, .aload 0, .aload 0, .tableswitch 0 11 36 #[], .iload 1, .iaload, .tableswitch 1 11 82 #[], .aload 0, .aload 0, .tableswitch 0 11 37 #[], .iload 1, .iaload, .tableswitch 1 11 83 #[], .aload 0, .tableswitch 0 11 34 #[], .iload 1, .iaload, .iload 2, .if_icmp .gt 54, .iconst 1, .goto 55] 54 = x_aload 0 (x_g1 111 235 (x_iload 1 (x_iaload (x_iconst 2 (x_if_icmp .eq 20 K (x_aload 0 (x_g1 111 235 (x_iload 1 (x_iaload (x_iconst 3 (x_if_icmp .ne 56 K (x_aload 0 (x_aload 0 (x_g1 111 236 (x_iload 1 (x_iaload (x_p 111 82 (-2147483648) 2147483647 (x_aload 0 (x_aload 0 (x_g1 111 237 (x_iload 1 (x_iaload (x_p 111 83 (-2147483648) 2147483647 (x_aload 0 (x_g1 111 234 (x_iload 1 (x_iaload (x_iload 2 (x_if_icmp .gt 54 K (x_iconst 1 (x_goto 55 K))))))))))))))))))))))))))))))) := ((xe_aload 0).trans (congrArg (x_aload 0) ((xe_g1 (kk := 111) rfl tl_11_35).trans (congrArg (x_g1 111 235) ((xe_iload 1).trans (congrArg (x_iload 1) ((xe_iaload).trans (congrArg (x_iaload) ((xe_iconst 2).trans (congrArg (x_iconst 2) ((xe_if_icmp .eq 20).trans (congrArg (x_if_icmp .eq 20 K) ((xe_aload 0).trans (congrArg (x_aload 0) ((xe_g1 (kk := 111) rfl tl_11_35).trans (congrArg (x_g1 111 235) ((xe_iload 1).trans (congrArg (x_iload 1) ((xe_iaload).trans (congrArg (x_iaload) ((xe_iconst 3).trans (congrArg (x_iconst 3) ((xe_if_icmp .ne 56).trans (congrArg (x_if_icmp .ne 56 K) ((xe_aload 0).trans (congrArg (x_aload 0) ((xe_aload 0).trans (congrArg (x_aload 0) ((xe_g1 (kk := 111) rfl tl_11_36).trans (congrArg (x_g1 111 236) ((xe_iload 1).trans (congrArg (x_iload 1) ((xe_iaload).trans (congrArg (x_iaload) ((xe_p (kk := 111) rfl tl_11_82).trans (congrArg (x_p 111 82 (-2147483648) 2147483647) ((xe_aload 0).trans (congrArg (x_aload 0) ((xe_aload 0).trans (congrArg (x_aload 0) ((xe_g1 (kk := 111) rfl tl_11_37).trans (congrArg (x_g1 111 237) ((xe_iload 1).trans (congrArg (x_iload 1) ((xe_iaload).trans (congrArg (x_iaload) ((xe_p (kk := 111) rfl tl_11_83).trans (congrArg (x_p 111 83 (-2147483648) 2147483647) ((xe_aload 0).trans (congrArg (x_aload 0) ((xe_g1 (kk := 111) rfl tl_11_34).trans (congrArg (x_g1 111 234) ((xe_iload 1).trans (congrArg (x_iload 1) ((xe_iaload).trans (congrArg (x_iaload) ((xe_iload 2).trans (congrArg (x_iload 2) ((xe_if_icmp .gt 54).trans (congrArg (x_if_icmp .gt 54 K) ((xe_iconst 1).trans (congrArg (x_iconst 1) (xe_goto 55)))))))))))))))))))))))))))))))))))))))))))))))))))))))))))))))
theorem bk_X11_counts_e_20 : ck_ fX11 (some .boolean) cX11_counts 20 [.aload 0, .aload 0, .tableswitch 0 11 36 #[], .iload 1, .iaload, .tableswitch 1 11 82 #[], .aload 0, .aload 0, .tableswitch 0 11 37 #[], .iload 1, .iaload, .tableswitch 1 11 83 #[], .aload 0, .tableswitch 0 11 34 #[], .iload 1, .iaload, .iload 2, .if_icmp .gt 54, .iconst 1, .goto 55] 54 = true := qck_r (nn_ _) (by decide +kernel)
theorem bs_X11_counts_e_20 {P : Zt → Option Zv → Prop} (K : Int → Zl → List Zv → Zt → Prop) : sx_ K P [.aload 0, .aload 0, .tableswitch 0 11 36 #[], .iload 1, .iaload, .tableswitch 1 11 82 #[], .aload 0, .aload 0, .tableswitch 0 11 37 #[], .iload 1, .iaload, .tableswitch 1 11 83 #[], .aload 0, .tableswitch 0 11 34 #[], .iload 1, .iaload, .iload 2, .if_icmp .gt 54, .iconst 1, .goto 55] 54 = x_aload 0 (x_aload 0 (x_g1 111 236 (x_iload 1 (x_iaload (x_p 111 82 (-2147483648) 2147483647 (x_aload 0 (x_aload 0 (x_g1 111 237 (x_iload 1 (x_iaload (x_p 111 83 (-2147483648) 2147483647 (x_aload 0 (x_g1 111 234 (x_iload 1 (x_iaload (x_iload 2 (x_if_icmp .gt 54 K (x_iconst 1 (x_goto 55 K))))))))))))))))))) := ((xe_aload 0).trans (congrArg (x_aload 0) ((xe_aload 0).trans (congrArg (x_aload 0) ((xe_g1 (kk := 111) rfl tl_11_36).trans (congrArg (x_g1 111 236) ((xe_iload 1).trans (congrArg (x_iload 1) ((xe_iaload).trans (congrArg (x_iaload) ((xe_p (kk := 111) rfl tl_11_82).trans (congrArg (x_p 111 82 (-2147483648) 2147483647) ((xe_aload 0).trans (congrArg (x_aload 0) ((xe_aload 0).trans (congrArg (x_aload 0) ((xe_g1 (kk := 111) rfl tl_11_37).trans (congrArg (x_g1 111 237) ((xe_iload 1).trans (congrArg (x_iload 1) ((xe_iaload).trans (congrArg (x_iaload) ((xe_p (kk := 111) rfl tl_11_83).trans (congrArg (x_p 111 83 (-2147483648) 2147483647) ((xe_aload 0).trans (congrArg (x_aload 0) ((xe_g1 (kk := 111) rfl tl_11_34).trans (congrArg (x_g1 111 234) ((xe_iload 1).trans (congrArg (x_iload 1) ((xe_iaload).trans (congrArg (x_iaload) ((xe_iload 2).trans (congrArg (x_iload 2) ((xe_if_icmp .gt 54).trans (congrArg (x_if_icmp .gt 54 K) ((xe_iconst 1).trans (congrArg (x_iconst 1) (xe_goto 55)))))))))))))))))))))))))))))))))))))))
theorem bk_X11_counts_e_54 : ck_ fX11 (some .boolean) cX11_counts 54 [.iconst 0, .ireturn] 56 = true := qck_r (nn_ _) (by decide +kernel)
theorem bs_X11_counts_e_54 {P : Zt → Option Zv → Prop} (K : Int → Zl → List Zv → Zt → Prop) : sx_ K P [.iconst 0, .ireturn] 56 = x_iconst 0 (x_ireturn P) := ((xe_iconst 0).trans (congrArg (x_iconst 0) (xe_ireturn)))
theorem bk_X11_counts_e_55 : ck_ fX11 (some .boolean) cX11_counts 55 [.ireturn] 56 = true := qck_r (nn_ _) (by decide +kernel)
theorem bs_X11_counts_e_55 {P : Zt → Option Zv → Prop} (K : Int → Zl → List Zv → Zt → Prop) : sx_ K P [.ireturn] 56 = x_ireturn P := (xe_ireturn)
theorem bk_X11_counts_e_56 : ck_ fX11 (some .boolean) cX11_counts 56 [.aload 0, .tableswitch 0 11 80 #[], .ifCond .eq 102, .aload 0, .aload 0, .tableswitch 0 11 81 #[], .iload 1, .iaload, .ifCond .ne 77, .iconst 1, .goto 78] 77 = true := qck_r (nn_ _) (by decide +kernel)
theorem bs_X11_counts_e_56 {P : Zt → Option Zv → Prop} (K : Int → Zl → List Zv → Zt → Prop) : sx_ K P [.aload 0, .tableswitch 0 11 80 #[], .ifCond .eq 102, .aload 0, .aload 0, .tableswitch 0 11 81 #[], .iload 1, .iaload, .ifCond .ne 77, .iconst 1, .goto 78] 77 = x_aload 0 (x_g0 111 80 0 1 (x_ifCond .eq 102 K (x_aload 0 (x_aload 0 (x_g1 111 281 (x_iload 1 (x_iaload (x_ifCond .ne 77 K (x_iconst 1 (x_goto 78 K)))))))))) := ((xe_aload 0).trans (congrArg (x_aload 0) ((xe_g0 (kk := 111) rfl tl_11_80).trans (congrArg (x_g0 111 80 0 1) ((xe_ifCond .eq 102).trans (congrArg (x_ifCond .eq 102 K) ((xe_aload 0).trans (congrArg (x_aload 0) ((xe_aload 0).trans (congrArg (x_aload 0) ((xe_g1 (kk := 111) rfl tl_11_81).trans (congrArg (x_g1 111 281) ((xe_iload 1).trans (congrArg (x_iload 1) ((xe_iaload).trans (congrArg (x_iaload) ((xe_ifCond .ne 77).trans (congrArg (x_ifCond .ne 77 K) ((xe_iconst 1).trans (congrArg (x_iconst 1) (xe_goto 78)))))))))))))))))))))
theorem bk_X11_counts_e_102 : ck_ fX11 (some .boolean) cX11_counts 102 [.iconst 0, .ireturn] 104 = true := qck_r (nn_ _) (by decide +kernel)
theorem bs_X11_counts_e_102 {P : Zt → Option Zv → Prop} (K : Int → Zl → List Zv → Zt → Prop) : sx_ K P [.iconst 0, .ireturn] 104 = x_iconst 0 (x_ireturn P) := ((xe_iconst 0).trans (congrArg (x_iconst 0) (xe_ireturn)))
theorem bk_X11_counts_e_77 : ck_ fX11 (some .boolean) cX11_counts 77 [.iconst 0, .tableswitch 1 11 82 #[], .aload 0, .aload 0, .tableswitch 0 11 81 #[], .iload 1, .iaload, .iconst 2, .if_icmp .ne 96, .iconst 1, .goto 97] 96 = true := qck_r (nn_ _) (by decide +kernel)
theorem bs_X11_counts_e_77 {P : Zt → Option Zv → Prop} (K : Int → Zl → List Zv → Zt → Prop) : sx_ K P [.iconst 0, .tableswitch 1 11 82 #[], .aload 0, .aload 0, .tableswitch 0 11 81 #[], .iload 1, .iaload, .iconst 2, .if_icmp .ne 96, .iconst 1, .goto 97] 96 = x_iconst 0 (x_p 111 82 (-2147483648) 2147483647 (x_aload 0 (x_aload 0 (x_g1 111 281 (x_iload 1 (x_iaload (x_iconst 2 (x_if_icmp .ne 96 K (x_iconst 1 (x_goto 97 K)))))))))) := ((xe_iconst 0).trans (congrArg (x_iconst 0) ((xe_p (kk := 111) rfl tl_11_82).trans (congrArg (x_p 111 82 (-2147483648) 2147483647) ((xe_aload 0).trans (congrArg (x_aload 0) ((xe_aload 0).trans (congrArg (x_aload 0) ((xe_g1 (kk := 111) rfl tl_11_81).trans (congrArg (x_g1 111 281) ((xe_iload 1).trans (congrArg (x_iload 1) ((xe_iaload).trans (congrArg (x_iaload) ((xe_iconst 2).trans (congrArg (x_iconst 2) ((xe_if_icmp .ne 96).trans (congrArg (x_if_icmp .ne 96 K) ((xe_iconst 1).trans (congrArg (x_iconst 1) (xe_goto 97)))))))))))))))))))))
theorem bk_X11_counts_e_96 : ck_ fX11 (some .boolean) cX11_counts 96 [.iconst 0, .tableswitch 1 11 83 #[], .iconst 1, .ireturn] 102 = true := qck_r (nn_ _) (by decide +kernel)
theorem bs_X11_counts_e_96 {P : Zt → Option Zv → Prop} (K : Int → Zl → List Zv → Zt → Prop) : sx_ K P [.iconst 0, .tableswitch 1 11 83 #[], .iconst 1, .ireturn] 102 = x_iconst 0 (x_p 111 83 (-2147483648) 2147483647 (x_iconst 1 (x_ireturn P))) := ((xe_iconst 0).trans (congrArg (x_iconst 0) ((xe_p (kk := 111) rfl tl_11_83).trans (congrArg (x_p 111 83 (-2147483648) 2147483647) ((xe_iconst 1).trans (congrArg (x_iconst 1) (xe_ireturn)))))))
theorem bk_X11_counts_e_97 : ck_ fX11 (some .boolean) cX11_counts 97 [.tableswitch 1 11 83 #[], .iconst 1, .ireturn] 102 = true := qck_r (nn_ _) (by decide +kernel)
theorem bs_X11_counts_e_97 {P : Zt → Option Zv → Prop} (K : Int → Zl → List Zv → Zt → Prop) : sx_ K P [.tableswitch 1 11 83 #[], .iconst 1, .ireturn] 102 = x_p 111 83 (-2147483648) 2147483647 (x_iconst 1 (x_ireturn P)) := ((xe_p (kk := 111) rfl tl_11_83).trans (congrArg (x_p 111 83 (-2147483648) 2147483647) ((xe_iconst 1).trans (congrArg (x_iconst 1) (xe_ireturn)))))
theorem bk_X11_counts_e_78 : ck_ fX11 (some .boolean) cX11_counts 78 [.tableswitch 1 11 82 #[], .aload 0, .aload 0, .tableswitch 0 11 81 #[], .iload 1, .iaload, .iconst 2, .if_icmp .ne 96, .iconst 1, .goto 97] 96 = true := qck_r (nn_ _) (by decide +kernel)
theorem bs_X11_counts_e_78 {P : Zt → Option Zv → Prop} (K : Int → Zl → List Zv → Zt → Prop) : sx_ K P [.tableswitch 1 11 82 #[], .aload 0, .aload 0, .tableswitch 0 11 81 #[], .iload 1, .iaload, .iconst 2, .if_icmp .ne 96, .iconst 1, .goto 97] 96 = x_p 111 82 (-2147483648) 2147483647 (x_aload 0 (x_aload 0 (x_g1 111 281 (x_iload 1 (x_iaload (x_iconst 2 (x_if_icmp .ne 96 K (x_iconst 1 (x_goto 97 K))))))))) := ((xe_p (kk := 111) rfl tl_11_82).trans (congrArg (x_p 111 82 (-2147483648) 2147483647) ((xe_aload 0).trans (congrArg (x_aload 0) ((xe_aload 0).trans (congrArg (x_aload 0) ((xe_g1 (kk := 111) rfl tl_11_81).trans (congrArg (x_g1 111 281) ((xe_iload 1).trans (congrArg (x_iload 1) ((xe_iaload).trans (congrArg (x_iaload) ((xe_iconst 2).trans (congrArg (x_iconst 2) ((xe_if_icmp .ne 96).trans (congrArg (x_if_icmp .ne 96 K) ((xe_iconst 1).trans (congrArg (x_iconst 1) (xe_goto 97)))))))))))))))))))
abbrev po_X11_counts_e (T : Zt) (m d : Int) : Zt → Option Zv → Prop := fun T' r => ∃ x : Int, r = some (vI x) ∧ fr_ [(111, [82, 83])] T T' ∧ (((0 ≤ x ∧ x ≤ 1) ∧ (x = 1 → (0 ≤ T' 111 0 82 ∧ T' 111 0 82 ≤ 20000) ∧ (0 ≤ T' 111 0 83 ∧ T' 111 0 83 ≤ 20000))) ∧ ((x = 1 ∧ vR_ T d m 0 = 1 ∧ T' 111 0 82 = vR_ T d m 3 ∧ T' 111 0 83 = vR_ T d m 4) ∨ (x = 0 ∧ vR_ T d m 0 ≠ 1)))
set_option maxHeartbeats 4000000 in
theorem ct_X11_counts_e {T : Zt} {m d : Int} (h1 : 0 ≤ m ∧ m < 400) (hsc : SC_ T) : Ct_ yX11_counts zX11_counts T [vR 111 0, vI m, vI d] (po_X11_counts_e T m d) := by
  refine ct_of pn_11 rfl rfl (Nat.le_of_ble_eq_true rfl) (fun hT hav => ?_)
  have hr_m : -2147483648 ≤ m ∧ m ≤ 2147483647 := hav (vI m) (List.mem_cons_of_mem _ List.mem_cons_self)
  have hr_d : -2147483648 ≤ d ∧ d ≤ 2147483647 := hav (vI d) (List.mem_cons_of_mem _ (List.mem_cons_of_mem _ List.mem_cons_self))
  have hz : zX11_counts.2.2.2.1 = some .boolean → ∀ (T' : Zt) (x : Int), po_X11_counts_e T m d T' (some (vI x)) → 0 ≤ x ∧ x ≤ 1 := fun _ T' x h => by obtain ⟨y, e, -, hy⟩ := h; cases e; exact hy.1.1
  have hsm := hsc m (by omega) (by omega)
  show J_ zX11_counts T (po_X11_counts_e T m d) 0 0 0 [some (vR 111 0), some (vI m), some (vI d)] [] T
  refine j_blx (F := fX11) tb_X11 (nn_ _) bk_X11_counts_e_0 bs_X11_counts_e_0 hz (fun K hK => ?_)
  refine ix_i (by omega) ?_
  intro b1 b1b
  refine And.intro (fun c2 => ?_) (fun c2 => ?_)
  · refine hK 20 _ [] T ?_
    refine j_blx (F := fX11) tb_X11 (nn_ _) bk_X11_counts_e_20 bs_X11_counts_e_20 hz (fun K hK => ?_)
    refine ix_i (by omega) ?_
    intro b3 b3b
    refine bd_i (by omega) ?_
    refine x_nm (fun U4 hU4 => ?_)
    have e5 := up_f hU4
    refine ix_i (by omega) ?_
    intro b6 b6b
    have e7 : U4 237 0 m = T 237 0 m := up_k hU4 (by exact Nat.ne_of_beq_eq_false rfl) 0 m
    rw [e7] at b6 b6b ⊢
    refine bd_i (by omega) ?_
    refine x_nm (fun U8 hU8 => ?_)
    have e9 := up_f hU8
    refine ix_i (by omega) ?_
    intro b10 b10b
    have e11 : U8 234 0 m = T 234 0 m := (up_k hU8 (by exact Nat.ne_of_beq_eq_false rfl) 0 m).trans (up_k hU4 (by exact Nat.ne_of_beq_eq_false rfl) 0 m)
    rw [e11] at b10 b10b ⊢
    refine And.intro (fun c12 => ?_) (fun c12 => ?_)
    · refine hK 54 _ [] U8 ?_
      refine j_blx (F := fX11) tb_X11 (nn_ _) bk_X11_counts_e_54 bs_X11_counts_e_54 hz (fun K hK => ?_)
      refine (show po_X11_counts_e T m d U8 (some (vI 0)) from ?_)
      have e13 : U8 111 0 82 = T 236 0 m := (up_j hU8 (by decide) 111 0).trans (up_f hU4)
      have e14 : U8 111 0 83 = T 237 0 m := up_f hU8
      exact ⟨_, rfl, fr_u (fr_u (fr_0 _ _) hU4 rfl) hU8 rfl, ⟨by omega, fun z => absurd z (by decide)⟩, Or.inr ⟨rfl, vr_c0 (by omega)⟩⟩
    · refine hK 55 _ [vI 1] U8 ?_
      refine j_blx (F := fX11) tb_X11 (nn_ _) bk_X11_counts_e_55 bs_X11_counts_e_55 hz (fun K hK => ?_)
      refine (show po_X11_counts_e T m d U8 (some (vI 1)) from ?_)
      have e15 : U8 111 0 82 = T 236 0 m := (up_j hU8 (by decide) 111 0).trans (up_f hU4)
      have e16 : U8 111 0 83 = T 237 0 m := up_f hU8
      have e17 : U8 111 0 82 = T 236 0 m := (up_j hU8 (by decide) 111 0).trans (up_f hU4)
      have e18 : U8 111 0 83 = T 237 0 m := up_f hU8
      have v3 : U8 111 0 82 = vR_ T d m 3 := by
        rw [vr_3]
        first
        | (rw [cz_t (by omega)]; omega)
        | (rw [cz_f (by omega), cz_t (by omega)]; omega)
        | (rw [cz_f (by omega), cz_f (by omega)]; omega)
      have v4 : U8 111 0 83 = vR_ T d m 4 := by
        rw [vr_4]
        first
        | (rw [cz_t (by omega)]; omega)
        | (rw [cz_f (by omega), cz_t (by omega)]; omega)
        | (rw [cz_f (by omega), cz_f (by omega)]; omega)
      exact ⟨_, rfl, fr_u (fr_u (fr_0 _ _) hU4 rfl) hU8 rfl, ⟨by omega, fun _ => by omega⟩, Or.inl ⟨rfl, vr_c1 (by omega), v3, v4⟩⟩
  · refine ix_i (by omega) ?_
    intro b19 b19b
    refine And.intro (fun c20 => ?_) (fun c20 => ?_)
    · refine hK 56 _ [] T ?_
      refine j_blx (F := fX11) tb_X11 (nn_ _) bk_X11_counts_e_56 bs_X11_counts_e_56 hz (fun K hK => ?_)
      intro b21 b21b
      refine And.intro (fun c22 => ?_) (fun c22 => ?_)
      · refine hK 102 _ [] T ?_
        refine j_blx (F := fX11) tb_X11 (nn_ _) bk_X11_counts_e_102 bs_X11_counts_e_102 hz (fun K hK => ?_)
        refine (show po_X11_counts_e T m d T (some (vI 0)) from ?_)
        exact ⟨_, rfl, fr_0 _ _, ⟨by omega, fun z => absurd z (by decide)⟩, Or.inr ⟨rfl, vr_c0 (by omega)⟩⟩
      · refine ix_i (by omega) ?_
        intro b23 b23b
        refine And.intro (fun c24 => ?_) (fun c24 => ?_)
        · refine hK 77 _ [vR 111 0] T ?_
          refine j_blx (F := fX11) tb_X11 (nn_ _) bk_X11_counts_e_77 bs_X11_counts_e_77 hz (fun K hK => ?_)
          refine bd_i (by omega) ?_
          refine x_nm (fun U25 hU25 => ?_)
          have e26 := up_f hU25
          refine ix_i (by omega) ?_
          intro b27 b27b
          have e28 : U25 281 0 m = T 281 0 m := up_k hU25 (by exact Nat.ne_of_beq_eq_false rfl) 0 m
          rw [e28] at b27 b27b ⊢
          refine And.intro (fun c29 => ?_) (fun c29 => ?_)
          · refine hK 96 _ [vR 111 0] U25 ?_
            refine j_blx (F := fX11) tb_X11 (nn_ _) bk_X11_counts_e_96 bs_X11_counts_e_96 hz (fun K hK => ?_)
            refine bd_i (by omega) ?_
            refine x_nm (fun U30 hU30 => ?_)
            have e31 := up_f hU30
            refine (show po_X11_counts_e T m d U30 (some (vI 1)) from ?_)
            have e32 : U30 111 0 82 = 0 := (up_j hU30 (by decide) 111 0).trans (up_f hU25)
            have e33 : U30 111 0 83 = 0 := up_f hU30
            have e34 : U30 111 0 82 = 0 := (up_j hU30 (by decide) 111 0).trans (up_f hU25)
            have e35 : U30 111 0 83 = 0 := up_f hU30
            have v3 : U30 111 0 82 = vR_ T d m 3 := by
              rw [vr_3]
              first
              | (rw [cz_t (by omega)]; omega)
              | (rw [cz_f (by omega), cz_t (by omega)]; omega)
              | (rw [cz_f (by omega), cz_f (by omega)]; omega)
            have v4 : U30 111 0 83 = vR_ T d m 4 := by
              rw [vr_4]
              first
              | (rw [cz_t (by omega)]; omega)
              | (rw [cz_f (by omega), cz_t (by omega)]; omega)
              | (rw [cz_f (by omega), cz_f (by omega)]; omega)
            exact ⟨_, rfl, fr_u (fr_u (fr_0 _ _) hU25 rfl) hU30 rfl, ⟨by omega, fun _ => by omega⟩, Or.inl ⟨rfl, vr_c1 (by omega), v3, v4⟩⟩
          · refine hK 97 _ [vI 1, vR 111 0] U25 ?_
            refine j_blx (F := fX11) tb_X11 (nn_ _) bk_X11_counts_e_97 bs_X11_counts_e_97 hz (fun K hK => ?_)
            refine bd_i (by omega) ?_
            refine x_nm (fun U36 hU36 => ?_)
            have e37 := up_f hU36
            refine (show po_X11_counts_e T m d U36 (some (vI 1)) from ?_)
            have e38 : U36 111 0 82 = 0 := (up_j hU36 (by decide) 111 0).trans (up_f hU25)
            have e39 : U36 111 0 83 = 1 := up_f hU36
            have e40 : U36 111 0 82 = 0 := (up_j hU36 (by decide) 111 0).trans (up_f hU25)
            have e41 : U36 111 0 83 = 1 := up_f hU36
            have v3 : U36 111 0 82 = vR_ T d m 3 := by
              rw [vr_3]
              first
              | (rw [cz_t (by omega)]; omega)
              | (rw [cz_f (by omega), cz_t (by omega)]; omega)
              | (rw [cz_f (by omega), cz_f (by omega)]; omega)
            have v4 : U36 111 0 83 = vR_ T d m 4 := by
              rw [vr_4]
              first
              | (rw [cz_t (by omega)]; omega)
              | (rw [cz_f (by omega), cz_t (by omega)]; omega)
              | (rw [cz_f (by omega), cz_f (by omega)]; omega)
            exact ⟨_, rfl, fr_u (fr_u (fr_0 _ _) hU25 rfl) hU36 rfl, ⟨by omega, fun _ => by omega⟩, Or.inl ⟨rfl, vr_c1 (by omega), v3, v4⟩⟩
        · refine hK 78 _ [vI 1, vR 111 0] T ?_
          refine j_blx (F := fX11) tb_X11 (nn_ _) bk_X11_counts_e_78 bs_X11_counts_e_78 hz (fun K hK => ?_)
          refine bd_i (by omega) ?_
          refine x_nm (fun U42 hU42 => ?_)
          have e43 := up_f hU42
          refine ix_i (by omega) ?_
          intro b44 b44b
          have e45 : U42 281 0 m = T 281 0 m := up_k hU42 (by exact Nat.ne_of_beq_eq_false rfl) 0 m
          rw [e45] at b44 b44b ⊢
          refine And.intro (fun c46 => ?_) (fun c46 => ?_)
          · refine hK 96 _ [vR 111 0] U42 ?_
            refine j_blx (F := fX11) tb_X11 (nn_ _) bk_X11_counts_e_96 bs_X11_counts_e_96 hz (fun K hK => ?_)
            refine bd_i (by omega) ?_
            refine x_nm (fun U47 hU47 => ?_)
            have e48 := up_f hU47
            refine (show po_X11_counts_e T m d U47 (some (vI 1)) from ?_)
            have e49 : U47 111 0 82 = 1 := (up_j hU47 (by decide) 111 0).trans (up_f hU42)
            have e50 : U47 111 0 83 = 0 := up_f hU47
            have e51 : U47 111 0 82 = 1 := (up_j hU47 (by decide) 111 0).trans (up_f hU42)
            have e52 : U47 111 0 83 = 0 := up_f hU47
            have v3 : U47 111 0 82 = vR_ T d m 3 := by
              rw [vr_3]
              first
              | (rw [cz_t (by omega)]; omega)
              | (rw [cz_f (by omega), cz_t (by omega)]; omega)
              | (rw [cz_f (by omega), cz_f (by omega)]; omega)
            have v4 : U47 111 0 83 = vR_ T d m 4 := by
              rw [vr_4]
              first
              | (rw [cz_t (by omega)]; omega)
              | (rw [cz_f (by omega), cz_t (by omega)]; omega)
              | (rw [cz_f (by omega), cz_f (by omega)]; omega)
            exact ⟨_, rfl, fr_u (fr_u (fr_0 _ _) hU42 rfl) hU47 rfl, ⟨by omega, fun _ => by omega⟩, Or.inl ⟨rfl, vr_c1 (by omega), v3, v4⟩⟩
          · refine hK 97 _ [vI 1, vR 111 0] U42 ?_
            refine j_blx (F := fX11) tb_X11 (nn_ _) bk_X11_counts_e_97 bs_X11_counts_e_97 hz (fun K hK => ?_)
            refine bd_i (by omega) ?_
            refine x_nm (fun U53 hU53 => ?_)
            have e54 := up_f hU53
            refine (show po_X11_counts_e T m d U53 (some (vI 1)) from ?_)
            have e55 : U53 111 0 82 = 1 := (up_j hU53 (by decide) 111 0).trans (up_f hU42)
            have e56 : U53 111 0 83 = 1 := up_f hU53
            have e57 : U53 111 0 82 = 1 := (up_j hU53 (by decide) 111 0).trans (up_f hU42)
            have e58 : U53 111 0 83 = 1 := up_f hU53
            have v3 : U53 111 0 82 = vR_ T d m 3 := by
              rw [vr_3]
              first
              | (rw [cz_t (by omega)]; omega)
              | (rw [cz_f (by omega), cz_t (by omega)]; omega)
              | (rw [cz_f (by omega), cz_f (by omega)]; omega)
            have v4 : U53 111 0 83 = vR_ T d m 4 := by
              rw [vr_4]
              first
              | (rw [cz_t (by omega)]; omega)
              | (rw [cz_f (by omega), cz_t (by omega)]; omega)
              | (rw [cz_f (by omega), cz_f (by omega)]; omega)
            exact ⟨_, rfl, fr_u (fr_u (fr_0 _ _) hU42 rfl) hU53 rfl, ⟨by omega, fun _ => by omega⟩, Or.inl ⟨rfl, vr_c1 (by omega), v3, v4⟩⟩
    · refine ix_i (by omega) ?_
      intro b59 b59b
      refine bd_i (by omega) ?_
      refine x_nm (fun U60 hU60 => ?_)
      have e61 := up_f hU60
      refine ix_i (by omega) ?_
      intro b62 b62b
      have e63 : U60 237 0 m = T 237 0 m := up_k hU60 (by exact Nat.ne_of_beq_eq_false rfl) 0 m
      rw [e63] at b62 b62b ⊢
      refine bd_i (by omega) ?_
      refine x_nm (fun U64 hU64 => ?_)
      have e65 := up_f hU64
      refine ix_i (by omega) ?_
      intro b66 b66b
      have e67 : U64 234 0 m = T 234 0 m := (up_k hU64 (by exact Nat.ne_of_beq_eq_false rfl) 0 m).trans (up_k hU60 (by exact Nat.ne_of_beq_eq_false rfl) 0 m)
      rw [e67] at b66 b66b ⊢
      refine And.intro (fun c68 => ?_) (fun c68 => ?_)
      · refine hK 54 _ [] U64 ?_
        refine j_blx (F := fX11) tb_X11 (nn_ _) bk_X11_counts_e_54 bs_X11_counts_e_54 hz (fun K hK => ?_)
        refine (show po_X11_counts_e T m d U64 (some (vI 0)) from ?_)
        have e69 : U64 111 0 82 = T 236 0 m := (up_j hU64 (by decide) 111 0).trans (up_f hU60)
        have e70 : U64 111 0 83 = T 237 0 m := up_f hU64
        exact ⟨_, rfl, fr_u (fr_u (fr_0 _ _) hU60 rfl) hU64 rfl, ⟨by omega, fun z => absurd z (by decide)⟩, Or.inr ⟨rfl, vr_c0 (by omega)⟩⟩
      · refine hK 55 _ [vI 1] U64 ?_
        refine j_blx (F := fX11) tb_X11 (nn_ _) bk_X11_counts_e_55 bs_X11_counts_e_55 hz (fun K hK => ?_)
        refine (show po_X11_counts_e T m d U64 (some (vI 1)) from ?_)
        have e71 : U64 111 0 82 = T 236 0 m := (up_j hU64 (by decide) 111 0).trans (up_f hU60)
        have e72 : U64 111 0 83 = T 237 0 m := up_f hU64
        have e73 : U64 111 0 82 = T 236 0 m := (up_j hU64 (by decide) 111 0).trans (up_f hU60)
        have e74 : U64 111 0 83 = T 237 0 m := up_f hU64
        have v3 : U64 111 0 82 = vR_ T d m 3 := by
          rw [vr_3]
          first
          | (rw [cz_t (by omega)]; omega)
          | (rw [cz_f (by omega), cz_t (by omega)]; omega)
          | (rw [cz_f (by omega), cz_f (by omega)]; omega)
        have v4 : U64 111 0 83 = vR_ T d m 4 := by
          rw [vr_4]
          first
          | (rw [cz_t (by omega)]; omega)
          | (rw [cz_f (by omega), cz_t (by omega)]; omega)
          | (rw [cz_f (by omega), cz_f (by omega)]; omega)
        exact ⟨_, rfl, fr_u (fr_u (fr_0 _ _) hU60 rfl) hU64 rfl, ⟨by omega, fun _ => by omega⟩, Or.inl ⟨rfl, vr_c1 (by omega), v3, v4⟩⟩
theorem bk_X11_tellResult_e_86 : ck_ fX11 none cX11_tellResult 86 [.aload 0, .tableswitch 0 11 76 #[], .iload 5, .iconst 4, .iadd, .dup2, .iaload, .iload 3, .iadd, .iastore, .aload 0, .tableswitch 0 11 76 #[], .iload 5, .iconst 5, .iadd, .dup2, .iaload, .iload 4, .iadd, .iastore, .aload 0, .tableswitch 0 11 76 #[], .iload 5, .iconst 6, .iadd, .dup2, .iaload, .iload 3, .iload 4, .if_icmp .le 139, .aload 0, .iload 1, .iconst 1] 133 = true := qck_r (nn_ _) (by decide +kernel)
theorem bs_X11_tellResult_e_86 {P : Zt → Option Zv → Prop} (K : Int → Zl → List Zv → Zt → Prop) : sx_ K P [.aload 0, .tableswitch 0 11 76 #[], .iload 5, .iconst 4, .iadd, .dup2, .iaload, .iload 3, .iadd, .iastore, .aload 0, .tableswitch 0 11 76 #[], .iload 5, .iconst 5, .iadd, .dup2, .iaload, .iload 4, .iadd, .iastore, .aload 0, .tableswitch 0 11 76 #[], .iload 5, .iconst 6, .iadd, .dup2, .iaload, .iload 3, .iload 4, .if_icmp .le 139, .aload 0, .iload 1, .iconst 1] 133 = x_aload 0 (x_g1 111 276 (x_iload 5 (x_iconst 4 (x_iadd (x_dup2 (x_iaload (x_iload 3 (x_iadd (x_iastore (x_aload 0 (x_g1 111 276 (x_iload 5 (x_iconst 5 (x_iadd (x_dup2 (x_iaload (x_iload 4 (x_iadd (x_iastore (x_aload 0 (x_g1 111 276 (x_iload 5 (x_iconst 6 (x_iadd (x_dup2 (x_iaload (x_iload 3 (x_iload 4 (x_if_icmp .le 139 K (x_aload 0 (x_iload 1 (x_iconst 1 (K 133))))))))))))))))))))))))))))))))) := ((xe_aload 0).trans (congrArg (x_aload 0) ((xe_g1 (kk := 111) rfl tl_11_76).trans (congrArg (x_g1 111 276) ((xe_iload 5).trans (congrArg (x_iload 5) ((xe_iconst 4).trans (congrArg (x_iconst 4) ((xe_iadd).trans (congrArg (x_iadd) ((xe_dup2).trans (congrArg (x_dup2) ((xe_iaload).trans (congrArg (x_iaload) ((xe_iload 3).trans (congrArg (x_iload 3) ((xe_iadd).trans (congrArg (x_iadd) ((xe_iastore).trans (congrArg (x_iastore) ((xe_aload 0).trans (congrArg (x_aload 0) ((xe_g1 (kk := 111) rfl tl_11_76).trans (congrArg (x_g1 111 276) ((xe_iload 5).trans (congrArg (x_iload 5) ((xe_iconst 5).trans (congrArg (x_iconst 5) ((xe_iadd).trans (congrArg (x_iadd) ((xe_dup2).trans (congrArg (x_dup2) ((xe_iaload).trans (congrArg (x_iaload) ((xe_iload 4).trans (congrArg (x_iload 4) ((xe_iadd).trans (congrArg (x_iadd) ((xe_iastore).trans (congrArg (x_iastore) ((xe_aload 0).trans (congrArg (x_aload 0) ((xe_g1 (kk := 111) rfl tl_11_76).trans (congrArg (x_g1 111 276) ((xe_iload 5).trans (congrArg (x_iload 5) ((xe_iconst 6).trans (congrArg (x_iconst 6) ((xe_iadd).trans (congrArg (x_iadd) ((xe_dup2).trans (congrArg (x_dup2) ((xe_iaload).trans (congrArg (x_iaload) ((xe_iload 3).trans (congrArg (x_iload 3) ((xe_iload 4).trans (congrArg (x_iload 4) ((xe_if_icmp .le 139).trans (congrArg (x_if_icmp .le 139 K) ((xe_aload 0).trans (congrArg (x_aload 0) ((xe_iload 1).trans (congrArg (x_iload 1) ((xe_iconst 1).trans (congrArg (x_iconst 1) xe_nil))))))))))))))))))))))))))))))))))))))))))))))))))))))))))))))))))
theorem bk_X11_tellResult_e_139 : ck_ fX11 none cX11_tellResult 139 [.iload 3, .iload 4, .if_icmp .ne 154, .aload 0, .iload 1, .iconst 2] 148 = true := qck_r (nn_ _) (by decide +kernel)
theorem bs_X11_tellResult_e_139 {P : Zt → Option Zv → Prop} (K : Int → Zl → List Zv → Zt → Prop) : sx_ K P [.iload 3, .iload 4, .if_icmp .ne 154, .aload 0, .iload 1, .iconst 2] 148 = x_iload 3 (x_iload 4 (x_if_icmp .ne 154 K (x_aload 0 (x_iload 1 (x_iconst 2 (K 148)))))) := ((xe_iload 3).trans (congrArg (x_iload 3) ((xe_iload 4).trans (congrArg (x_iload 4) ((xe_if_icmp .ne 154).trans (congrArg (x_if_icmp .ne 154 K) ((xe_aload 0).trans (congrArg (x_aload 0) ((xe_iload 1).trans (congrArg (x_iload 1) ((xe_iconst 2).trans (congrArg (x_iconst 2) xe_nil))))))))))))
theorem bk_X11_tellResult_e_154 : ck_ fX11 none cX11_tellResult 154 [.aload 0, .iload 1, .iconst 3] 157 = true := qck_r (nn_ _) (by decide +kernel)
theorem bs_X11_tellResult_e_154 {P : Zt → Option Zv → Prop} (K : Int → Zl → List Zv → Zt → Prop) : sx_ K P [.aload 0, .iload 1, .iconst 3] 157 = x_aload 0 (x_iload 1 (x_iconst 3 (K 157))) := ((xe_aload 0).trans (congrArg (x_aload 0) ((xe_iload 1).trans (congrArg (x_iload 1) ((xe_iconst 3).trans (congrArg (x_iconst 3) xe_nil))))))
theorem bk_X11_tellResult_e_160 : ck_ fX11 none cX11_tellResult 160 [.iadd, .iastore, .return_] 163 = true := qck_r (nn_ _) (by decide +kernel)
theorem bs_X11_tellResult_e_160 {P : Zt → Option Zv → Prop} (K : Int → Zl → List Zv → Zt → Prop) : sx_ K P [.iadd, .iastore, .return_] 163 = x_iadd (x_iastore (x_return_ P)) := ((xe_iadd).trans (congrArg (x_iadd) ((xe_iastore).trans (congrArg (x_iastore) (xe_return_)))))
theorem bk_X11_tellResult_e_151 : ck_ fX11 none cX11_tellResult 151 [.goto 160] 154 = true := qck_r (nn_ _) (by decide +kernel)
theorem bs_X11_tellResult_e_151 {P : Zt → Option Zv → Prop} (K : Int → Zl → List Zv → Zt → Prop) : sx_ K P [.goto 160] 154 = x_goto 160 K := (xe_goto 160)
theorem bk_X11_tellResult_e_136 : ck_ fX11 none cX11_tellResult 136 [.goto 160] 139 = true := qck_r (nn_ _) (by decide +kernel)
theorem bs_X11_tellResult_e_136 {P : Zt → Option Zv → Prop} (K : Int → Zl → List Zv → Zt → Prop) : sx_ K P [.goto 160] 139 = x_goto 160 K := (xe_goto 160)
theorem bk_X11_tellResult_e_63 : ck_ fX11 none cX11_tellResult 63 [.aload 0, .tableswitch 0 11 76 #[], .iload 5, .iconst 3, .iadd, .dup2, .iaload, .iload 3, .iload 4, .if_icmp .ge 83, .iconst 1, .goto 84] 83 = true := qck_r (nn_ _) (by decide +kernel)
theorem bs_X11_tellResult_e_63 {P : Zt → Option Zv → Prop} (K : Int → Zl → List Zv → Zt → Prop) : sx_ K P [.aload 0, .tableswitch 0 11 76 #[], .iload 5, .iconst 3, .iadd, .dup2, .iaload, .iload 3, .iload 4, .if_icmp .ge 83, .iconst 1, .goto 84] 83 = x_aload 0 (x_g1 111 276 (x_iload 5 (x_iconst 3 (x_iadd (x_dup2 (x_iaload (x_iload 3 (x_iload 4 (x_if_icmp .ge 83 K (x_iconst 1 (x_goto 84 K))))))))))) := ((xe_aload 0).trans (congrArg (x_aload 0) ((xe_g1 (kk := 111) rfl tl_11_76).trans (congrArg (x_g1 111 276) ((xe_iload 5).trans (congrArg (x_iload 5) ((xe_iconst 3).trans (congrArg (x_iconst 3) ((xe_iadd).trans (congrArg (x_iadd) ((xe_dup2).trans (congrArg (x_dup2) ((xe_iaload).trans (congrArg (x_iaload) ((xe_iload 3).trans (congrArg (x_iload 3) ((xe_iload 4).trans (congrArg (x_iload 4) ((xe_if_icmp .ge 83).trans (congrArg (x_if_icmp .ge 83 K) ((xe_iconst 1).trans (congrArg (x_iconst 1) (xe_goto 84)))))))))))))))))))))))
theorem bk_X11_tellResult_e_83 : ck_ fX11 none cX11_tellResult 83 [.iconst 0, .iadd, .iastore] 86 = true := qck_r (nn_ _) (by decide +kernel)
theorem bs_X11_tellResult_e_83 {P : Zt → Option Zv → Prop} (K : Int → Zl → List Zv → Zt → Prop) : sx_ K P [.iconst 0, .iadd, .iastore] 86 = x_iconst 0 (x_iadd (x_iastore (K 86))) := ((xe_iconst 0).trans (congrArg (x_iconst 0) ((xe_iadd).trans (congrArg (x_iadd) ((xe_iastore).trans (congrArg (x_iastore) xe_nil))))))
theorem bk_X11_tellResult_e_84 : ck_ fX11 none cX11_tellResult 84 [.iadd, .iastore] 86 = true := qck_r (nn_ _) (by decide +kernel)
theorem bs_X11_tellResult_e_84 {P : Zt → Option Zv → Prop} (K : Int → Zl → List Zv → Zt → Prop) : sx_ K P [.iadd, .iastore] 86 = x_iadd (x_iastore (K 86)) := ((xe_iadd).trans (congrArg (x_iadd) ((xe_iastore).trans (congrArg (x_iastore) xe_nil))))
theorem bk_X11_tellResult_e_40 : ck_ fX11 none cX11_tellResult 40 [.aload 0, .tableswitch 0 11 76 #[], .iload 5, .iconst 2, .iadd, .dup2, .iaload, .iload 3, .iload 4, .if_icmp .ne 60, .iconst 1, .goto 61] 60 = true := qck_r (nn_ _) (by decide +kernel)
theorem bs_X11_tellResult_e_40 {P : Zt → Option Zv → Prop} (K : Int → Zl → List Zv → Zt → Prop) : sx_ K P [.aload 0, .tableswitch 0 11 76 #[], .iload 5, .iconst 2, .iadd, .dup2, .iaload, .iload 3, .iload 4, .if_icmp .ne 60, .iconst 1, .goto 61] 60 = x_aload 0 (x_g1 111 276 (x_iload 5 (x_iconst 2 (x_iadd (x_dup2 (x_iaload (x_iload 3 (x_iload 4 (x_if_icmp .ne 60 K (x_iconst 1 (x_goto 61 K))))))))))) := ((xe_aload 0).trans (congrArg (x_aload 0) ((xe_g1 (kk := 111) rfl tl_11_76).trans (congrArg (x_g1 111 276) ((xe_iload 5).trans (congrArg (x_iload 5) ((xe_iconst 2).trans (congrArg (x_iconst 2) ((xe_iadd).trans (congrArg (x_iadd) ((xe_dup2).trans (congrArg (x_dup2) ((xe_iaload).trans (congrArg (x_iaload) ((xe_iload 3).trans (congrArg (x_iload 3) ((xe_iload 4).trans (congrArg (x_iload 4) ((xe_if_icmp .ne 60).trans (congrArg (x_if_icmp .ne 60 K) ((xe_iconst 1).trans (congrArg (x_iconst 1) (xe_goto 61)))))))))))))))))))))))
theorem bk_X11_tellResult_e_60 : ck_ fX11 none cX11_tellResult 60 [.iconst 0, .iadd, .iastore] 63 = true := qck_r (nn_ _) (by decide +kernel)
theorem bs_X11_tellResult_e_60 {P : Zt → Option Zv → Prop} (K : Int → Zl → List Zv → Zt → Prop) : sx_ K P [.iconst 0, .iadd, .iastore] 63 = x_iconst 0 (x_iadd (x_iastore (K 63))) := ((xe_iconst 0).trans (congrArg (x_iconst 0) ((xe_iadd).trans (congrArg (x_iadd) ((xe_iastore).trans (congrArg (x_iastore) xe_nil))))))
theorem bk_X11_tellResult_e_61 : ck_ fX11 none cX11_tellResult 61 [.iadd, .iastore] 63 = true := qck_r (nn_ _) (by decide +kernel)
theorem bs_X11_tellResult_e_61 {P : Zt → Option Zv → Prop} (K : Int → Zl → List Zv → Zt → Prop) : sx_ K P [.iadd, .iastore] 63 = x_iadd (x_iastore (K 63)) := ((xe_iadd).trans (congrArg (x_iadd) ((xe_iastore).trans (congrArg (x_iastore) xe_nil))))
theorem bk_X11_tellResult_e_0 : ck_ fX11 none cX11_tellResult 0 [.iconst 9, .iload 2, .imul, .istore 5, .aload 0, .tableswitch 0 11 76 #[], .iload 5, .dup2, .iaload, .iconst 1, .iadd, .iastore, .aload 0, .tableswitch 0 11 76 #[], .iload 5, .iconst 1, .iadd, .dup2, .iaload, .iload 3, .iload 4, .if_icmp .le 37, .iconst 1, .goto 38] 37 = true := qck_r (nn_ _) (by decide +kernel)
theorem bs_X11_tellResult_e_0 {P : Zt → Option Zv → Prop} (K : Int → Zl → List Zv → Zt → Prop) : sx_ K P [.iconst 9, .iload 2, .imul, .istore 5, .aload 0, .tableswitch 0 11 76 #[], .iload 5, .dup2, .iaload, .iconst 1, .iadd, .iastore, .aload 0, .tableswitch 0 11 76 #[], .iload 5, .iconst 1, .iadd, .dup2, .iaload, .iload 3, .iload 4, .if_icmp .le 37, .iconst 1, .goto 38] 37 = x_iconst 9 (x_iload 2 (x_imul (x_istore 5 (x_aload 0 (x_g1 111 276 (x_iload 5 (x_dup2 (x_iaload (x_iconst 1 (x_iadd (x_iastore (x_aload 0 (x_g1 111 276 (x_iload 5 (x_iconst 1 (x_iadd (x_dup2 (x_iaload (x_iload 3 (x_iload 4 (x_if_icmp .le 37 K (x_iconst 1 (x_goto 38 K))))))))))))))))))))))) := ((xe_iconst 9).trans (congrArg (x_iconst 9) ((xe_iload 2).trans (congrArg (x_iload 2) ((xe_imul).trans (congrArg (x_imul) ((xe_istore 5).trans (congrArg (x_istore 5) ((xe_aload 0).trans (congrArg (x_aload 0) ((xe_g1 (kk := 111) rfl tl_11_76).trans (congrArg (x_g1 111 276) ((xe_iload 5).trans (congrArg (x_iload 5) ((xe_dup2).trans (congrArg (x_dup2) ((xe_iaload).trans (congrArg (x_iaload) ((xe_iconst 1).trans (congrArg (x_iconst 1) ((xe_iadd).trans (congrArg (x_iadd) ((xe_iastore).trans (congrArg (x_iastore) ((xe_aload 0).trans (congrArg (x_aload 0) ((xe_g1 (kk := 111) rfl tl_11_76).trans (congrArg (x_g1 111 276) ((xe_iload 5).trans (congrArg (x_iload 5) ((xe_iconst 1).trans (congrArg (x_iconst 1) ((xe_iadd).trans (congrArg (x_iadd) ((xe_dup2).trans (congrArg (x_dup2) ((xe_iaload).trans (congrArg (x_iaload) ((xe_iload 3).trans (congrArg (x_iload 3) ((xe_iload 4).trans (congrArg (x_iload 4) ((xe_if_icmp .le 37).trans (congrArg (x_if_icmp .le 37 K) ((xe_iconst 1).trans (congrArg (x_iconst 1) (xe_goto 38)))))))))))))))))))))))))))))))))))))))))))))))
theorem bk_X11_tellResult_e_37 : ck_ fX11 none cX11_tellResult 37 [.iconst 0, .iadd, .iastore] 40 = true := qck_r (nn_ _) (by decide +kernel)
theorem bs_X11_tellResult_e_37 {P : Zt → Option Zv → Prop} (K : Int → Zl → List Zv → Zt → Prop) : sx_ K P [.iconst 0, .iadd, .iastore] 40 = x_iconst 0 (x_iadd (x_iastore (K 40))) := ((xe_iconst 0).trans (congrArg (x_iconst 0) ((xe_iadd).trans (congrArg (x_iadd) ((xe_iastore).trans (congrArg (x_iastore) xe_nil))))))
theorem bk_X11_tellResult_e_38 : ck_ fX11 none cX11_tellResult 38 [.iadd, .iastore] 40 = true := qck_r (nn_ _) (by decide +kernel)
theorem bs_X11_tellResult_e_38 {P : Zt → Option Zv → Prop} (K : Int → Zl → List Zv → Zt → Prop) : sx_ K P [.iadd, .iastore] 40 = x_iadd (x_iastore (K 40)) := ((xe_iadd).trans (congrArg (x_iadd) ((xe_iastore).trans (congrArg (x_iastore) xe_nil))))
abbrev po_X11_tellResult_e (T : Zt) (bb : Int) (c cl a b : Int) : Zt → Option Zv → Prop := fun T' r => r = none ∧ fr_ [(276, [])] T T' ∧ (TB_ T' (bb + 140000) ∧ TV_ T T' (tu9_ (fun w => T 205 0 (23 * c + w)) 7 cl a b))
set_option maxHeartbeats 4000000 in
theorem ct_X11_tellResult_e {T : Zt} {bb : Int} {c cl a b : Int} (h1 : 0 ≤ c ∧ c < 4) (h2 : 0 ≤ cl ∧ cl < 12) (h3 : 0 ≤ a ∧ a ≤ 20000) (h4 : 0 ≤ b ∧ b ≤ 20000) (hbb : 0 ≤ bb ∧ bb ≤ 500000000) (htb : TB_ T bb) : Ct_ yX11_tellResult zX11_tellResult T [vR 111 0, vI c, vI cl, vI a, vI b] (po_X11_tellResult_e T bb c cl a b) := by
  refine ct_of pn_11 rfl rfl (Nat.le_of_ble_eq_true rfl) (fun hT hav => ?_)
  have hr_c : -2147483648 ≤ c ∧ c ≤ 2147483647 := hav (vI c) (List.mem_cons_of_mem _ List.mem_cons_self)
  have hr_cl : -2147483648 ≤ cl ∧ cl ≤ 2147483647 := hav (vI cl) (List.mem_cons_of_mem _ (List.mem_cons_of_mem _ List.mem_cons_self))
  have hr_a : -2147483648 ≤ a ∧ a ≤ 2147483647 := hav (vI a) (List.mem_cons_of_mem _ (List.mem_cons_of_mem _ (List.mem_cons_of_mem _ List.mem_cons_self)))
  have hr_b : -2147483648 ≤ b ∧ b ≤ 2147483647 := hav (vI b) (List.mem_cons_of_mem _ (List.mem_cons_of_mem _ (List.mem_cons_of_mem _ (List.mem_cons_of_mem _ List.mem_cons_self))))
  have hz : zX11_tellResult.2.2.2.1 = some .boolean → ∀ (T' : Zt) (x : Int), po_X11_tellResult_e T bb c cl a b T' (some (vI x)) → 0 ≤ x ∧ x ≤ 1 := fun h => by cases h
  have hr1 : (-1) ≤ T 205 0 (23 * c + 1) ∧ T 205 0 (23 * c + 1) ≤ 999 := bd_a hT 205 (by decide +kernel : ta_ 205 = some (1, some 92, (-1), 999)) 0 (by omega)
  have hr2 : (-1) ≤ T 205 0 (23 * c + 2) ∧ T 205 0 (23 * c + 2) ≤ 999 := bd_a hT 205 (by decide +kernel : ta_ 205 = some (1, some 92, (-1), 999)) 0 (by omega)
  have hr3 : (-1) ≤ T 205 0 (23 * c + 3) ∧ T 205 0 (23 * c + 3) ≤ 999 := bd_a hT 205 (by decide +kernel : ta_ 205 = some (1, some 92, (-1), 999)) 0 (by omega)
  show J_ zX11_tellResult T (po_X11_tellResult_e T bb c cl a b) 0 0 0 [some (vR 111 0), some (vI c), some (vI cl), some (vI a), some (vI b), none] [] T
  have c_86 : ∀ (T3 : Zt), (fr_ [(276, [])] T T3) → (TB_ T3 (bb + 80000)) → (TV_ T T3 (tu9_ (fun w => T 205 0 (23 * c + w)) 4 cl a b)) → J_ zX11_tellResult T (po_X11_tellResult_e T bb c cl a b) 0 0 86 [some (vR 111 0), some (vI c), some (vI cl), some (vI a), some (vI b), some (vI (9 * cl))] [] T3 := by
    intro T3 hf_86 tb3 tu3
    refine j_blx (F := fX11) tb_X11 (nn_ _) bk_X11_tellResult_e_86 bs_X11_tellResult_e_86 hz (fun K hK => ?_)
    refine rg_i (by omega) ?_
    refine ix_i (by omega) ?_
    intro b1 b1b
    have t2 : -(bb + 80000) ≤ T3 276 0 ((9 * cl) + 4) ∧ T3 276 0 ((9 * cl) + 4) ≤ bb + 80000 ∧ (((9 * cl) + 4) % 9 = 6 → -(bb + 80000) ≤ 20 * (T3 276 0 ((9 * cl) + 4)) ∧ 20 * (T3 276 0 ((9 * cl) + 4)) ≤ bb + 80000) := (tb3) ((9 * cl) + 4) (by omega) (by omega)
    refine rg_i (by omega) ?_
    refine iy_i (by omega) (by omega) ?_
    refine x_nm (fun U3 hU3 => ?_)
    have e4 := up_f hU3
    refine rg_i (by omega) ?_
    refine ix_i (by omega) ?_
    intro b5 b5b
    have t6 : -(bb + 80000 + 20000) ≤ U3 276 0 ((9 * cl) + 5) ∧ U3 276 0 ((9 * cl) + 5) ≤ bb + 80000 + 20000 ∧ (((9 * cl) + 5) % 9 = 6 → -(bb + 80000 + 20000) ≤ 20 * (U3 276 0 ((9 * cl) + 5)) ∧ 20 * (U3 276 0 ((9 * cl) + 5)) ≤ bb + 80000 + 20000) := (tb_u (d := 20000) (tb3) hU3 (by decide) (by omega)) ((9 * cl) + 5) (by omega) (by omega)
    refine rg_i (by omega) ?_
    refine iy_i (by omega) (by omega) ?_
    refine x_nm (fun U7 hU7 => ?_)
    have e8 := up_f hU7
    refine rg_i (by omega) ?_
    refine ix_i (by omega) ?_
    intro b9 b9b
    refine And.intro (fun c10 => ?_) (fun c10 => ?_)
    · refine hK 139 _ [vI (U7 276 0 ((9 * cl) + 6)), vI ((9 * cl) + 6), vR 276 0] U7 ?_
      refine j_blx (F := fX11) tb_X11 (nn_ _) bk_X11_tellResult_e_139 bs_X11_tellResult_e_139 hz (fun K hK => ?_)
      refine And.intro (fun c11 => ?_) (fun c11 => ?_)
      · refine hK 154 _ [vI (U7 276 0 ((9 * cl) + 6)), vI ((9 * cl) + 6), vR 276 0] U7 ?_
        refine j_blx (F := fX11) tb_X11 (nn_ _) bk_X11_tellResult_e_154 bs_X11_tellResult_e_154 hz (fun K hK => ?_)
        refine hK 157 _ [vI 3, vI c, vR 111 0, vI (U7 276 0 ((9 * cl) + 6)), vI ((9 * cl) + 6), vR 276 0] U7 ?_
        refine j_callV (y := yX11_rule0) (Yc := zX11_rule0) (rest := [vI (U7 276 0 ((9 * cl) + 6)), vI ((9 * cl) + 6), vR 276 0]) [vI c, vI 3] (ct_X11_rule0 (T := U7) (by omega) (by omega)) cl_X11_321 (qd_c (by decide +kernel)) (nn_ _) rfl (rf_of rfl) (Nat.le_of_ble_eq_true rfl) (Nat.le_of_ble_eq_true rfl) (Nat.le_of_ble_eq_true rfl) rfl ?_
        rintro _ _ ⟨rfl, rfl⟩
        have e12 : U7 205 0 (23 * c + 3) = T 205 0 (23 * c + 3) := (up_k hU7 (by exact Nat.ne_of_beq_eq_false rfl) 0 (23 * c + 3)).trans ((up_k hU3 (by exact Nat.ne_of_beq_eq_false rfl) 0 (23 * c + 3)).trans (hf_86 205 0 (23 * c + 3) rfl))
        show J_ zX11_tellResult T (po_X11_tellResult_e T bb c cl a b) 0 0 160 _ [vI (U7 205 0 (23 * c + 3)), vI (U7 276 0 ((9 * cl) + 6)), vI ((9 * cl) + 6), vR 276 0] U7
        refine j_blx (F := fX11) tb_X11 (nn_ _) bk_X11_tellResult_e_160 bs_X11_tellResult_e_160 hz (fun K hK => ?_)
        have t13 : -(bb + 80000 + 20000 + 20000) ≤ U7 276 0 ((9 * cl) + 6) ∧ U7 276 0 ((9 * cl) + 6) ≤ bb + 80000 + 20000 + 20000 ∧ (((9 * cl) + 6) % 9 = 6 → -(bb + 80000 + 20000 + 20000) ≤ 20 * (U7 276 0 ((9 * cl) + 6)) ∧ 20 * (U7 276 0 ((9 * cl) + 6)) ≤ bb + 80000 + 20000 + 20000) := (tb_u (d := 20000) (tb_u (d := 20000) (tb3) hU3 (by decide) (by omega)) hU7 (by decide) (by omega)) ((9 * cl) + 6) (by omega) (by omega)
        refine rg_i (by omega) ?_
        refine iy_i (by omega) (by omega) ?_
        refine x_nm (fun U14 hU14 => ?_)
        have e15 := up_f hU14
        refine (show po_X11_tellResult_e T bb c cl a b U14 (none) from ?_)
        exact ⟨rfl, fr_u (fr_u (fr_u (fr_t (fr_0 _ _) (fr_s hf_86 rfl)) hU3 rfl) hU7 rfl) hU14 rfl, tb_m (tb_u (d := 20000) (tb_u (d := 20000) (tb_u (d := 20000) (tb3) hU3 (by decide) (by omega)) hU7 (by decide) (by omega)) hU14 (by decide) (by omega)) (by omega), tu_s (n := 6) (tu_s (n := 5) (tu_s (n := 4) (tu3) hU3 (by omega) (by decide) rfl cv_4.symm) hU7 (by omega) (by decide) rfl cv_5.symm) hU14 (by omega) (by decide) rfl (by rw [cv_6]; first | exact Eq.trans (b := T 205 0 (23 * c + 1)) (by omega) (pt_1 (ru := fun w => T 205 0 (23 * c + w)) (by omega)).symm | exact Eq.trans (b := T 205 0 (23 * c + 2)) (by omega) (pt_2 (ru := fun w => T 205 0 (23 * c + w)) (by omega)).symm | exact Eq.trans (b := T 205 0 (23 * c + 3)) (by omega) (pt_3 (ru := fun w => T 205 0 (23 * c + w)) (by omega)).symm)⟩
      · refine hK 148 _ [vI 2, vI c, vR 111 0, vI (U7 276 0 ((9 * cl) + 6)), vI ((9 * cl) + 6), vR 276 0] U7 ?_
        refine j_callV (y := yX11_rule0) (Yc := zX11_rule0) (rest := [vI (U7 276 0 ((9 * cl) + 6)), vI ((9 * cl) + 6), vR 276 0]) [vI c, vI 2] (ct_X11_rule0 (T := U7) (by omega) (by omega)) cl_X11_321 (qd_c (by decide +kernel)) (nn_ _) rfl (rf_of rfl) (Nat.le_of_ble_eq_true rfl) (Nat.le_of_ble_eq_true rfl) (Nat.le_of_ble_eq_true rfl) rfl ?_
        rintro _ _ ⟨rfl, rfl⟩
        have e16 : U7 205 0 (23 * c + 2) = T 205 0 (23 * c + 2) := (up_k hU7 (by exact Nat.ne_of_beq_eq_false rfl) 0 (23 * c + 2)).trans ((up_k hU3 (by exact Nat.ne_of_beq_eq_false rfl) 0 (23 * c + 2)).trans (hf_86 205 0 (23 * c + 2) rfl))
        show J_ zX11_tellResult T (po_X11_tellResult_e T bb c cl a b) 0 0 151 _ [vI (U7 205 0 (23 * c + 2)), vI (U7 276 0 ((9 * cl) + 6)), vI ((9 * cl) + 6), vR 276 0] U7
        refine j_blx (F := fX11) tb_X11 (nn_ _) bk_X11_tellResult_e_151 bs_X11_tellResult_e_151 hz (fun K hK => ?_)
        refine hK 160 _ [vI (U7 205 0 (23 * c + 2)), vI (U7 276 0 ((9 * cl) + 6)), vI ((9 * cl) + 6), vR 276 0] U7 ?_
        refine j_blx (F := fX11) tb_X11 (nn_ _) bk_X11_tellResult_e_160 bs_X11_tellResult_e_160 hz (fun K hK => ?_)
        have t17 : -(bb + 80000 + 20000 + 20000) ≤ U7 276 0 ((9 * cl) + 6) ∧ U7 276 0 ((9 * cl) + 6) ≤ bb + 80000 + 20000 + 20000 ∧ (((9 * cl) + 6) % 9 = 6 → -(bb + 80000 + 20000 + 20000) ≤ 20 * (U7 276 0 ((9 * cl) + 6)) ∧ 20 * (U7 276 0 ((9 * cl) + 6)) ≤ bb + 80000 + 20000 + 20000) := (tb_u (d := 20000) (tb_u (d := 20000) (tb3) hU3 (by decide) (by omega)) hU7 (by decide) (by omega)) ((9 * cl) + 6) (by omega) (by omega)
        refine rg_i (by omega) ?_
        refine iy_i (by omega) (by omega) ?_
        refine x_nm (fun U18 hU18 => ?_)
        have e19 := up_f hU18
        refine (show po_X11_tellResult_e T bb c cl a b U18 (none) from ?_)
        exact ⟨rfl, fr_u (fr_u (fr_u (fr_t (fr_0 _ _) (fr_s hf_86 rfl)) hU3 rfl) hU7 rfl) hU18 rfl, tb_m (tb_u (d := 20000) (tb_u (d := 20000) (tb_u (d := 20000) (tb3) hU3 (by decide) (by omega)) hU7 (by decide) (by omega)) hU18 (by decide) (by omega)) (by omega), tu_s (n := 6) (tu_s (n := 5) (tu_s (n := 4) (tu3) hU3 (by omega) (by decide) rfl cv_4.symm) hU7 (by omega) (by decide) rfl cv_5.symm) hU18 (by omega) (by decide) rfl (by rw [cv_6]; first | exact Eq.trans (b := T 205 0 (23 * c + 1)) (by omega) (pt_1 (ru := fun w => T 205 0 (23 * c + w)) (by omega)).symm | exact Eq.trans (b := T 205 0 (23 * c + 2)) (by omega) (pt_2 (ru := fun w => T 205 0 (23 * c + w)) (by omega)).symm | exact Eq.trans (b := T 205 0 (23 * c + 3)) (by omega) (pt_3 (ru := fun w => T 205 0 (23 * c + w)) (by omega)).symm)⟩
    · refine hK 133 _ [vI 1, vI c, vR 111 0, vI (U7 276 0 ((9 * cl) + 6)), vI ((9 * cl) + 6), vR 276 0] U7 ?_
      refine j_callV (y := yX11_rule0) (Yc := zX11_rule0) (rest := [vI (U7 276 0 ((9 * cl) + 6)), vI ((9 * cl) + 6), vR 276 0]) [vI c, vI 1] (ct_X11_rule0 (T := U7) (by omega) (by omega)) cl_X11_321 (qd_c (by decide +kernel)) (nn_ _) rfl (rf_of rfl) (Nat.le_of_ble_eq_true rfl) (Nat.le_of_ble_eq_true rfl) (Nat.le_of_ble_eq_true rfl) rfl ?_
      rintro _ _ ⟨rfl, rfl⟩
      have e20 : U7 205 0 (23 * c + 1) = T 205 0 (23 * c + 1) := (up_k hU7 (by exact Nat.ne_of_beq_eq_false rfl) 0 (23 * c + 1)).trans ((up_k hU3 (by exact Nat.ne_of_beq_eq_false rfl) 0 (23 * c + 1)).trans (hf_86 205 0 (23 * c + 1) rfl))
      show J_ zX11_tellResult T (po_X11_tellResult_e T bb c cl a b) 0 0 136 _ [vI (U7 205 0 (23 * c + 1)), vI (U7 276 0 ((9 * cl) + 6)), vI ((9 * cl) + 6), vR 276 0] U7
      refine j_blx (F := fX11) tb_X11 (nn_ _) bk_X11_tellResult_e_136 bs_X11_tellResult_e_136 hz (fun K hK => ?_)
      refine hK 160 _ [vI (U7 205 0 (23 * c + 1)), vI (U7 276 0 ((9 * cl) + 6)), vI ((9 * cl) + 6), vR 276 0] U7 ?_
      refine j_blx (F := fX11) tb_X11 (nn_ _) bk_X11_tellResult_e_160 bs_X11_tellResult_e_160 hz (fun K hK => ?_)
      have t21 : -(bb + 80000 + 20000 + 20000) ≤ U7 276 0 ((9 * cl) + 6) ∧ U7 276 0 ((9 * cl) + 6) ≤ bb + 80000 + 20000 + 20000 ∧ (((9 * cl) + 6) % 9 = 6 → -(bb + 80000 + 20000 + 20000) ≤ 20 * (U7 276 0 ((9 * cl) + 6)) ∧ 20 * (U7 276 0 ((9 * cl) + 6)) ≤ bb + 80000 + 20000 + 20000) := (tb_u (d := 20000) (tb_u (d := 20000) (tb3) hU3 (by decide) (by omega)) hU7 (by decide) (by omega)) ((9 * cl) + 6) (by omega) (by omega)
      refine rg_i (by omega) ?_
      refine iy_i (by omega) (by omega) ?_
      refine x_nm (fun U22 hU22 => ?_)
      have e23 := up_f hU22
      refine (show po_X11_tellResult_e T bb c cl a b U22 (none) from ?_)
      exact ⟨rfl, fr_u (fr_u (fr_u (fr_t (fr_0 _ _) (fr_s hf_86 rfl)) hU3 rfl) hU7 rfl) hU22 rfl, tb_m (tb_u (d := 20000) (tb_u (d := 20000) (tb_u (d := 20000) (tb3) hU3 (by decide) (by omega)) hU7 (by decide) (by omega)) hU22 (by decide) (by omega)) (by omega), tu_s (n := 6) (tu_s (n := 5) (tu_s (n := 4) (tu3) hU3 (by omega) (by decide) rfl cv_4.symm) hU7 (by omega) (by decide) rfl cv_5.symm) hU22 (by omega) (by decide) rfl (by rw [cv_6]; first | exact Eq.trans (b := T 205 0 (23 * c + 1)) (by omega) (pt_1 (ru := fun w => T 205 0 (23 * c + w)) (by omega)).symm | exact Eq.trans (b := T 205 0 (23 * c + 2)) (by omega) (pt_2 (ru := fun w => T 205 0 (23 * c + w)) (by omega)).symm | exact Eq.trans (b := T 205 0 (23 * c + 3)) (by omega) (pt_3 (ru := fun w => T 205 0 (23 * c + w)) (by omega)).symm)⟩
  have c_63 : ∀ (T2 : Zt), (fr_ [(276, [])] T T2) → (TB_ T2 (bb + 60000)) → (TV_ T T2 (tu9_ (fun w => T 205 0 (23 * c + w)) 3 cl a b)) → J_ zX11_tellResult T (po_X11_tellResult_e T bb c cl a b) 0 0 63 [some (vR 111 0), some (vI c), some (vI cl), some (vI a), some (vI b), some (vI (9 * cl))] [] T2 := by
    intro T2 hf_63 tb2 tu2
    refine j_blx (F := fX11) tb_X11 (nn_ _) bk_X11_tellResult_e_63 bs_X11_tellResult_e_63 hz (fun K hK => ?_)
    refine rg_i (by omega) ?_
    refine ix_i (by omega) ?_
    intro b24 b24b
    refine And.intro (fun c25 => ?_) (fun c25 => ?_)
    · refine hK 83 _ [vI (T2 276 0 ((9 * cl) + 3)), vI ((9 * cl) + 3), vR 276 0] T2 ?_
      refine j_blx (F := fX11) tb_X11 (nn_ _) bk_X11_tellResult_e_83 bs_X11_tellResult_e_83 hz (fun K hK => ?_)
      have t26 : -(bb + 60000) ≤ T2 276 0 ((9 * cl) + 3) ∧ T2 276 0 ((9 * cl) + 3) ≤ bb + 60000 ∧ (((9 * cl) + 3) % 9 = 6 → -(bb + 60000) ≤ 20 * (T2 276 0 ((9 * cl) + 3)) ∧ 20 * (T2 276 0 ((9 * cl) + 3)) ≤ bb + 60000) := (tb2) ((9 * cl) + 3) (by omega) (by omega)
      refine rg_i (by omega) ?_
      refine iy_i (by omega) (by omega) ?_
      refine x_nm (fun U27 hU27 => ?_)
      have e28 := up_f hU27
      refine hK 86 _ [] U27 ?_
      refine c_86 U27 ?_ ?_ ?_
      · exact fr_u (fr_t (fr_0 _ _) (fr_s hf_63 rfl)) hU27 rfl
      · exact tb_m (tb_u (d := 20000) (tb2) hU27 (by decide) (by omega)) (by omega)
      · exact tu_s (n := 3) (tu2) hU27 (by omega) (by decide) rfl (by first | exact (cv_3t (by omega)).symm | exact (cv_3f (by omega)).symm)
    · refine hK 84 _ [vI 1, vI (T2 276 0 ((9 * cl) + 3)), vI ((9 * cl) + 3), vR 276 0] T2 ?_
      refine j_blx (F := fX11) tb_X11 (nn_ _) bk_X11_tellResult_e_84 bs_X11_tellResult_e_84 hz (fun K hK => ?_)
      have t29 : -(bb + 60000) ≤ T2 276 0 ((9 * cl) + 3) ∧ T2 276 0 ((9 * cl) + 3) ≤ bb + 60000 ∧ (((9 * cl) + 3) % 9 = 6 → -(bb + 60000) ≤ 20 * (T2 276 0 ((9 * cl) + 3)) ∧ 20 * (T2 276 0 ((9 * cl) + 3)) ≤ bb + 60000) := (tb2) ((9 * cl) + 3) (by omega) (by omega)
      refine rg_i (by omega) ?_
      refine iy_i (by omega) (by omega) ?_
      refine x_nm (fun U30 hU30 => ?_)
      have e31 := up_f hU30
      refine hK 86 _ [] U30 ?_
      refine c_86 U30 ?_ ?_ ?_
      · exact fr_u (fr_t (fr_0 _ _) (fr_s hf_63 rfl)) hU30 rfl
      · exact tb_m (tb_u (d := 20000) (tb2) hU30 (by decide) (by omega)) (by omega)
      · exact tu_s (n := 3) (tu2) hU30 (by omega) (by decide) rfl (by first | exact (cv_3t (by omega)).symm | exact (cv_3f (by omega)).symm)
  have c_40 : ∀ (T1 : Zt), (fr_ [(276, [])] T T1) → (TB_ T1 (bb + 40000)) → (TV_ T T1 (tu9_ (fun w => T 205 0 (23 * c + w)) 2 cl a b)) → J_ zX11_tellResult T (po_X11_tellResult_e T bb c cl a b) 0 0 40 [some (vR 111 0), some (vI c), some (vI cl), some (vI a), some (vI b), some (vI (9 * cl))] [] T1 := by
    intro T1 hf_40 tb1 tu1
    refine j_blx (F := fX11) tb_X11 (nn_ _) bk_X11_tellResult_e_40 bs_X11_tellResult_e_40 hz (fun K hK => ?_)
    refine rg_i (by omega) ?_
    refine ix_i (by omega) ?_
    intro b32 b32b
    refine And.intro (fun c33 => ?_) (fun c33 => ?_)
    · refine hK 60 _ [vI (T1 276 0 ((9 * cl) + 2)), vI ((9 * cl) + 2), vR 276 0] T1 ?_
      refine j_blx (F := fX11) tb_X11 (nn_ _) bk_X11_tellResult_e_60 bs_X11_tellResult_e_60 hz (fun K hK => ?_)
      have t34 : -(bb + 40000) ≤ T1 276 0 ((9 * cl) + 2) ∧ T1 276 0 ((9 * cl) + 2) ≤ bb + 40000 ∧ (((9 * cl) + 2) % 9 = 6 → -(bb + 40000) ≤ 20 * (T1 276 0 ((9 * cl) + 2)) ∧ 20 * (T1 276 0 ((9 * cl) + 2)) ≤ bb + 40000) := (tb1) ((9 * cl) + 2) (by omega) (by omega)
      refine rg_i (by omega) ?_
      refine iy_i (by omega) (by omega) ?_
      refine x_nm (fun U35 hU35 => ?_)
      have e36 := up_f hU35
      refine hK 63 _ [] U35 ?_
      refine c_63 U35 ?_ ?_ ?_
      · exact fr_u (fr_t (fr_0 _ _) (fr_s hf_40 rfl)) hU35 rfl
      · exact tb_m (tb_u (d := 20000) (tb1) hU35 (by decide) (by omega)) (by omega)
      · exact tu_s (n := 2) (tu1) hU35 (by omega) (by decide) rfl (by first | exact (cv_2t (by omega)).symm | exact (cv_2f (by omega)).symm)
    · refine hK 61 _ [vI 1, vI (T1 276 0 ((9 * cl) + 2)), vI ((9 * cl) + 2), vR 276 0] T1 ?_
      refine j_blx (F := fX11) tb_X11 (nn_ _) bk_X11_tellResult_e_61 bs_X11_tellResult_e_61 hz (fun K hK => ?_)
      have t37 : -(bb + 40000) ≤ T1 276 0 ((9 * cl) + 2) ∧ T1 276 0 ((9 * cl) + 2) ≤ bb + 40000 ∧ (((9 * cl) + 2) % 9 = 6 → -(bb + 40000) ≤ 20 * (T1 276 0 ((9 * cl) + 2)) ∧ 20 * (T1 276 0 ((9 * cl) + 2)) ≤ bb + 40000) := (tb1) ((9 * cl) + 2) (by omega) (by omega)
      refine rg_i (by omega) ?_
      refine iy_i (by omega) (by omega) ?_
      refine x_nm (fun U38 hU38 => ?_)
      have e39 := up_f hU38
      refine hK 63 _ [] U38 ?_
      refine c_63 U38 ?_ ?_ ?_
      · exact fr_u (fr_t (fr_0 _ _) (fr_s hf_40 rfl)) hU38 rfl
      · exact tb_m (tb_u (d := 20000) (tb1) hU38 (by decide) (by omega)) (by omega)
      · exact tu_s (n := 2) (tu1) hU38 (by omega) (by decide) rfl (by first | exact (cv_2t (by omega)).symm | exact (cv_2f (by omega)).symm)
  refine j_blx (F := fX11) tb_X11 (nn_ _) bk_X11_tellResult_e_0 bs_X11_tellResult_e_0 hz (fun K hK => ?_)
  refine rg_i (by omega) ?_
  refine ix_i (by omega) ?_
  intro b40 b40b
  have t41 : -(bb) ≤ T 276 0 (9 * cl) ∧ T 276 0 (9 * cl) ≤ bb ∧ ((9 * cl) % 9 = 6 → -(bb) ≤ 20 * (T 276 0 (9 * cl)) ∧ 20 * (T 276 0 (9 * cl)) ≤ bb) := (htb) (9 * cl) (by omega) (by omega)
  refine rg_i (by omega) ?_
  refine iy_i (by omega) (by omega) ?_
  refine x_nm (fun U42 hU42 => ?_)
  have e43 := up_f hU42
  refine rg_i (by omega) ?_
  refine ix_i (by omega) ?_
  intro b44 b44b
  refine And.intro (fun c45 => ?_) (fun c45 => ?_)
  · refine hK 37 [some (vR 111 0), some (vI c), some (vI cl), some (vI a), some (vI b), some (vI (9 * cl))] [vI (U42 276 0 ((9 * cl) + 1)), vI ((9 * cl) + 1), vR 276 0] U42 ?_
    refine j_blx (F := fX11) tb_X11 (nn_ _) bk_X11_tellResult_e_37 bs_X11_tellResult_e_37 hz (fun K hK => ?_)
    have t46 : -(bb + 20000) ≤ U42 276 0 ((9 * cl) + 1) ∧ U42 276 0 ((9 * cl) + 1) ≤ bb + 20000 ∧ (((9 * cl) + 1) % 9 = 6 → -(bb + 20000) ≤ 20 * (U42 276 0 ((9 * cl) + 1)) ∧ 20 * (U42 276 0 ((9 * cl) + 1)) ≤ bb + 20000) := (tb_u (d := 20000) (htb) hU42 (by decide) (by omega)) ((9 * cl) + 1) (by omega) (by omega)
    refine rg_i (by omega) ?_
    refine iy_i (by omega) (by omega) ?_
    refine x_nm (fun U47 hU47 => ?_)
    have e48 := up_f hU47
    refine hK 40 _ [] U47 ?_
    refine c_40 U47 ?_ ?_ ?_
    · exact fr_u (fr_u (fr_0 _ _) hU42 rfl) hU47 rfl
    · exact tb_m (tb_u (d := 20000) (tb_u (d := 20000) (htb) hU42 (by decide) (by omega)) hU47 (by decide) (by omega)) (by omega)
    · exact tu_s (n := 1) (tu_s (n := 0) (tu_0) hU42 (by omega) (by decide) rfl cv_0.symm) hU47 (by omega) (by decide) rfl (by first | exact (cv_1t (by omega)).symm | exact (cv_1f (by omega)).symm)
  · refine hK 38 _ [vI 1, vI (U42 276 0 ((9 * cl) + 1)), vI ((9 * cl) + 1), vR 276 0] U42 ?_
    refine j_blx (F := fX11) tb_X11 (nn_ _) bk_X11_tellResult_e_38 bs_X11_tellResult_e_38 hz (fun K hK => ?_)
    have t49 : -(bb + 20000) ≤ U42 276 0 ((9 * cl) + 1) ∧ U42 276 0 ((9 * cl) + 1) ≤ bb + 20000 ∧ (((9 * cl) + 1) % 9 = 6 → -(bb + 20000) ≤ 20 * (U42 276 0 ((9 * cl) + 1)) ∧ 20 * (U42 276 0 ((9 * cl) + 1)) ≤ bb + 20000) := (tb_u (d := 20000) (htb) hU42 (by decide) (by omega)) ((9 * cl) + 1) (by omega) (by omega)
    refine rg_i (by omega) ?_
    refine iy_i (by omega) (by omega) ?_
    refine x_nm (fun U50 hU50 => ?_)
    have e51 := up_f hU50
    refine hK 40 _ [] U50 ?_
    refine c_40 U50 ?_ ?_ ?_
    · exact fr_u (fr_u (fr_0 _ _) hU42 rfl) hU50 rfl
    · exact tb_m (tb_u (d := 20000) (tb_u (d := 20000) (htb) hU42 (by decide) (by omega)) hU50 (by decide) (by omega)) (by omega)
    · exact tu_s (n := 1) (tu_s (n := 0) (tu_0) hU42 (by omega) (by decide) rfl cv_0.symm) hU50 (by omega) (by decide) rfl (by first | exact (cv_1t (by omega)).symm | exact (cv_1f (by omega)).symm)
theorem bk_X11_fairOf_e_7 : ck_ fX11 (some .int) cX11_fairOf 7 [.iload 3, .iconst 10, .iload 1, .imul, .aload 0, .tableswitch 0 11 39 #[], .iload 1, .iaload, .iadd, .if_icmp .ge 52, .iload 2, .aload 0, .tableswitch 0 11 42 #[], .iload 3, .iaload, .aload 0, .tableswitch 0 11 43 #[], .iload 3, .baload, .ifCond .eq 42, .iconst 3, .goto 43] 42 = true := qck_r (nn_ _) (by decide +kernel)
theorem bs_X11_fairOf_e_7 {P : Zt → Option Zv → Prop} (K : Int → Zl → List Zv → Zt → Prop) : sx_ K P [.iload 3, .iconst 10, .iload 1, .imul, .aload 0, .tableswitch 0 11 39 #[], .iload 1, .iaload, .iadd, .if_icmp .ge 52, .iload 2, .aload 0, .tableswitch 0 11 42 #[], .iload 3, .iaload, .aload 0, .tableswitch 0 11 43 #[], .iload 3, .baload, .ifCond .eq 42, .iconst 3, .goto 43] 42 = x_iload 3 (x_iconst 10 (x_iload 1 (x_imul (x_aload 0 (x_g1 111 239 (x_iload 1 (x_iaload (x_iadd (x_if_icmp .ge 52 K (x_iload 2 (x_aload 0 (x_g1 111 242 (x_iload 3 (x_iaload (x_aload 0 (x_g1 111 243 (x_iload 3 (x_baload (x_ifCond .eq 42 K (x_iconst 3 (x_goto 43 K))))))))))))))))))))) := ((xe_iload 3).trans (congrArg (x_iload 3) ((xe_iconst 10).trans (congrArg (x_iconst 10) ((xe_iload 1).trans (congrArg (x_iload 1) ((xe_imul).trans (congrArg (x_imul) ((xe_aload 0).trans (congrArg (x_aload 0) ((xe_g1 (kk := 111) rfl tl_11_39).trans (congrArg (x_g1 111 239) ((xe_iload 1).trans (congrArg (x_iload 1) ((xe_iaload).trans (congrArg (x_iaload) ((xe_iadd).trans (congrArg (x_iadd) ((xe_if_icmp .ge 52).trans (congrArg (x_if_icmp .ge 52 K) ((xe_iload 2).trans (congrArg (x_iload 2) ((xe_aload 0).trans (congrArg (x_aload 0) ((xe_g1 (kk := 111) rfl tl_11_42).trans (congrArg (x_g1 111 242) ((xe_iload 3).trans (congrArg (x_iload 3) ((xe_iaload).trans (congrArg (x_iaload) ((xe_aload 0).trans (congrArg (x_aload 0) ((xe_g1 (kk := 111) rfl tl_11_43).trans (congrArg (x_g1 111 243) ((xe_iload 3).trans (congrArg (x_iload 3) ((xe_baload).trans (congrArg (x_baload) ((xe_ifCond .eq 42).trans (congrArg (x_ifCond .eq 42 K) ((xe_iconst 3).trans (congrArg (x_iconst 3) (xe_goto 43)))))))))))))))))))))))))))))))))))))))))))
theorem bk_X11_fairOf_e_52 : ck_ fX11 (some .int) cX11_fairOf 52 [.iload 2, .ireturn] 54 = true := qck_r (nn_ _) (by decide +kernel)
theorem bs_X11_fairOf_e_52 {P : Zt → Option Zv → Prop} (K : Int → Zl → List Zv → Zt → Prop) : sx_ K P [.iload 2, .ireturn] 54 = x_iload 2 (x_ireturn P) := ((xe_iload 2).trans (congrArg (x_iload 2) (xe_ireturn)))
theorem bk_X11_fairOf_e_42 : ck_ fX11 (some .int) cX11_fairOf 42 [.iconst 0, .iadd, .iadd, .istore 2, .iinc 3 1, .goto 7] 52 = true := qck_r (nn_ _) (by decide +kernel)
theorem bs_X11_fairOf_e_42 {P : Zt → Option Zv → Prop} (K : Int → Zl → List Zv → Zt → Prop) : sx_ K P [.iconst 0, .iadd, .iadd, .istore 2, .iinc 3 1, .goto 7] 52 = x_iconst 0 (x_iadd (x_iadd (x_istore 2 (x_iinc 3 1 (x_goto 7 K))))) := ((xe_iconst 0).trans (congrArg (x_iconst 0) ((xe_iadd).trans (congrArg (x_iadd) ((xe_iadd).trans (congrArg (x_iadd) ((xe_istore 2).trans (congrArg (x_istore 2) ((xe_iinc 3 1).trans (congrArg (x_iinc 3 1) (xe_goto 7)))))))))))
theorem bk_X11_fairOf_e_43 : ck_ fX11 (some .int) cX11_fairOf 43 [.iadd, .iadd, .istore 2, .iinc 3 1, .goto 7] 52 = true := qck_r (nn_ _) (by decide +kernel)
theorem bs_X11_fairOf_e_43 {P : Zt → Option Zv → Prop} (K : Int → Zl → List Zv → Zt → Prop) : sx_ K P [.iadd, .iadd, .istore 2, .iinc 3 1, .goto 7] 52 = x_iadd (x_iadd (x_istore 2 (x_iinc 3 1 (x_goto 7 K)))) := ((xe_iadd).trans (congrArg (x_iadd) ((xe_iadd).trans (congrArg (x_iadd) ((xe_istore 2).trans (congrArg (x_istore 2) ((xe_iinc 3 1).trans (congrArg (x_iinc 3 1) (xe_goto 7)))))))))
theorem bk_X11_fairOf_e_0 : ck_ fX11 (some .int) cX11_fairOf 0 [.iconst 0, .istore 2, .iconst 10, .iload 1, .imul, .istore 3] 7 = true := qck_r (nn_ _) (by decide +kernel)
theorem bs_X11_fairOf_e_0 {P : Zt → Option Zv → Prop} (K : Int → Zl → List Zv → Zt → Prop) : sx_ K P [.iconst 0, .istore 2, .iconst 10, .iload 1, .imul, .istore 3] 7 = x_iconst 0 (x_istore 2 (x_iconst 10 (x_iload 1 (x_imul (x_istore 3 (K 7)))))) := ((xe_iconst 0).trans (congrArg (x_iconst 0) ((xe_istore 2).trans (congrArg (x_istore 2) ((xe_iconst 10).trans (congrArg (x_iconst 10) ((xe_iload 1).trans (congrArg (x_iload 1) ((xe_imul).trans (congrArg (x_imul) ((xe_istore 3).trans (congrArg (x_istore 3) xe_nil))))))))))))
abbrev po_X11_fairOf_e (T : Zt) (sh : Int) : Zt → Option Zv → Prop := fun T' r => T = T' ∧ ∃ x : Int, r = some (vI x) ∧ ((0 ≤ x ∧ x ≤ 30130) ∧ x = fr9c_ T sh (T 239 0 sh).toNat)
set_option maxHeartbeats 4000000 in
theorem ct_X11_fairOf_e {T : Zt} {sh : Int} (h1 : 0 ≤ sh ∧ sh < 800) (hyb : YB_ T) : Ct_ yX11_fairOf zX11_fairOf T [vR 111 0, vI sh] (po_X11_fairOf_e T sh) := by
  refine ct_of pn_11 rfl rfl (Nat.le_of_ble_eq_true rfl) (fun hT hav => ?_)
  have hr_sh : -2147483648 ≤ sh ∧ sh ≤ 2147483647 := hav (vI sh) (List.mem_cons_of_mem _ List.mem_cons_self)
  have hz : zX11_fairOf.2.2.2.1 = some .boolean → ∀ (T' : Zt) (x : Int), po_X11_fairOf_e T sh T' (some (vI x)) → 0 ≤ x ∧ x ≤ 1 := fun h => by cases h
  have hsm : 0 ≤ T 239 0 sh ∧ T 239 0 sh ≤ 10 := bd_a hT 239 (by decide +kernel : ta_ 239 = some (1, some 800, 0, 10)) 0 (by omega)
  show J_ zX11_fairOf T (po_X11_fairOf_e T sh) 0 0 0 [some (vR 111 0), some (vI sh), none, none] [] T
  have c_7 : ∀ (nn : Nat) (f : Int) (i : Int), ((10 * sh + 10 - i).toNat) ≤ nn → (10 * sh ≤ i ∧ i ≤ 10 * sh + 10 ∧ 0 ≤ f ∧ f ≤ 3013 * (i - 10 * sh) ∧ i ≤ 10 * sh + T 239 0 sh) → (f = fr9c_ T sh (i - 10 * sh).toNat) → J_ zX11_fairOf T (po_X11_fairOf_e T sh) 0 0 7 [some (vR 111 0), some (vI sh), some (vI f), some (vI i)] [] T := by
    intro nn
    induction nn using Nat.strongRecOn with
    | _ nn ih_7 =>
      intro f i hm_7 i1 i2
      replace hm_7 := fun (_ : Unit) => hm_7
      refine j_blx (F := fX11) tb_X11 (nn_ _) bk_X11_fairOf_e_7 bs_X11_fairOf_e_7 hz (fun K hK => ?_)
      refine rg_i (by omega) ?_
      refine ix_i (by omega) ?_
      intro b1 b1b
      refine rg_i (by omega) ?_
      refine And.intro (fun c2 => ?_) (fun c2 => ?_)
      · refine hK 52 _ [] T ?_
        refine j_blx (F := fX11) tb_X11 (nn_ _) bk_X11_fairOf_e_52 bs_X11_fairOf_e_52 hz (fun K hK => ?_)
        refine (show po_X11_fairOf_e T sh T (some (vI f)) from ?_)
        exact ⟨rfl, _, rfl, by omega, by rw [i2, show i - 10 * sh = T 239 0 sh by omega]⟩
      · have hy := hyb i (by omega) (by omega)
        refine ix_i (by omega) ?_
        intro b3 b3b
        refine ix_i (by omega) ?_
        intro b4 b4b
        refine And.intro (fun c5 => ?_) (fun c5 => ?_)
        · refine hK 42 _ [vI (T 242 0 i), vI f] T ?_
          refine j_blx (F := fX11) tb_X11 (nn_ _) bk_X11_fairOf_e_42 bs_X11_fairOf_e_42 hz (fun K hK => ?_)
          refine rg_i (by omega) ?_
          refine rg_i (by omega) ?_
          refine rg_i (by omega) ?_
          refine hK 7 [some (vR 111 0), some (vI sh), some (vI (f + ((T 242 0 i) + 0))), some (vI (i + 1))] [] T ?_
          refine ih_7 _ ?_ (f + ((T 242 0 i) + 0)) (i + 1) (Nat.le_refl _) ?_ ?_
          · have hm_7 := hm_7 (); omega
          · omega
          · have e9 : (i + 1 - 10 * sh).toNat = (i - 10 * sh).toNat + 1 := by omega
            have e8 : 10 * sh + (((i - 10 * sh).toNat : Nat) : Int) = i := by omega
            rw [e9]
            first
            | (rw [frc_0 (by rw [e8]; omega), e8]; omega)
            | (rw [frc_1 (by rw [e8]; omega), e8]; omega)
        · refine hK 43 [some (vR 111 0), some (vI sh), some (vI f), some (vI i)] [vI 3, vI (T 242 0 i), vI f] T ?_
          refine j_blx (F := fX11) tb_X11 (nn_ _) bk_X11_fairOf_e_43 bs_X11_fairOf_e_43 hz (fun K hK => ?_)
          refine rg_i (by omega) ?_
          refine rg_i (by omega) ?_
          refine rg_i (by omega) ?_
          refine hK 7 [some (vR 111 0), some (vI sh), some (vI (f + ((T 242 0 i) + 3))), some (vI (i + 1))] [] T ?_
          refine ih_7 _ ?_ (f + ((T 242 0 i) + 3)) (i + 1) (Nat.le_refl _) ?_ ?_
          · have hm_7 := hm_7 (); omega
          · omega
          · have e9 : (i + 1 - 10 * sh).toNat = (i - 10 * sh).toNat + 1 := by omega
            have e8 : 10 * sh + (((i - 10 * sh).toNat : Nat) : Int) = i := by omega
            rw [e9]
            first
            | (rw [frc_0 (by rw [e8]; omega), e8]; omega)
            | (rw [frc_1 (by rw [e8]; omega), e8]; omega)
  refine j_blx (F := fX11) tb_X11 (nn_ _) bk_X11_fairOf_e_0 bs_X11_fairOf_e_0 hz (fun K hK => ?_)
  refine rg_i (by omega) ?_
  refine hK 7 [some (vR 111 0), some (vI sh), some (vI 0), some (vI (10 * sh))] [] T ?_
  refine c_7 _ 0 (10 * sh) (Nat.le_refl _) ?_ ?_
  · omega
  · rw [show (10 * sh - 10 * sh).toNat = 0 by omega]
    rfl
theorem bk_X11_tellAll_e_190 : ck_ fX11 none cX11_tellAll 190 [.iload 3, .aload 0, .tableswitch 0 11 24 #[], .if_icmp .ge 254, .aload 0, .tableswitch 0 11 76 #[], .iconst 9, .aload 0, .tableswitch 0 11 26 #[], .iload 3, .iaload, .imul, .iconst 6, .iadd, .dup2, .iaload, .aload 0, .tableswitch 0 11 25 #[], .iload 3, .iaload, .iload 1, .if_icmp .ne 245, .aload 0, .tableswitch 0 11 28 #[], .iload 3, .iaload, .iload 2, .if_icmp .gt 245, .aload 0, .tableswitch 0 11 27 #[], .iload 3, .iaload, .goto 246] 245 = true := qck_r (nn_ _) (by decide +kernel)
theorem bs_X11_tellAll_e_190 {P : Zt → Option Zv → Prop} (K : Int → Zl → List Zv → Zt → Prop) : sx_ K P [.iload 3, .aload 0, .tableswitch 0 11 24 #[], .if_icmp .ge 254, .aload 0, .tableswitch 0 11 76 #[], .iconst 9, .aload 0, .tableswitch 0 11 26 #[], .iload 3, .iaload, .imul, .iconst 6, .iadd, .dup2, .iaload, .aload 0, .tableswitch 0 11 25 #[], .iload 3, .iaload, .iload 1, .if_icmp .ne 245, .aload 0, .tableswitch 0 11 28 #[], .iload 3, .iaload, .iload 2, .if_icmp .gt 245, .aload 0, .tableswitch 0 11 27 #[], .iload 3, .iaload, .goto 246] 245 = x_iload 3 (x_aload 0 (x_g0 111 24 0 50 (x_if_icmp .ge 254 K (x_aload 0 (x_g1 111 276 (x_iconst 9 (x_aload 0 (x_g1 111 226 (x_iload 3 (x_iaload (x_imul (x_iconst 6 (x_iadd (x_dup2 (x_iaload (x_aload 0 (x_g1 111 225 (x_iload 3 (x_iaload (x_iload 1 (x_if_icmp .ne 245 K (x_aload 0 (x_g1 111 228 (x_iload 3 (x_iaload (x_iload 2 (x_if_icmp .gt 245 K (x_aload 0 (x_g1 111 227 (x_iload 3 (x_iaload (x_goto 246 K)))))))))))))))))))))))))))))))) := ((xe_iload 3).trans (congrArg (x_iload 3) ((xe_aload 0).trans (congrArg (x_aload 0) ((xe_g0 (kk := 111) rfl tl_11_24).trans (congrArg (x_g0 111 24 0 50) ((xe_if_icmp .ge 254).trans (congrArg (x_if_icmp .ge 254 K) ((xe_aload 0).trans (congrArg (x_aload 0) ((xe_g1 (kk := 111) rfl tl_11_76).trans (congrArg (x_g1 111 276) ((xe_iconst 9).trans (congrArg (x_iconst 9) ((xe_aload 0).trans (congrArg (x_aload 0) ((xe_g1 (kk := 111) rfl tl_11_26).trans (congrArg (x_g1 111 226) ((xe_iload 3).trans (congrArg (x_iload 3) ((xe_iaload).trans (congrArg (x_iaload) ((xe_imul).trans (congrArg (x_imul) ((xe_iconst 6).trans (congrArg (x_iconst 6) ((xe_iadd).trans (congrArg (x_iadd) ((xe_dup2).trans (congrArg (x_dup2) ((xe_iaload).trans (congrArg (x_iaload) ((xe_aload 0).trans (congrArg (x_aload 0) ((xe_g1 (kk := 111) rfl tl_11_25).trans (congrArg (x_g1 111 225) ((xe_iload 3).trans (congrArg (x_iload 3) ((xe_iaload).trans (congrArg (x_iaload) ((xe_iload 1).trans (congrArg (x_iload 1) ((xe_if_icmp .ne 245).trans (congrArg (x_if_icmp .ne 245 K) ((xe_aload 0).trans (congrArg (x_aload 0) ((xe_g1 (kk := 111) rfl tl_11_28).trans (congrArg (x_g1 111 228) ((xe_iload 3).trans (congrArg (x_iload 3) ((xe_iaload).trans (congrArg (x_iaload) ((xe_iload 2).trans (congrArg (x_iload 2) ((xe_if_icmp .gt 245).trans (congrArg (x_if_icmp .gt 245 K) ((xe_aload 0).trans (congrArg (x_aload 0) ((xe_g1 (kk := 111) rfl tl_11_27).trans (congrArg (x_g1 111 227) ((xe_iload 3).trans (congrArg (x_iload 3) ((xe_iaload).trans (congrArg (x_iaload) (xe_goto 246)))))))))))))))))))))))))))))))))))))))))))))))))))))))))))))))))
theorem bk_X11_tellAll_e_254 : ck_ fX11 none cX11_tellAll 254 [.return_] 255 = true := qck_r (nn_ _) (by decide +kernel)
theorem bs_X11_tellAll_e_254 {P : Zt → Option Zv → Prop} (K : Int → Zl → List Zv → Zt → Prop) : sx_ K P [.return_] 255 = x_return_ P := (xe_return_)
theorem bk_X11_tellAll_e_245 : ck_ fX11 none cX11_tellAll 245 [.iconst 0, .isub, .iastore, .iinc 3 1, .goto 190] 254 = true := qck_r (nn_ _) (by decide +kernel)
theorem bs_X11_tellAll_e_245 {P : Zt → Option Zv → Prop} (K : Int → Zl → List Zv → Zt → Prop) : sx_ K P [.iconst 0, .isub, .iastore, .iinc 3 1, .goto 190] 254 = x_iconst 0 (x_isub (x_iastore (x_iinc 3 1 (x_goto 190 K)))) := ((xe_iconst 0).trans (congrArg (x_iconst 0) ((xe_isub).trans (congrArg (x_isub) ((xe_iastore).trans (congrArg (x_iastore) ((xe_iinc 3 1).trans (congrArg (x_iinc 3 1) (xe_goto 190)))))))))
theorem bk_X11_tellAll_e_246 : ck_ fX11 none cX11_tellAll 246 [.isub, .iastore, .iinc 3 1, .goto 190] 254 = true := qck_r (nn_ _) (by decide +kernel)
theorem bs_X11_tellAll_e_246 {P : Zt → Option Zv → Prop} (K : Int → Zl → List Zv → Zt → Prop) : sx_ K P [.isub, .iastore, .iinc 3 1, .goto 190] 254 = x_isub (x_iastore (x_iinc 3 1 (x_goto 190 K))) := ((xe_isub).trans (congrArg (x_isub) ((xe_iastore).trans (congrArg (x_iastore) ((xe_iinc 3 1).trans (congrArg (x_iinc 3 1) (xe_goto 190)))))))
theorem bk_X11_tellAll_e_182 : ck_ fX11 none cX11_tellAll 182 [.iinc 3 1, .goto 28] 188 = true := qck_r (nn_ _) (by decide +kernel)
theorem bs_X11_tellAll_e_182 {P : Zt → Option Zv → Prop} (K : Int → Zl → List Zv → Zt → Prop) : sx_ K P [.iinc 3 1, .goto 28] 188 = x_iinc 3 1 (x_goto 28 K) := ((xe_iinc 3 1).trans (congrArg (x_iinc 3 1) (xe_goto 28)))
theorem bk_X11_tellAll_e_28 : ck_ fX11 none cX11_tellAll 28 [.iload 3, .aload 0, .tableswitch 0 11 10 #[], .iload 1, .iaload, .aload 0, .tableswitch 0 11 11 #[], .iload 1, .iaload, .iadd, .if_icmp .ge 188, .aload 0, .iload 3, .iload 2] 48 = true := qck_r (nn_ _) (by decide +kernel)
theorem bs_X11_tellAll_e_28 {P : Zt → Option Zv → Prop} (K : Int → Zl → List Zv → Zt → Prop) : sx_ K P [.iload 3, .aload 0, .tableswitch 0 11 10 #[], .iload 1, .iaload, .aload 0, .tableswitch 0 11 11 #[], .iload 1, .iaload, .iadd, .if_icmp .ge 188, .aload 0, .iload 3, .iload 2] 48 = x_iload 3 (x_aload 0 (x_g1 111 210 (x_iload 1 (x_iaload (x_aload 0 (x_g1 111 211 (x_iload 1 (x_iaload (x_iadd (x_if_icmp .ge 188 K (x_aload 0 (x_iload 3 (x_iload 2 (K 48)))))))))))))) := ((xe_iload 3).trans (congrArg (x_iload 3) ((xe_aload 0).trans (congrArg (x_aload 0) ((xe_g1 (kk := 111) rfl tl_11_10).trans (congrArg (x_g1 111 210) ((xe_iload 1).trans (congrArg (x_iload 1) ((xe_iaload).trans (congrArg (x_iaload) ((xe_aload 0).trans (congrArg (x_aload 0) ((xe_g1 (kk := 111) rfl tl_11_11).trans (congrArg (x_g1 111 211) ((xe_iload 1).trans (congrArg (x_iload 1) ((xe_iaload).trans (congrArg (x_iaload) ((xe_iadd).trans (congrArg (x_iadd) ((xe_if_icmp .ge 188).trans (congrArg (x_if_icmp .ge 188 K) ((xe_aload 0).trans (congrArg (x_aload 0) ((xe_iload 3).trans (congrArg (x_iload 3) ((xe_iload 2).trans (congrArg (x_iload 2) xe_nil))))))))))))))))))))))))))))
theorem bk_X11_tellAll_e_188 : ck_ fX11 none cX11_tellAll 188 [.iconst 0, .istore 3] 190 = true := qck_r (nn_ _) (by decide +kernel)
theorem bs_X11_tellAll_e_188 {P : Zt → Option Zv → Prop} (K : Int → Zl → List Zv → Zt → Prop) : sx_ K P [.iconst 0, .istore 3] 190 = x_iconst 0 (x_istore 3 (K 190)) := ((xe_iconst 0).trans (congrArg (x_iconst 0) ((xe_istore 3).trans (congrArg (x_istore 3) xe_nil))))
theorem bk_X11_tellAll_e_51 : ck_ fX11 none cX11_tellAll 51 [.ifCond .eq 182, .aload 0, .iload 1, .aload 0, .tableswitch 0 11 32 #[], .iload 3, .iaload, .aload 0, .tableswitch 0 11 82 #[], .aload 0, .tableswitch 0 11 83 #[]] 70 = true := qck_r (nn_ _) (by decide +kernel)
theorem bs_X11_tellAll_e_51 {P : Zt → Option Zv → Prop} (K : Int → Zl → List Zv → Zt → Prop) : sx_ K P [.ifCond .eq 182, .aload 0, .iload 1, .aload 0, .tableswitch 0 11 32 #[], .iload 3, .iaload, .aload 0, .tableswitch 0 11 82 #[], .aload 0, .tableswitch 0 11 83 #[]] 70 = x_ifCond .eq 182 K (x_aload 0 (x_iload 1 (x_aload 0 (x_g1 111 232 (x_iload 3 (x_iaload (x_aload 0 (x_g0 111 82 (-2147483648) 2147483647 (x_aload 0 (x_g0 111 83 (-2147483648) 2147483647 (K 70))))))))))) := ((xe_ifCond .eq 182).trans (congrArg (x_ifCond .eq 182 K) ((xe_aload 0).trans (congrArg (x_aload 0) ((xe_iload 1).trans (congrArg (x_iload 1) ((xe_aload 0).trans (congrArg (x_aload 0) ((xe_g1 (kk := 111) rfl tl_11_32).trans (congrArg (x_g1 111 232) ((xe_iload 3).trans (congrArg (x_iload 3) ((xe_iaload).trans (congrArg (x_iaload) ((xe_aload 0).trans (congrArg (x_aload 0) ((xe_g0 (kk := 111) rfl tl_11_82).trans (congrArg (x_g0 111 82 (-2147483648) 2147483647) ((xe_aload 0).trans (congrArg (x_aload 0) ((xe_g0 (kk := 111) rfl tl_11_83).trans (congrArg (x_g0 111 83 (-2147483648) 2147483647) xe_nil))))))))))))))))))))))
theorem bk_X11_tellAll_e_73 : ck_ fX11 none cX11_tellAll 73 [.aload 0, .iload 1, .aload 0, .tableswitch 0 11 33 #[], .iload 3, .iaload, .aload 0, .tableswitch 0 11 83 #[], .aload 0, .tableswitch 0 11 82 #[]] 89 = true := qck_r (nn_ _) (by decide +kernel)
theorem bs_X11_tellAll_e_73 {P : Zt → Option Zv → Prop} (K : Int → Zl → List Zv → Zt → Prop) : sx_ K P [.aload 0, .iload 1, .aload 0, .tableswitch 0 11 33 #[], .iload 3, .iaload, .aload 0, .tableswitch 0 11 83 #[], .aload 0, .tableswitch 0 11 82 #[]] 89 = x_aload 0 (x_iload 1 (x_aload 0 (x_g1 111 233 (x_iload 3 (x_iaload (x_aload 0 (x_g0 111 83 (-2147483648) 2147483647 (x_aload 0 (x_g0 111 82 (-2147483648) 2147483647 (K 89)))))))))) := ((xe_aload 0).trans (congrArg (x_aload 0) ((xe_iload 1).trans (congrArg (x_iload 1) ((xe_aload 0).trans (congrArg (x_aload 0) ((xe_g1 (kk := 111) rfl tl_11_33).trans (congrArg (x_g1 111 233) ((xe_iload 3).trans (congrArg (x_iload 3) ((xe_iaload).trans (congrArg (x_iaload) ((xe_aload 0).trans (congrArg (x_aload 0) ((xe_g0 (kk := 111) rfl tl_11_83).trans (congrArg (x_g0 111 83 (-2147483648) 2147483647) ((xe_aload 0).trans (congrArg (x_aload 0) ((xe_g0 (kk := 111) rfl tl_11_82).trans (congrArg (x_g0 111 82 (-2147483648) 2147483647) xe_nil))))))))))))))))))))
theorem bk_X11_tellAll_e_92 : ck_ fX11 none cX11_tellAll 92 [.aload 0, .tableswitch 0 11 76 #[], .iconst 9, .aload 0, .tableswitch 0 11 33 #[], .iload 3, .iaload, .imul, .iconst 7, .iadd, .dup2, .iaload, .aload 0, .tableswitch 0 11 83 #[], .iadd, .iastore, .aload 0, .tableswitch 0 11 35 #[], .iload 3, .iaload, .iconst 2, .if_icmp .ne 182, .aload 0, .tableswitch 0 11 76 #[], .iconst 9, .aload 0, .tableswitch 0 11 32 #[], .iload 3, .iaload, .imul, .iconst 8, .iadd, .dup2, .iaload, .aload 0, .iconst 2, .iload 3, .imul] 148 = true := qck_r (nn_ _) (by decide +kernel)
theorem bs_X11_tellAll_e_92 {P : Zt → Option Zv → Prop} (K : Int → Zl → List Zv → Zt → Prop) : sx_ K P [.aload 0, .tableswitch 0 11 76 #[], .iconst 9, .aload 0, .tableswitch 0 11 33 #[], .iload 3, .iaload, .imul, .iconst 7, .iadd, .dup2, .iaload, .aload 0, .tableswitch 0 11 83 #[], .iadd, .iastore, .aload 0, .tableswitch 0 11 35 #[], .iload 3, .iaload, .iconst 2, .if_icmp .ne 182, .aload 0, .tableswitch 0 11 76 #[], .iconst 9, .aload 0, .tableswitch 0 11 32 #[], .iload 3, .iaload, .imul, .iconst 8, .iadd, .dup2, .iaload, .aload 0, .iconst 2, .iload 3, .imul] 148 = x_aload 0 (x_g1 111 276 (x_iconst 9 (x_aload 0 (x_g1 111 233 (x_iload 3 (x_iaload (x_imul (x_iconst 7 (x_iadd (x_dup2 (x_iaload (x_aload 0 (x_g0 111 83 (-2147483648) 2147483647 (x_iadd (x_iastore (x_aload 0 (x_g1 111 235 (x_iload 3 (x_iaload (x_iconst 2 (x_if_icmp .ne 182 K (x_aload 0 (x_g1 111 276 (x_iconst 9 (x_aload 0 (x_g1 111 232 (x_iload 3 (x_iaload (x_imul (x_iconst 8 (x_iadd (x_dup2 (x_iaload (x_aload 0 (x_iconst 2 (x_iload 3 (x_imul (K 148)))))))))))))))))))))))))))))))))))))) := ((xe_aload 0).trans (congrArg (x_aload 0) ((xe_g1 (kk := 111) rfl tl_11_76).trans (congrArg (x_g1 111 276) ((xe_iconst 9).trans (congrArg (x_iconst 9) ((xe_aload 0).trans (congrArg (x_aload 0) ((xe_g1 (kk := 111) rfl tl_11_33).trans (congrArg (x_g1 111 233) ((xe_iload 3).trans (congrArg (x_iload 3) ((xe_iaload).trans (congrArg (x_iaload) ((xe_imul).trans (congrArg (x_imul) ((xe_iconst 7).trans (congrArg (x_iconst 7) ((xe_iadd).trans (congrArg (x_iadd) ((xe_dup2).trans (congrArg (x_dup2) ((xe_iaload).trans (congrArg (x_iaload) ((xe_aload 0).trans (congrArg (x_aload 0) ((xe_g0 (kk := 111) rfl tl_11_83).trans (congrArg (x_g0 111 83 (-2147483648) 2147483647) ((xe_iadd).trans (congrArg (x_iadd) ((xe_iastore).trans (congrArg (x_iastore) ((xe_aload 0).trans (congrArg (x_aload 0) ((xe_g1 (kk := 111) rfl tl_11_35).trans (congrArg (x_g1 111 235) ((xe_iload 3).trans (congrArg (x_iload 3) ((xe_iaload).trans (congrArg (x_iaload) ((xe_iconst 2).trans (congrArg (x_iconst 2) ((xe_if_icmp .ne 182).trans (congrArg (x_if_icmp .ne 182 K) ((xe_aload 0).trans (congrArg (x_aload 0) ((xe_g1 (kk := 111) rfl tl_11_76).trans (congrArg (x_g1 111 276) ((xe_iconst 9).trans (congrArg (x_iconst 9) ((xe_aload 0).trans (congrArg (x_aload 0) ((xe_g1 (kk := 111) rfl tl_11_32).trans (congrArg (x_g1 111 232) ((xe_iload 3).trans (congrArg (x_iload 3) ((xe_iaload).trans (congrArg (x_iaload) ((xe_imul).trans (congrArg (x_imul) ((xe_iconst 8).trans (congrArg (x_iconst 8) ((xe_iadd).trans (congrArg (x_iadd) ((xe_dup2).trans (congrArg (x_dup2) ((xe_iaload).trans (congrArg (x_iaload) ((xe_aload 0).trans (congrArg (x_aload 0) ((xe_iconst 2).trans (congrArg (x_iconst 2) ((xe_iload 3).trans (congrArg (x_iload 3) ((xe_imul).trans (congrArg (x_imul) xe_nil))))))))))))))))))))))))))))))))))))))))))))))))))))))))))))))))))))))))))))
theorem bk_X11_tellAll_e_151 : ck_ fX11 none cX11_tellAll 151 [.iadd, .iastore, .aload 0, .tableswitch 0 11 76 #[], .iconst 9, .aload 0, .tableswitch 0 11 33 #[], .iload 3, .iaload, .imul, .iconst 8, .iadd, .dup2, .iaload, .aload 0, .iconst 2, .iload 3, .imul, .iconst 1, .iadd] 177 = true := qck_r (nn_ _) (by decide +kernel)
theorem bs_X11_tellAll_e_151 {P : Zt → Option Zv → Prop} (K : Int → Zl → List Zv → Zt → Prop) : sx_ K P [.iadd, .iastore, .aload 0, .tableswitch 0 11 76 #[], .iconst 9, .aload 0, .tableswitch 0 11 33 #[], .iload 3, .iaload, .imul, .iconst 8, .iadd, .dup2, .iaload, .aload 0, .iconst 2, .iload 3, .imul, .iconst 1, .iadd] 177 = x_iadd (x_iastore (x_aload 0 (x_g1 111 276 (x_iconst 9 (x_aload 0 (x_g1 111 233 (x_iload 3 (x_iaload (x_imul (x_iconst 8 (x_iadd (x_dup2 (x_iaload (x_aload 0 (x_iconst 2 (x_iload 3 (x_imul (x_iconst 1 (x_iadd (K 177)))))))))))))))))))) := ((xe_iadd).trans (congrArg (x_iadd) ((xe_iastore).trans (congrArg (x_iastore) ((xe_aload 0).trans (congrArg (x_aload 0) ((xe_g1 (kk := 111) rfl tl_11_76).trans (congrArg (x_g1 111 276) ((xe_iconst 9).trans (congrArg (x_iconst 9) ((xe_aload 0).trans (congrArg (x_aload 0) ((xe_g1 (kk := 111) rfl tl_11_33).trans (congrArg (x_g1 111 233) ((xe_iload 3).trans (congrArg (x_iload 3) ((xe_iaload).trans (congrArg (x_iaload) ((xe_imul).trans (congrArg (x_imul) ((xe_iconst 8).trans (congrArg (x_iconst 8) ((xe_iadd).trans (congrArg (x_iadd) ((xe_dup2).trans (congrArg (x_dup2) ((xe_iaload).trans (congrArg (x_iaload) ((xe_aload 0).trans (congrArg (x_aload 0) ((xe_iconst 2).trans (congrArg (x_iconst 2) ((xe_iload 3).trans (congrArg (x_iload 3) ((xe_imul).trans (congrArg (x_imul) ((xe_iconst 1).trans (congrArg (x_iconst 1) ((xe_iadd).trans (congrArg (x_iadd) xe_nil))))))))))))))))))))))))))))))))))))))))
theorem bk_X11_tellAll_e_180 : ck_ fX11 none cX11_tellAll 180 [.iadd, .iastore] 182 = true := qck_r (nn_ _) (by decide +kernel)
theorem bs_X11_tellAll_e_180 {P : Zt → Option Zv → Prop} (K : Int → Zl → List Zv → Zt → Prop) : sx_ K P [.iadd, .iastore] 182 = x_iadd (x_iastore (K 182)) := ((xe_iadd).trans (congrArg (x_iadd) ((xe_iastore).trans (congrArg (x_iastore) xe_nil))))
theorem bk_X11_tellAll_e_2 : ck_ fX11 none cX11_tellAll 2 [.iload 3, .iconst 108, .if_icmp .ge 21, .aload 0, .tableswitch 0 11 76 #[], .iload 3, .iconst 0, .iastore, .iinc 3 1, .goto 2] 21 = true := qck_r (nn_ _) (by decide +kernel)
theorem bs_X11_tellAll_e_2 {P : Zt → Option Zv → Prop} (K : Int → Zl → List Zv → Zt → Prop) : sx_ K P [.iload 3, .iconst 108, .if_icmp .ge 21, .aload 0, .tableswitch 0 11 76 #[], .iload 3, .iconst 0, .iastore, .iinc 3 1, .goto 2] 21 = x_iload 3 (x_iconst 108 (x_if_icmp .ge 21 K (x_aload 0 (x_g1 111 276 (x_iload 3 (x_iconst 0 (x_iastore (x_iinc 3 1 (x_goto 2 K))))))))) := ((xe_iload 3).trans (congrArg (x_iload 3) ((xe_iconst 108).trans (congrArg (x_iconst 108) ((xe_if_icmp .ge 21).trans (congrArg (x_if_icmp .ge 21 K) ((xe_aload 0).trans (congrArg (x_aload 0) ((xe_g1 (kk := 111) rfl tl_11_76).trans (congrArg (x_g1 111 276) ((xe_iload 3).trans (congrArg (x_iload 3) ((xe_iconst 0).trans (congrArg (x_iconst 0) ((xe_iastore).trans (congrArg (x_iastore) ((xe_iinc 3 1).trans (congrArg (x_iinc 3 1) (xe_goto 2)))))))))))))))))))
theorem bk_X11_tellAll_e_21 : ck_ fX11 none cX11_tellAll 21 [.aload 0, .tableswitch 0 11 10 #[], .iload 1, .iaload, .istore 3] 28 = true := qck_r (nn_ _) (by decide +kernel)
theorem bs_X11_tellAll_e_21 {P : Zt → Option Zv → Prop} (K : Int → Zl → List Zv → Zt → Prop) : sx_ K P [.aload 0, .tableswitch 0 11 10 #[], .iload 1, .iaload, .istore 3] 28 = x_aload 0 (x_g1 111 210 (x_iload 1 (x_iaload (x_istore 3 (K 28))))) := ((xe_aload 0).trans (congrArg (x_aload 0) ((xe_g1 (kk := 111) rfl tl_11_10).trans (congrArg (x_g1 111 210) ((xe_iload 1).trans (congrArg (x_iload 1) ((xe_iaload).trans (congrArg (x_iaload) ((xe_istore 3).trans (congrArg (x_istore 3) xe_nil))))))))))
theorem bk_X11_tellAll_e_0 : ck_ fX11 none cX11_tellAll 0 [.iconst 0, .istore 3] 2 = true := qck_r (nn_ _) (by decide +kernel)
theorem bs_X11_tellAll_e_0 {P : Zt → Option Zv → Prop} (K : Int → Zl → List Zv → Zt → Prop) : sx_ K P [.iconst 0, .istore 3] 2 = x_iconst 0 (x_istore 3 (K 2)) := ((xe_iconst 0).trans (congrArg (x_iconst 0) ((xe_istore 3).trans (congrArg (x_istore 3) xe_nil))))
abbrev po_X11_tellAll_e (T : Zt) (c d : Int) : Zt → Option Zv → Prop := fun T' r => r = none ∧ fr_ [(276, []), (111, [82, 83])] T T' ∧ (TB_ T' 150000000 ∧ TD_ T T' (fun w => T 205 0 (23 * c + w)) (fun k => vR_ T d (T 210 0 c + k)) (T 211 0 c).toNat c d (T 111 0 24).toNat)
set_option maxHeartbeats 4000000 in
theorem ct_X11_tellAll_e {T : Zt} {c d : Int} (h1 : 0 ≤ c ∧ c < 4) (hml : ML_ T) (hsc : SC_ T) (hyb : YB_ T) : Ct_ yX11_tellAll zX11_tellAll T [vR 111 0, vI c, vI d] (po_X11_tellAll_e T c d) := by
  refine ct_of pn_11 rfl rfl (Nat.le_of_ble_eq_true rfl) (fun hT hav => ?_)
  have hr_c : -2147483648 ≤ c ∧ c ≤ 2147483647 := hav (vI c) (List.mem_cons_of_mem _ List.mem_cons_self)
  have hr_d : -2147483648 ≤ d ∧ d ≤ 2147483647 := hav (vI d) (List.mem_cons_of_mem _ (List.mem_cons_of_mem _ List.mem_cons_self))
  have hz : zX11_tellAll.2.2.2.1 = some .boolean → ∀ (T' : Zt) (x : Int), po_X11_tellAll_e T c d T' (some (vI x)) → 0 ≤ x ∧ x ≤ 1 := fun h => by cases h
  have hb_29 : 0 ≤ T 111 0 29 ∧ T 111 0 29 ≤ 400 := bd_f hT 111 29 tl_11_29 0
  have hb_24 : 0 ≤ T 111 0 24 ∧ T 111 0 24 ≤ 50 := bd_f hT 111 24 tl_11_24 0
  have hmc := hml c (by omega) (by omega)
  have hfo : 0 ≤ T 210 0 c ∧ T 210 0 c ≤ 400 := bd_a hT 210 (by decide +kernel : ta_ 210 = some (1, some 4, 0, 400)) 0 (by omega)
  have hmo : 0 ≤ T 211 0 c ∧ T 211 0 c ≤ 400 := bd_a hT 211 (by decide +kernel : ta_ 211 = some (1, some 4, 0, 400)) 0 (by omega)
  show J_ zX11_tellAll T (po_X11_tellAll_e T c d) 0 0 0 [some (vR 111 0), some (vI c), some (vI d), none] [] T
  have c_190 : ∀ (nn : Nat) (i : Int) (T4 : Zt), ((50 - i).toNat) ≤ nn → (fr_ [(276, []), (111, [82, 83])] T T4) → (TB_ T4 (144800000 + 20000 * i)) → (0 ≤ i ∧ i ≤ 50 ∧ i ≤ T 111 0 24) → (TD_ T T4 (fun w => T 205 0 (23 * c + w)) (fun k => vR_ T d (T 210 0 c + k)) (T 211 0 c).toNat c d i.toNat) → J_ zX11_tellAll T (po_X11_tellAll_e T c d) 0 0 190 [some (vR 111 0), some (vI c), some (vI d), some (vI i)] [] T4 := by
    intro nn
    induction nn using Nat.strongRecOn with
    | _ nn ih_190 =>
      intro i T4 hm_190 hf_190 tb4 i4 td4
      replace hm_190 := fun (_ : Unit) => hm_190
      refine j_blx (F := fX11) tb_X11 (nn_ _) bk_X11_tellAll_e_190 bs_X11_tellAll_e_190 hz (fun K hK => ?_)
      intro b1 b1b
      have e2 : T4 111 0 24 = T 111 0 24 := hf_190 111 0 24 rfl
      rw [e2] at b1 b1b ⊢
      refine And.intro (fun c3 => ?_) (fun c3 => ?_)
      · refine hK 254 _ [] T4 ?_
        refine j_blx (F := fX11) tb_X11 (nn_ _) bk_X11_tellAll_e_254 bs_X11_tellAll_e_254 hz (fun K hK => ?_)
        refine (show po_X11_tellAll_e T c d T4 (none) from ?_)
        exact ⟨rfl, fr_t (fr_0 _ _) (fr_s hf_190 rfl), tb_m tb4 (by omega), by rw [show T 111 0 24 = i by omega]; exact td4⟩
      · refine ix_i (by omega) ?_
        intro b4 b4b
        have e5 : T4 226 0 i = T 226 0 i := hf_190 226 0 i rfl
        rw [e5] at b4 b4b ⊢
        refine rg_i (by omega) ?_
        refine rg_i (by omega) ?_
        refine ix_i (by omega) ?_
        intro b6 b6b
        refine ix_i (by omega) ?_
        intro b7 b7b
        have e8 : T4 225 0 i = T 225 0 i := hf_190 225 0 i rfl
        rw [e8] at b7 b7b ⊢
        refine And.intro (fun c9 => ?_) (fun c9 => ?_)
        · refine hK 245 _ [vI (T4 276 0 ((9 * (T 226 0 i)) + 6)), vI ((9 * (T 226 0 i)) + 6), vR 276 0] T4 ?_
          refine j_blx (F := fX11) tb_X11 (nn_ _) bk_X11_tellAll_e_245 bs_X11_tellAll_e_245 hz (fun K hK => ?_)
          have t10 : -(144800000 + 20000 * i) ≤ T4 276 0 ((9 * (T 226 0 i)) + 6) ∧ T4 276 0 ((9 * (T 226 0 i)) + 6) ≤ 144800000 + 20000 * i ∧ (((9 * (T 226 0 i)) + 6) % 9 = 6 → -(144800000 + 20000 * i) ≤ 20 * (T4 276 0 ((9 * (T 226 0 i)) + 6)) ∧ 20 * (T4 276 0 ((9 * (T 226 0 i)) + 6)) ≤ 144800000 + 20000 * i) := (tb4) ((9 * (T 226 0 i)) + 6) (by omega) (by omega)
          refine rg_i (by omega) ?_
          refine iy_i (by omega) (by omega) ?_
          refine x_nm (fun U11 hU11 => ?_)
          have e12 := up_f hU11
          refine rg_i (by omega) ?_
          refine hK 190 [some (vR 111 0), some (vI c), some (vI d), some (vI (i + 1))] [] U11 ?_
          refine ih_190 _ ?_ (i + 1) U11 (Nat.le_refl _) ?_ ?_ ?_ ?_
          · have hm_190 := hm_190 (); omega
          · exact fr_u (fr_t (fr_0 _ _) (fr_s hf_190 rfl)) hU11 rfl
          · exact tb_m (tb_u (d := 20000) (tb4) hU11 (by decide) (by omega)) (by omega)
          · omega
          · have ei : ((i.toNat : Nat) : Int) = i := by omega
            rw [show (i + 1).toNat = i.toNat + 1 by omega]
            exact tdd_k (tdd_s td4 hU11 (by rw [ei]) rfl (by rw [ei]; first | exact (cz_t (by omega)).symm | exact (cz_f (by omega)).symm)) (fun j => rfl)
        · refine ix_i (by omega) ?_
          intro b13 b13b
          have e14 : T4 228 0 i = T 228 0 i := hf_190 228 0 i rfl
          rw [e14] at b13 b13b ⊢
          refine And.intro (fun c15 => ?_) (fun c15 => ?_)
          · refine hK 245 [some (vR 111 0), some (vI c), some (vI d), some (vI i)] [vI (T4 276 0 ((9 * (T 226 0 i)) + 6)), vI ((9 * (T 226 0 i)) + 6), vR 276 0] T4 ?_
            refine j_blx (F := fX11) tb_X11 (nn_ _) bk_X11_tellAll_e_245 bs_X11_tellAll_e_245 hz (fun K hK => ?_)
            have t16 : -(144800000 + 20000 * i) ≤ T4 276 0 ((9 * (T 226 0 i)) + 6) ∧ T4 276 0 ((9 * (T 226 0 i)) + 6) ≤ 144800000 + 20000 * i ∧ (((9 * (T 226 0 i)) + 6) % 9 = 6 → -(144800000 + 20000 * i) ≤ 20 * (T4 276 0 ((9 * (T 226 0 i)) + 6)) ∧ 20 * (T4 276 0 ((9 * (T 226 0 i)) + 6)) ≤ 144800000 + 20000 * i) := (tb4) ((9 * (T 226 0 i)) + 6) (by omega) (by omega)
            refine rg_i (by omega) ?_
            refine iy_i (by omega) (by omega) ?_
            refine x_nm (fun U17 hU17 => ?_)
            have e18 := up_f hU17
            refine rg_i (by omega) ?_
            refine hK 190 [some (vR 111 0), some (vI c), some (vI d), some (vI (i + 1))] [] U17 ?_
            refine ih_190 _ ?_ (i + 1) U17 (Nat.le_refl _) ?_ ?_ ?_ ?_
            · have hm_190 := hm_190 (); omega
            · exact fr_u (fr_t (fr_0 _ _) (fr_s hf_190 rfl)) hU17 rfl
            · exact tb_m (tb_u (d := 20000) (tb4) hU17 (by decide) (by omega)) (by omega)
            · omega
            · have ei : ((i.toNat : Nat) : Int) = i := by omega
              rw [show (i + 1).toNat = i.toNat + 1 by omega]
              exact tdd_k (tdd_s td4 hU17 (by rw [ei]) rfl (by rw [ei]; first | exact (cz_t (by omega)).symm | exact (cz_f (by omega)).symm)) (fun j => rfl)
          · refine ix_i (by omega) ?_
            intro b19 b19b
            have e20 : T4 227 0 i = T 227 0 i := hf_190 227 0 i rfl
            rw [e20] at b19 b19b ⊢
            refine hK 246 [some (vR 111 0), some (vI c), some (vI d), some (vI i)] [vI (T 227 0 i), vI (T4 276 0 ((9 * (T 226 0 i)) + 6)), vI ((9 * (T 226 0 i)) + 6), vR 276 0] T4 ?_
            refine j_blx (F := fX11) tb_X11 (nn_ _) bk_X11_tellAll_e_246 bs_X11_tellAll_e_246 hz (fun K hK => ?_)
            have t21 : -(144800000 + 20000 * i) ≤ T4 276 0 ((9 * (T 226 0 i)) + 6) ∧ T4 276 0 ((9 * (T 226 0 i)) + 6) ≤ 144800000 + 20000 * i ∧ (((9 * (T 226 0 i)) + 6) % 9 = 6 → -(144800000 + 20000 * i) ≤ 20 * (T4 276 0 ((9 * (T 226 0 i)) + 6)) ∧ 20 * (T4 276 0 ((9 * (T 226 0 i)) + 6)) ≤ 144800000 + 20000 * i) := (tb4) ((9 * (T 226 0 i)) + 6) (by omega) (by omega)
            refine rg_i (by omega) ?_
            refine iy_i (by omega) (by omega) ?_
            refine x_nm (fun U22 hU22 => ?_)
            have e23 := up_f hU22
            refine rg_i (by omega) ?_
            refine hK 190 [some (vR 111 0), some (vI c), some (vI d), some (vI (i + 1))] [] U22 ?_
            refine ih_190 _ ?_ (i + 1) U22 (Nat.le_refl _) ?_ ?_ ?_ ?_
            · have hm_190 := hm_190 (); omega
            · exact fr_u (fr_t (fr_0 _ _) (fr_s hf_190 rfl)) hU22 rfl
            · exact tb_m (tb_u (d := 20000) (tb4) hU22 (by decide) (by omega)) (by omega)
            · omega
            · have ei : ((i.toNat : Nat) : Int) = i := by omega
              rw [show (i + 1).toNat = i.toNat + 1 by omega]
              exact tdd_k (tdd_s td4 hU22 (by rw [ei]) rfl (by rw [ei]; first | exact (cz_t (by omega)).symm | exact (cz_f (by omega)).symm)) (fun j => rfl)
  have c_28 : ∀ (nn : Nat) (m : Int) (T2 : Zt), ((400 - m).toNat) ≤ nn → (fr_ [(276, []), (111, [82, 83])] T T2) → (TB_ T2 (362000 * (m - T 210 0 c))) → (T 210 0 c ≤ m ∧ m ≤ 400 ∧ m ≤ T 210 0 c + T 211 0 c) → (TN_ T2 (fun w => T 205 0 (23 * c + w)) (fun k => vR_ T d (T 210 0 c + k)) (m - T 210 0 c).toNat) → J_ zX11_tellAll T (po_X11_tellAll_e T c d) 0 0 28 [some (vR 111 0), some (vI c), some (vI d), some (vI m)] [] T2 := by
    intro nn
    induction nn using Nat.strongRecOn with
    | _ nn ih_28 =>
      intro m T2 hm_28 hf_28 tb2 i2 tn2
      replace hm_28 := fun (_ : Unit) => hm_28
      have c_182 : ∀ (T3 : Zt), (fr_ [(276, []), (111, [82, 83])] T T3) → (TB_ T3 (362000 * (m - T 210 0 c) + 362000)) → (m < 400 ∧ m < T 210 0 c + T 211 0 c) → (TN_ T3 (fun w => T 205 0 (23 * c + w)) (fun k => vR_ T d (T 210 0 c + k)) (m - T 210 0 c + 1).toNat) → J_ zX11_tellAll T (po_X11_tellAll_e T c d) 0 0 182 [some (vR 111 0), some (vI c), some (vI d), some (vI m)] [] T3 := by
        intro T3 hf_182 tb3 i3 tn3
        refine j_blx (F := fX11) tb_X11 (nn_ _) bk_X11_tellAll_e_182 bs_X11_tellAll_e_182 hz (fun K hK => ?_)
        refine rg_i (by omega) ?_
        refine hK 28 [some (vR 111 0), some (vI c), some (vI d), some (vI (m + 1))] [] T3 ?_
        refine ih_28 _ ?_ (m + 1) T3 (Nat.le_refl _) ?_ ?_ ?_ ?_
        · have hm_28 := hm_28 (); omega
        · exact fr_t (fr_0 _ _) (fr_s hf_182 rfl)
        · exact tb_m (tb3) (by omega)
        · omega
        · rw [show m + 1 - T 210 0 c = m - T 210 0 c + 1 by omega]
          exact tn_k tn3 (fun j => rfl)
      refine j_blx (F := fX11) tb_X11 (nn_ _) bk_X11_tellAll_e_28 bs_X11_tellAll_e_28 hz (fun K hK => ?_)
      refine ix_i (by omega) ?_
      intro b24 b24b
      have e25 : T2 210 0 c = T 210 0 c := hf_28 210 0 c rfl
      rw [e25] at b24 b24b ⊢
      refine ix_i (by omega) ?_
      intro b26 b26b
      have e27 : T2 211 0 c = T 211 0 c := hf_28 211 0 c rfl
      rw [e27] at b26 b26b ⊢
      refine rg_i (by omega) ?_
      refine And.intro (fun c28 => ?_) (fun c28 => ?_)
      · refine hK 188 _ [] T2 ?_
        refine j_blx (F := fX11) tb_X11 (nn_ _) bk_X11_tellAll_e_188 bs_X11_tellAll_e_188 hz (fun K hK => ?_)
        refine hK 190 [some (vR 111 0), some (vI c), some (vI d), some (vI 0)] [] T2 ?_
        refine c_190 _ 0 T2 (Nat.le_refl _) ?_ ?_ ?_ ?_
        · exact fr_t (fr_0 _ _) (fr_s hf_28 rfl)
        · exact tb_m (tb2) (by omega)
        · omega
        · exact tdd_0 (tn_k (by rw [show (T 211 0 c).toNat = (m - T 210 0 c).toNat by omega]; exact tn2) (fun j => rfl))
      · refine hK 48 [some (vR 111 0), some (vI c), some (vI d), some (vI m)] [vI d, vI m, vR 111 0] T2 ?_
        refine j_callV (y := yX11_counts) (Yc := zX11_counts) (rest := []) [vI m, vI d] (ct_X11_counts_e (T := T2) (by omega) (SC__f (ws := [(276, []), (111, [82, 83])]) hsc (fr_t (fr_0 _ _) (fr_s hf_28 rfl)) ⟨fun _ => rfl, fun _ => rfl, trivial⟩)) cl_X11_487 (qd_c (by decide +kernel)) (nn_ _) rfl (rf_of rfl) (Nat.le_of_ble_eq_true rfl) (Nat.le_of_ble_eq_true rfl) (Nat.le_of_ble_eq_true rfl) rfl ?_
        rintro U29 _ ⟨x30, rfl, fU29, ⟨qU29, qU29v⟩⟩
        show J_ zX11_tellAll T (po_X11_tellAll_e T c d) 0 0 51 _ [vI x30] U29
        refine j_blx (F := fX11) tb_X11 (nn_ _) bk_X11_tellAll_e_51 bs_X11_tellAll_e_51 hz (fun K hK => ?_)
        refine And.intro (fun c31 => ?_) (fun c31 => ?_)
        · refine hK 182 _ [] U29 ?_
          refine c_182 U29 ?_ ?_ ?_ ?_
          · exact fr_t (fr_t (fr_0 _ _) (fr_s hf_28 rfl)) (fr_s fU29 rfl)
          · exact tb_m (tb_f (tb2) (fun j => fU29 276 0 j rfl)) (by omega)
          · omega
          · have ek : (((m - T 210 0 c).toNat : Nat) : Int) = m - T 210 0 c := by omega
            have em : T 210 0 c + (m - T 210 0 c) = m := by omega
            rw [show (m - T 210 0 c + 1).toNat = (m - T 210 0 c).toNat + 1 by omega]
            have ev : vR_ T2 d m = vR_ T d m := vr_g hf_28 (fun k j q9 => by rcases q9 with rfl | rfl | rfl | rfl | rfl | rfl | rfl | rfl | rfl | rfl <;> rfl) rfl
            refine tn_z tn2 ?_ (fun j => fU29 276 0 j rfl)
            rw [ek]
            show vR_ T d (T 210 0 c + (m - T 210 0 c)) 0 ≠ 1
            rw [em, ← ev]
            rcases qU29v with z | z
            · omega
            · exact z.2
        · refine ix_i (by omega) ?_
          intro b32 b32b
          have e33 : U29 232 0 m = T 232 0 m := (fU29 232 0 m rfl).trans (hf_28 232 0 m rfl)
          rw [e33] at b32 b32b ⊢
          intro b34 b34b
          intro b35 b35b
          refine hK 70 _ [vI (U29 111 0 83), vI (U29 111 0 82), vI (T 232 0 m), vI c, vR 111 0] U29 ?_
          refine j_callV (y := yX11_tellResult) (Yc := zX11_tellResult) (rest := []) [vI c, vI (T 232 0 m), vI (U29 111 0 82), vI (U29 111 0 83)] (ct_X11_tellResult_e (T := U29) (bb := 362000 * (m - T 210 0 c)) (by omega) (by omega) (by omega) (by omega) (by omega) (tb_f (tb2) (fun j => fU29 276 0 j rfl))) cl_X11_490 (qd_c (by decide +kernel)) (nn_ _) rfl (rf_of rfl) (Nat.le_of_ble_eq_true rfl) (Nat.le_of_ble_eq_true rfl) (Nat.le_of_ble_eq_true rfl) rfl ?_
          rintro U36 _ ⟨rfl, fU36, qU36, qU36v⟩
          rw [show (fun w => U29 205 0 (23 * c + w)) = (fun w => T 205 0 (23 * c + w)) from funext (fun w => (fU29 205 0 (23 * c + w) rfl).trans (hf_28 205 0 (23 * c + w) rfl))] at qU36v
          show J_ zX11_tellAll T (po_X11_tellAll_e T c d) 0 0 73 _ [] U36
          refine j_blx (F := fX11) tb_X11 (nn_ _) bk_X11_tellAll_e_73 bs_X11_tellAll_e_73 hz (fun K hK => ?_)
          refine ix_i (by omega) ?_
          intro b37 b37b
          have e38 : U36 233 0 m = T 233 0 m := (fU36 233 0 m rfl).trans ((fU29 233 0 m rfl).trans (hf_28 233 0 m rfl))
          rw [e38] at b37 b37b ⊢
          intro b39 b39b
          have e40 : U36 111 0 83 = U29 111 0 83 := fU36 111 0 83 rfl
          rw [e40] at b39 b39b ⊢
          intro b41 b41b
          have e42 : U36 111 0 82 = U29 111 0 82 := fU36 111 0 82 rfl
          rw [e42] at b41 b41b ⊢
          refine hK 89 _ [vI (U29 111 0 82), vI (U29 111 0 83), vI (T 233 0 m), vI c, vR 111 0] U36 ?_
          refine j_callV (y := yX11_tellResult) (Yc := zX11_tellResult) (rest := []) [vI c, vI (T 233 0 m), vI (U29 111 0 83), vI (U29 111 0 82)] (ct_X11_tellResult_e (T := U36) (bb := 362000 * (m - T 210 0 c) + 140000) (by omega) (by omega) (by omega) (by omega) (by omega) (qU36)) cl_X11_490 (qd_c (by decide +kernel)) (nn_ _) rfl (rf_of rfl) (Nat.le_of_ble_eq_true rfl) (Nat.le_of_ble_eq_true rfl) (Nat.le_of_ble_eq_true rfl) rfl ?_
          rintro U43 _ ⟨rfl, fU43, qU43, qU43v⟩
          rw [show (fun w => U36 205 0 (23 * c + w)) = (fun w => T 205 0 (23 * c + w)) from funext (fun w => (fU36 205 0 (23 * c + w) rfl).trans ((fU29 205 0 (23 * c + w) rfl).trans (hf_28 205 0 (23 * c + w) rfl)))] at qU43v
          show J_ zX11_tellAll T (po_X11_tellAll_e T c d) 0 0 92 _ [] U43
          refine j_blx (F := fX11) tb_X11 (nn_ _) bk_X11_tellAll_e_92 bs_X11_tellAll_e_92 hz (fun K hK => ?_)
          refine ix_i (by omega) ?_
          intro b44 b44b
          have e45 : U43 233 0 m = T 233 0 m := (fU43 233 0 m rfl).trans ((fU36 233 0 m rfl).trans ((fU29 233 0 m rfl).trans (hf_28 233 0 m rfl)))
          rw [e45] at b44 b44b ⊢
          refine rg_i (by omega) ?_
          refine rg_i (by omega) ?_
          refine ix_i (by omega) ?_
          intro b46 b46b
          intro b47 b47b
          have e48 : U43 111 0 83 = U29 111 0 83 := (fU43 111 0 83 rfl).trans (fU36 111 0 83 rfl)
          rw [e48] at b47 b47b ⊢
          have t49 : -(362000 * (m - T 210 0 c) + 140000 + 140000) ≤ U43 276 0 ((9 * (T 233 0 m)) + 7) ∧ U43 276 0 ((9 * (T 233 0 m)) + 7) ≤ 362000 * (m - T 210 0 c) + 140000 + 140000 ∧ (((9 * (T 233 0 m)) + 7) % 9 = 6 → -(362000 * (m - T 210 0 c) + 140000 + 140000) ≤ 20 * (U43 276 0 ((9 * (T 233 0 m)) + 7)) ∧ 20 * (U43 276 0 ((9 * (T 233 0 m)) + 7)) ≤ 362000 * (m - T 210 0 c) + 140000 + 140000) := (qU43) ((9 * (T 233 0 m)) + 7) (by omega) (by omega)
          refine rg_i (by omega) ?_
          refine iy_i (by omega) (by omega) ?_
          refine x_nm (fun U50 hU50 => ?_)
          have e51 := up_f hU50
          refine ix_i (by omega) ?_
          intro b52 b52b
          have e53 : U50 235 0 m = T 235 0 m := (up_k hU50 (by exact Nat.ne_of_beq_eq_false rfl) 0 m).trans ((fU43 235 0 m rfl).trans ((fU36 235 0 m rfl).trans ((fU29 235 0 m rfl).trans (hf_28 235 0 m rfl))))
          rw [e53] at b52 b52b ⊢
          refine And.intro (fun c54 => ?_) (fun c54 => ?_)
          · refine hK 182 _ [] U50 ?_
            refine c_182 U50 ?_ ?_ ?_ ?_
            · exact fr_u (fr_t (fr_t (fr_t (fr_t (fr_0 _ _) (fr_s hf_28 rfl)) (fr_s fU29 rfl)) (fr_s fU36 rfl)) (fr_s fU43 rfl)) hU50 rfl
            · exact tb_m (tb_u (d := 20000) (qU43) hU50 (by decide) (by omega)) (by omega)
            · omega
            · have ek : (((m - T 210 0 c).toNat : Nat) : Int) = m - T 210 0 c := by omega
              have em : T 210 0 c + (m - T 210 0 c) = m := by omega
              rw [show (m - T 210 0 c + 1).toNat = (m - T 210 0 c).toNat + 1 by omega]
              have ev : vR_ T2 d m = vR_ T d m := vr_g hf_28 (fun k j q9 => by rcases q9 with rfl | rfl | rfl | rfl | rfl | rfl | rfl | rfl | rfl | rfl <;> rfl) rfl
              obtain ⟨w1, w2, w3, w4⟩ := qU29v.resolve_right (fun z => absurd z.1 (by omega))
              rw [ev] at w2 w3 w4
              have g : ∀ i, vR_ T d (T 210 0 c + (m - T 210 0 c)) i = vR_ T d m i := fun i => by rw [em]
              have g1 : vR_ T d (T 210 0 c + (m - T 210 0 c)) 1 = T 232 0 m := (g 1).trans vr_1
              have g2 : vR_ T d (T 210 0 c + (m - T 210 0 c)) 2 = T 233 0 m := (g 2).trans vr_2
              have tm := tv_m (ru := (fun w => T 205 0 (23 * c + w))) (v := (fun k => vR_ T d (T 210 0 c + k))) (k := m - T 210 0 c) (tv_b qU36v (fun j => fU29 276 0 j rfl)) qU43v hU50 (by omega) rfl ((g 0).trans w2) g1 g2 ((g 3).trans w3.symm) ((g 4).trans w4.symm)
              refine tn_s tn2 ?_
              rw [ek]
              exact tv_k (tv_n tm ((g 0).trans w2) ((g 5).trans (vr_5.trans (cz_f (by omega)))) ((g 6).trans (vr_6.trans (cz_f (by omega))))) (fun j => rfl)
          · refine ix_i (by omega) ?_
            intro b55 b55b
            have e56 : U50 232 0 m = T 232 0 m := (up_k hU50 (by exact Nat.ne_of_beq_eq_false rfl) 0 m).trans ((fU43 232 0 m rfl).trans ((fU36 232 0 m rfl).trans ((fU29 232 0 m rfl).trans (hf_28 232 0 m rfl))))
            rw [e56] at b55 b55b ⊢
            refine rg_i (by omega) ?_
            refine rg_i (by omega) ?_
            refine ix_i (by omega) ?_
            intro b57 b57b
            refine rg_i (by omega) ?_
            refine hK 148 _ [vI (2 * m), vR 111 0, vI (U50 276 0 ((9 * (T 232 0 m)) + 8)), vI ((9 * (T 232 0 m)) + 8), vR 276 0] U50 ?_
            refine j_callV (y := yX11_fairOf) (Yc := zX11_fairOf) (rest := [vI (U50 276 0 ((9 * (T 232 0 m)) + 8)), vI ((9 * (T 232 0 m)) + 8), vR 276 0]) [vI (2 * m)] (ct_X11_fairOf_e (T := U50) (by omega) (YB__f (ws := [(276, []), (111, [82, 83])]) hyb (fr_u (fr_t (fr_t (fr_t (fr_t (fr_0 _ _) (fr_s hf_28 rfl)) (fr_s fU29 rfl)) (fr_s fU36 rfl)) (fr_s fU43 rfl)) hU50 rfl) ⟨fun _ => rfl, trivial⟩)) cl_X11_493 (qd_c (by decide +kernel)) (nn_ _) rfl (rf_of rfl) (Nat.le_of_ble_eq_true rfl) (Nat.le_of_ble_eq_true rfl) (Nat.le_of_ble_eq_true rfl) rfl ?_
            rintro _ _ ⟨rfl, x58, rfl, hx58⟩
            have hx58k : x58 = fr9c_ T (2 * m) (T 239 0 (2 * m)).toNat := hx58.2.trans (frc_q (ws := [(276, []), (111, [82, 83])]) (fr_u (fr_t (fr_t (fr_t (fr_t (fr_0 _ _) (fr_s hf_28 rfl)) (fr_s fU29 rfl)) (fr_s fU36 rfl)) (fr_s fU43 rfl)) hU50 rfl) (fun _ => rfl) (fun _ => rfl) (fun _ => rfl))
            show J_ zX11_tellAll T (po_X11_tellAll_e T c d) 0 0 151 _ [vI x58, vI (U50 276 0 ((9 * (T 232 0 m)) + 8)), vI ((9 * (T 232 0 m)) + 8), vR 276 0] U50
            refine j_blx (F := fX11) tb_X11 (nn_ _) bk_X11_tellAll_e_151 bs_X11_tellAll_e_151 hz (fun K hK => ?_)
            have t59 : -(362000 * (m - T 210 0 c) + 140000 + 140000 + 20000) ≤ U50 276 0 ((9 * (T 232 0 m)) + 8) ∧ U50 276 0 ((9 * (T 232 0 m)) + 8) ≤ 362000 * (m - T 210 0 c) + 140000 + 140000 + 20000 ∧ (((9 * (T 232 0 m)) + 8) % 9 = 6 → -(362000 * (m - T 210 0 c) + 140000 + 140000 + 20000) ≤ 20 * (U50 276 0 ((9 * (T 232 0 m)) + 8)) ∧ 20 * (U50 276 0 ((9 * (T 232 0 m)) + 8)) ≤ 362000 * (m - T 210 0 c) + 140000 + 140000 + 20000) := (tb_u (d := 20000) (qU43) hU50 (by decide) (by omega)) ((9 * (T 232 0 m)) + 8) (by omega) (by omega)
            refine rg_i (by omega) ?_
            refine iy_i (by omega) (by omega) ?_
            refine x_nm (fun U60 hU60 => ?_)
            have e61 := up_f hU60
            refine ix_i (by omega) ?_
            intro b62 b62b
            have e63 : U60 233 0 m = T 233 0 m := (up_k hU60 (by exact Nat.ne_of_beq_eq_false rfl) 0 m).trans ((up_k hU50 (by exact Nat.ne_of_beq_eq_false rfl) 0 m).trans ((fU43 233 0 m rfl).trans ((fU36 233 0 m rfl).trans ((fU29 233 0 m rfl).trans (hf_28 233 0 m rfl)))))
            rw [e63] at b62 b62b ⊢
            refine rg_i (by omega) ?_
            refine rg_i (by omega) ?_
            refine ix_i (by omega) ?_
            intro b64 b64b
            refine rg_i (by omega) ?_
            refine rg_i (by omega) ?_
            refine hK 177 _ [vI ((2 * m) + 1), vR 111 0, vI (U60 276 0 ((9 * (T 233 0 m)) + 8)), vI ((9 * (T 233 0 m)) + 8), vR 276 0] U60 ?_
            refine j_callV (y := yX11_fairOf) (Yc := zX11_fairOf) (rest := [vI (U60 276 0 ((9 * (T 233 0 m)) + 8)), vI ((9 * (T 233 0 m)) + 8), vR 276 0]) [vI ((2 * m) + 1)] (ct_X11_fairOf_e (T := U60) (by omega) (YB__f (ws := [(276, []), (111, [82, 83])]) hyb (fr_u (fr_u (fr_t (fr_t (fr_t (fr_t (fr_0 _ _) (fr_s hf_28 rfl)) (fr_s fU29 rfl)) (fr_s fU36 rfl)) (fr_s fU43 rfl)) hU50 rfl) hU60 rfl) ⟨fun _ => rfl, trivial⟩)) cl_X11_493 (qd_c (by decide +kernel)) (nn_ _) rfl (rf_of rfl) (Nat.le_of_ble_eq_true rfl) (Nat.le_of_ble_eq_true rfl) (Nat.le_of_ble_eq_true rfl) rfl ?_
            rintro _ _ ⟨rfl, x65, rfl, hx65⟩
            have hx65k : x65 = fr9c_ T ((2 * m) + 1) (T 239 0 ((2 * m) + 1)).toNat := hx65.2.trans (frc_q (ws := [(276, []), (111, [82, 83])]) (fr_u (fr_u (fr_t (fr_t (fr_t (fr_t (fr_0 _ _) (fr_s hf_28 rfl)) (fr_s fU29 rfl)) (fr_s fU36 rfl)) (fr_s fU43 rfl)) hU50 rfl) hU60 rfl) (fun _ => rfl) (fun _ => rfl) (fun _ => rfl))
            show J_ zX11_tellAll T (po_X11_tellAll_e T c d) 0 0 180 _ [vI x65, vI (U60 276 0 ((9 * (T 233 0 m)) + 8)), vI ((9 * (T 233 0 m)) + 8), vR 276 0] U60
            refine j_blx (F := fX11) tb_X11 (nn_ _) bk_X11_tellAll_e_180 bs_X11_tellAll_e_180 hz (fun K hK => ?_)
            have t66 : -(362000 * (m - T 210 0 c) + 140000 + 140000 + 20000 + 31000) ≤ U60 276 0 ((9 * (T 233 0 m)) + 8) ∧ U60 276 0 ((9 * (T 233 0 m)) + 8) ≤ 362000 * (m - T 210 0 c) + 140000 + 140000 + 20000 + 31000 ∧ (((9 * (T 233 0 m)) + 8) % 9 = 6 → -(362000 * (m - T 210 0 c) + 140000 + 140000 + 20000 + 31000) ≤ 20 * (U60 276 0 ((9 * (T 233 0 m)) + 8)) ∧ 20 * (U60 276 0 ((9 * (T 233 0 m)) + 8)) ≤ 362000 * (m - T 210 0 c) + 140000 + 140000 + 20000 + 31000) := (tb_u (d := 31000) (tb_u (d := 20000) (qU43) hU50 (by decide) (by omega)) hU60 (by decide) (by omega)) ((9 * (T 233 0 m)) + 8) (by omega) (by omega)
            refine rg_i (by omega) ?_
            refine iy_i (by omega) (by omega) ?_
            refine x_nm (fun U67 hU67 => ?_)
            have e68 := up_f hU67
            refine hK 182 _ [] U67 ?_
            refine c_182 U67 ?_ ?_ ?_ ?_
            · exact fr_u (fr_u (fr_u (fr_t (fr_t (fr_t (fr_t (fr_0 _ _) (fr_s hf_28 rfl)) (fr_s fU29 rfl)) (fr_s fU36 rfl)) (fr_s fU43 rfl)) hU50 rfl) hU60 rfl) hU67 rfl
            · exact tb_m (tb_u (d := 31000) (tb_u (d := 31000) (tb_u (d := 20000) (qU43) hU50 (by decide) (by omega)) hU60 (by decide) (by omega)) hU67 (by decide) (by omega)) (by omega)
            · omega
            · have ek : (((m - T 210 0 c).toNat : Nat) : Int) = m - T 210 0 c := by omega
              have em : T 210 0 c + (m - T 210 0 c) = m := by omega
              rw [show (m - T 210 0 c + 1).toNat = (m - T 210 0 c).toNat + 1 by omega]
              have ev : vR_ T2 d m = vR_ T d m := vr_g hf_28 (fun k j q9 => by rcases q9 with rfl | rfl | rfl | rfl | rfl | rfl | rfl | rfl | rfl | rfl <;> rfl) rfl
              obtain ⟨w1, w2, w3, w4⟩ := qU29v.resolve_right (fun z => absurd z.1 (by omega))
              rw [ev] at w2 w3 w4
              have g : ∀ i, vR_ T d (T 210 0 c + (m - T 210 0 c)) i = vR_ T d m i := fun i => by rw [em]
              have g1 : vR_ T d (T 210 0 c + (m - T 210 0 c)) 1 = T 232 0 m := (g 1).trans vr_1
              have g2 : vR_ T d (T 210 0 c + (m - T 210 0 c)) 2 = T 233 0 m := (g 2).trans vr_2
              have tm := tv_m (ru := (fun w => T 205 0 (23 * c + w))) (v := (fun k => vR_ T d (T 210 0 c + k))) (k := m - T 210 0 c) (tv_b qU36v (fun j => fU29 276 0 j rfl)) qU43v hU50 (by omega) rfl ((g 0).trans w2) g1 g2 ((g 3).trans w3.symm) ((g 4).trans w4.symm)
              refine tn_s tn2 ?_
              rw [ek]
              have f5 : vR_ T d (T 210 0 c + (m - T 210 0 c)) 5 = fr9c_ T (2 * m) (T 239 0 (2 * m)).toNat := (g 5).trans (vr_5.trans (cz_t (by omega)))
              have f6 : vR_ T d (T 210 0 c + (m - T 210 0 c)) 6 = fr9c_ T (2 * m + 1) (T 239 0 (2 * m + 1)).toNat := (g 6).trans (vr_6.trans (cz_t (by omega)))
              exact tv_k (tv_f tm hU60 (by show _ = 9 * vR_ T d (T 210 0 c + (m - T 210 0 c)) 1 + 8; omega) (by show _ = _ + vR_ T d (T 210 0 c + (m - T 210 0 c)) 5; omega) hU67 (by show _ = 9 * vR_ T d (T 210 0 c + (m - T 210 0 c)) 2 + 8; omega) (by show _ = _ + vR_ T d (T 210 0 c + (m - T 210 0 c)) 6; omega) ((g 0).trans w2)) (fun j => rfl)
  have c_2 : ∀ (nn : Nat) (i : Int) (T1 : Zt), ((108 - i).toNat) ≤ nn → (fr_ [(276, [])] T T1) → (∀ j, 0 ≤ j → j < i → T1 276 0 j = 0) → (0 ≤ i ∧ i ≤ 108) → J_ zX11_tellAll T (po_X11_tellAll_e T c d) 0 0 2 [some (vR 111 0), some (vI c), some (vI d), some (vI i)] [] T1 := by
    intro nn
    induction nn using Nat.strongRecOn with
    | _ nn ih_2 =>
      intro i T1 hm_2 hf_2 z1 i1
      replace hm_2 := fun (_ : Unit) => hm_2
      refine j_blx (F := fX11) tb_X11 (nn_ _) bk_X11_tellAll_e_2 bs_X11_tellAll_e_2 hz (fun K hK => ?_)
      refine And.intro (fun c69 => ?_) (fun c69 => ?_)
      · refine hK 21 _ [] T1 ?_
        refine j_blx (F := fX11) tb_X11 (nn_ _) bk_X11_tellAll_e_21 bs_X11_tellAll_e_21 hz (fun K hK => ?_)
        refine ix_i (by omega) ?_
        intro b70 b70b
        have e71 : T1 210 0 c = T 210 0 c := hf_2 210 0 c rfl
        rw [e71] at b70 b70b ⊢
        refine hK 28 [some (vR 111 0), some (vI c), some (vI d), some (vI (T 210 0 c))] [] T1 ?_
        refine c_28 _ (T 210 0 c) T1 (Nat.le_refl _) ?_ ?_ ?_ ?_
        · exact fr_t (fr_0 _ _) (fr_s hf_2 rfl)
        · exact fun j a b => by have := z1 j a (by omega); omega
        · omega
        · rw [show (T 210 0 c - T 210 0 c).toNat = 0 by omega]
          exact fun x w a b c9 d9 => z1 _ (by omega) (by omega)
      · refine iy_i (by omega) (by omega) ?_
        refine x_nm (fun U72 hU72 => ?_)
        have e73 := up_f hU72
        refine rg_i (by omega) ?_
        refine hK 2 [some (vR 111 0), some (vI c), some (vI d), some (vI (i + 1))] [] U72 ?_
        refine ih_2 _ ?_ (i + 1) U72 (Nat.le_refl _) ?_ ?_ ?_
        · have hm_2 := hm_2 (); omega
        · exact fr_u (fr_t (fr_0 _ _) (fr_s hf_2 rfl)) hU72 rfl
        · intro j a b
          by_cases z : j = i
          · rw [z]; exact up_f hU72
          · rw [up_g hU72 (fun q => z q.2.2)]; exact z1 j a (by omega)
        · omega
  refine j_blx (F := fX11) tb_X11 (nn_ _) bk_X11_tellAll_e_0 bs_X11_tellAll_e_0 hz (fun K hK => ?_)
  refine hK 2 [some (vR 111 0), some (vI c), some (vI d), some (vI 0)] [] T ?_
  refine c_2 _ 0 T (Nat.le_refl _) ?_ ?_ ?_
  · exact fr_0 _ _
  · intro j a b; omega
  · omega
