theorem sbn_e {red cards : Int} {kd yv kd' yv' : Int → Int} {m : Int} (h : kd' m = kd m) (g : kd m = 2 → yv' m = yv m) : sbn_ red cards kd' yv' m = sbn_ red cards kd yv m := by
  funext x
  by_cases z : kd m = 1
  · rw [sbn_1 z, sbn_1 (h.trans z)]
  · by_cases y : kd m = 2
    · rw [sbn_2 y, sbn_2 (h.trans y), g y]
    · rw [sbn_0 z y, sbn_0 (by rw [h]; exact z) (by rw [h]; exact y)]
/-- the bans are the same -/
theorem bn_q {T : Zt} {N q p : Int} (hT : ok_T T) (hI : IC_ N T) (hP : PLR_ T) (hX : TXR_ T) (hM : MAR_ T) (hE : ENR_ T) (hD : DAR_ T) (hp : 0 ≤ p ∧ p < T 106 0 4) : bnH_ T q p = bnR_ T q p := by
  have hc : 0 ≤ T 102 p 0 ∧ T 102 p 0 < T 106 0 2 := (hI.1.2.1 p hp.1 hp.2).2
  have ec := (hM.2 p hp.1 hp.2).1
  have en := hE.1 _ hc.1 hc.2
  have kc := hI.1.2.2.1 _ hc.1 hc.2
  have rl := (hX.2.2.2.2 _ hc.1 hc.2).1
  have b7 : 0 ≤ T 100 (T 102 p 0) 7 := (bd_f hT 100 7 tl_0_7 _).1
  have ed := hD p hp.1 hp.2
  unfold bnH_ bnR_
  rw [← ec, ← rl 13 (by decide) (by decide), ← rl 14 (by decide) (by decide), ← en.2.2.1, ← en.2.2.2.1, ← ed]
  have hin : ∀ m, T 100 (T 102 p 0) 7 ≤ m → m < T 100 (T 102 p 0) 7 + T 100 (T 102 p 0) 8 → 0 ≤ m ∧ m < T 106 0 4 := fun m a b => by omega
  have hr : ∀ m, T 100 (T 102 p 0) 7 ≤ m → m < T 100 (T 102 p 0) 7 + T 100 (T 102 p 0) 8 → (rlH_ T q m ↔ rlR_ T q m) := fun m a b => by
    have i := hin m a b
    have mm := hM.2 m i.1 i.2
    have dd := hD m i.1 i.2
    have pd := pm_d (hP.1 m i.1 i.2).2
    have h3 : 0 ≤ T 102 m 3 := (bd_f hT 102 3 tl_2_3 m).1
    have h4 : 0 ≤ T 102 m 4 := (bd_f hT 102 4 tl_2_4 m).1
    unfold rlH_ rlR_
    rw [← dd, pd, ← mm.2.2.1, ← mm.2.2.2]
    constructor
    · rintro ⟨u, v⟩
      exact ⟨u, by omega, by omega⟩
    · rintro ⟨u, v, w⟩
      exact ⟨u, by omega⟩
  refine congrArg Prod.fst (bf_c (fun m a b => ?_) hr (fun m a b r => ?_) _)
  · exact hD m (hin m a b).1 (hin m a b).2
  · have i := hin m a b
    have g := hP.1 m i.1 i.2
    have k := kd_q (q := q) i.1 g.1 g.2 r.1
    exact sbn_e k.1 (fun y => k.2 (k.1.trans y))
