theorem els_q {T : Zt} {q p : Int} (hP : PLR_ T) (hM : MAR_ T) (hD : DAR_ T) (hp : 0 ≤ p ∧ p < T 106 0 4) : elsH_ T q p ↔ elsR_ T q p := by
  have ed := hD p hp.1 hp.2
  constructor
  · rintro ⟨k, k0, k1, k2, k3, k4, k5⟩
    have g := hP.1 k k0 k1
    refine ⟨k, k0, by have := hM.1; omega, k2, by have := hD k k0 k1; omega, (pm_3 g.2).mp k4, ?_⟩
    rcases pl_sl (q := q) k0 g.1 with y | ⟨t, y⟩
    · exact absurd y.1 k5
    · omega
  · rintro ⟨k, k0, k1, k2, k3, k4, k5⟩
    have k1' : k < T 106 0 4 := by have := hM.1; omega
    have g := hP.1 k k0 k1'
    refine ⟨k, k0, k1', k2, by have := hD k k0 k1'; omega, (pm_3 g.2).mpr k4, ?_⟩
    rcases pl_sl (q := q) k0 g.1 with y | ⟨t, y⟩
    · exact absurd y.2 k5
    · omega
theorem cz_e {A : Type} {P Q : Prop} {x y : A} (h : P ↔ Q) : cz_ P x y = cz_ Q x y := by rw [propext h]
/-- the reason is the same -/
theorem wy_q {T : Zt} {N q p d : Int} (hT : ok_T T) (hI : IC_ N T) (hP : PLR_ T) (hX : TXR_ T) (hM : MAR_ T) (hE : ENR_ T) (hD : DAR_ T) (hp : 0 ≤ p ∧ p < T 106 0 4) : wyH_ T q p d = wyR_ T q p d := by
  have ed := hD p hp.1 hp.2
  have mm := hM.2 p hp.1 hp.2
  have g := hP.1 p hp.1 hp.2
  have sl : plc_ T p q ≠ -1 ↔ slc_ T p q ≠ -1 := by
    rcases pl_sl (q := q) hp.1 g.1 with y | ⟨t, y⟩
    · omega
    · omega
  unfold wyH_ wyR_
  rw [ed, mm.2.2.1, mm.2.2.2, bn_q hT hI hP hX hM hE hD hp, cz_e (els_q hP hM hD hp), cz_e sl]
/-- what the reason of the reference hangs on -/
theorem wyR_k {T T' : Zt} {q p d : Int} (e : ∀ (k : Nat) (j : Int), 200 ≤ k → k ≤ 256 → T' k 0 j = T k 0 j) (e16 : T' 111 0 16 = T 111 0 16) (e29 : T' 111 0 29 = T 111 0 29) : wyR_ T' q p d = wyR_ T q p d := by
  have c : ∀ q d, co9_c T' q d = co9_c T q d := fun q d => coc_k (fun k j h => e k j (by omega) (by omega)) e16
  have rp : ∀ m, rp9_ T' m = rp9_ T m := fun m => rp_x (fun K j h => e K j (by omega) (by omega))
  have s : ∀ m q, slc_ T' m q = slc_ T m q := fun m q => by
    unfold slc_
    rw [rp]
  have e34 : ∀ m, T' 234 0 m = T 234 0 m := fun m => e 234 m (by decide) (by decide)
  have e35 : ∀ m, T' 235 0 m = T 235 0 m := fun m => e 235 m (by decide) (by decide)
  have e32 : ∀ m, T' 232 0 m = T 232 0 m := fun m => e 232 m (by decide) (by decide)
  have e33 : ∀ m, T' 233 0 m = T 233 0 m := fun m => e 233 m (by decide) (by decide)
  have kd : kdR_ T' q = kdR_ T q := by
    funext m
    unfold kdR_
    rw [s, e35, e 243 _ (by decide) (by decide)]
  have yv : yvR_ T' q = yvR_ T q := by
    funext m
    unfold yvR_
    rw [s, e 242 _ (by decide) (by decide)]
  have rl : rlR_ T' q = rlR_ T q := by
    funext m
    unfold rlR_
    rw [c, e34, e35, e32, e33]
  have dy : (fun m => T' 234 0 m) = fun m => T 234 0 m := funext e34
  have bn : bnR_ T' q p = bnR_ T q p := by
    unfold bnR_
    rw [kd, yv, rl, dy, e34, e 230 p (by decide) (by decide), e 205 _ (by decide) (by decide), e 205 _ (by decide) (by decide), e 210 _ (by decide) (by decide), e 211 _ (by decide) (by decide)]
  have el : elsR_ T' q p ↔ elsR_ T q p := by
    unfold elsR_
    rw [e29, e34 p]
    constructor
    · rintro ⟨k, k0, k1, k2, k3, k4, k5⟩
      rw [e34] at k3
      rw [e35] at k4
      rw [s] at k5
      exact ⟨k, k0, k1, k2, k3, k4, k5⟩
    · rintro ⟨k, k0, k1, k2, k3, k4, k5⟩
      rw [← e34] at k3
      rw [← e35] at k4
      rw [← s] at k5
      exact ⟨k, k0, k1, k2, k3, k4, k5⟩
  unfold wyR_
  rw [c, e34, e32, e33, bn, s, cz_e el]
