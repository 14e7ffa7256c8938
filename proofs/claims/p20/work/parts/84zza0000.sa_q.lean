-- postponements, plans, competitions, referees and title: the plays stay alike
/-- each match is of clubs that are there -/
def CLM_ (T : Zt) : Prop := ∀ m, 0 ≤ m → m < T 106 0 4 → T 102 m 3 < T 108 0 2 ∧ T 102 m 4 < T 108 0 2
theorem sa_q {T T1 : Zt} {N : Int} {f f' : Int → Int} {a b x : Int} (hT : ok_T T) (hI : IC_ N T) (hP : PLR_ T) (hX : TXR_ T) (hM : MAR_ T) (hH : THR_ T) (hC : CLM_ T) (e : ∀ (k : Nat) (j : Int), k = 205 ∨ k = 213 ∨ k = 230 ∨ k = 232 ∨ k = 233 ∨ k = 235 → T1 k 0 j = T k 0 j) (a0 : 0 ≤ a) (a1 : a < T 106 0 4) (b0 : 0 ≤ b) (b1 : b < T 106 0 4) (hf : f' b = f b) : SAR_ T1 f' a b x ↔ SAH_ T f a b x := by
  have ma := hM.2 a a0 a1
  have mb := hM.2 b b0 b1
  have ca := (hI.1.2.1 a a0 a1).2
  have cb := (hI.1.2.1 b b0 b1).2
  have na : 0 ≤ T 102 a 3 := (bd_f hT 102 3 tl_2_3 a).1
  have nb : 0 ≤ T 102 b 3 := (bd_f hT 102 3 tl_2_3 b).1
  have ta := (hH.1 _ na (hC a a0 a1).1).1
  have tb := (hH.1 _ nb (hC b b0 b1).1).1
  unfold SAR_ SAH_
  refine sa_e ?_ ?_ ⟨?_, ?_⟩ ?_ ?_ hf
  · unfold sqR_ sqH_
    rw [e 213 _ (by decide), e 213 _ (by decide), e 232 _ (by decide), e 232 _ (by decide), ← ma.2.2.1, ← mb.2.2.1, ta, tb]
  · unfold hqR_ hqH_
    rw [e 232 a (by decide), e 232 b (by decide), e 233 a (by decide), e 233 b (by decide), ← ma.2.2.1, ← mb.2.2.1, ← ma.2.2.2, ← mb.2.2.2]
    constructor
    · intro u; omega
    · intro u; omega
  · unfold rsR_ rsH_
    rw [e 205 _ (by decide), e 230 _ (by decide), ← ma.1]
    exact ((hX.2.2.2.2 _ ca.1 ca.2).1 8 (by decide) (by decide)).symm
  · unfold rsR_ rsH_
    rw [e 205 _ (by decide), e 230 _ (by decide), ← mb.1]
    exact ((hX.2.2.2.2 _ cb.1 cb.2).1 8 (by decide) (by decide)).symm
  · unfold abR_ abH_
    rw [e 235 _ (by decide)]
    exact (pm_3 (hP.1 a a0 a1).2).symm
  · unfold abR_ abH_
    rw [e 235 _ (by decide)]
    exact (pm_3 (hP.1 b b0 b1).2).symm
