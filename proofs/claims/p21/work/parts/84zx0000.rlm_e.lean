-- the plays of both sides alike: what holds between the calls
def rlm_ (f : Int → Int) : Int → Int := fun w => if 0 ≤ w ∧ w < 16 then f w else 0
theorem rlm_e {f g : Int → Int} (h : ∀ w, 0 ≤ w → w < 16 → f w = g w) : rlm_ f = rlm_ g := by
  funext w
  unfold rlm_
  by_cases z : 0 ≤ w ∧ w < 16
  · rw [if_pos z, if_pos z]
    exact h w z.1 z.2
  · rw [if_neg z, if_neg z]
