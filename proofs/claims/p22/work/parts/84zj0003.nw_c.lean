theorem nw_c {d d2 : Dr_} {fx gp : Int} (h : DS9_ d d2) : ∀ (l : List Int) (f f2 : Int → Int), (∀ z ∈ l, (0 ≤ z ∧ z < d.n) ∧ d.E z ≠ -1) → (∀ k, 0 ≤ k → k < d.n → f2 k = f k) → nw_ d2 fx gp l f2 = nw_ d fx gp l f
  | [], _, _, _, _ => rfl
  | x :: l, f, f2, hl, hf => by
    have q := hl x List.mem_cons_self
    show qs_ (ok_ d2 fx gp f2 x) (fun g => nw_ d2 fx gp l (fu_ f2 x g)) (-1) = qs_ (ok_ d fx gp f x) (fun g => nw_ d fx gp l (fu_ f x g)) (-1)
    refine qs_e (fun g _ _ => ?_) (fun g _ _ _ => nw_c h l _ _ (fun z hz => hl z (List.mem_cons_of_mem _ hz)) (fun k a b => ?_))
    · unfold ok_
      rw [h.2.2.2.1, ms_c h hf q.1 q.2]
    · unfold fu_
      by_cases z : k = x
      · rw [if_pos z, if_pos z]
      · rw [if_neg z, if_neg z]; exact hf k a b
