abbrev po_X11_nothingAgainst_f (T : Zt) (m : Int) : Zt → Option Zv → Prop := fun T' r => T = T' ∧ ∃ x : Int, r = some (vI x) ∧ ((x = 1 ∧ ¬ BKR_ T (fun m => T 234 0 m) m (T 234 0 m)) ∨ (x = 0 ∧ BKR_ T (fun m => T 234 0 m) m (T 234 0 m)))
set_option maxHeartbeats 4000000 in
theorem ct_X11_nothingAgainst_f {T : Zt} {m : Int} (h1 : 0 ≤ m ∧ m < 400) : Ct_ yX11_nothingAgainst zX11_nothingAgainst T [vR 111 0, vI m] (po_X11_nothingAgainst_f T m) := sorry
abbrev po_X11_postpone_f (T : Zt) (m d : Int) : Zt → Option Zv → Prop := fun T' r => ∃ x : Int, r = some (vI x) ∧ fr_ [(234, []), (271, []), (272, []), (111, [73, 75]), (274, [])] T T' ∧ ((x = -2 ∧ ¬ (0 ≤ m ∧ m < T 111 0 29) ∧ T = T') ∨ ((0 ≤ m ∧ m < T 111 0 29) ∧ ((x = -3 ∧ ¬ (T 111 0 3 < d ∧ d ≤ 999 ∧ 0 ≤ d) ∧ T = T') ∨ ((T 111 0 3 < d ∧ d ≤ 999 ∧ 0 ≤ d) ∧ ((x = -4 ∧ ¬ (T 235 0 m = 0 ∧ T 234 0 m ≠ d) ∧ T = T') ∨ ((T 235 0 m = 0 ∧ T 234 0 m ≠ d) ∧ PTQ_ T T' m d x))))))
set_option maxHeartbeats 4000000 in
theorem ct_X11_postpone_f {T : Zt} {m d : Int} : Ct_ yX11_postpone zX11_postpone T [vR 111 0, vI m, vI d] (po_X11_postpone_f T m d) := sorry
