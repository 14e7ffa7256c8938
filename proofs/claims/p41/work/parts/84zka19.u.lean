abbrev po_X6_putOff_f (T : Zt) (p : Int) (d : Int) : Zt → Option Zv → Prop := fun T' r => ∃ x : Int, r = some (vI x) ∧ fr_ [(535, []), (534, []), (102, [5]), (533, []), (531, []), (106, [12])] T T' ∧ (PTO_ T T' p d x)
set_option maxHeartbeats 4000000 in
theorem ct_X6_putOff_f {T : Zt} {p : Int} {d : Int} (hka : KA_ T) (hkm : KM_ T) (hp : 0 ≤ p ∧ p < T 106 0 4) (hab : T 102 p 6 = -1) (hd : 0 ≤ d ∧ d ≤ 999) : Ct_ yX6_putOff zX6_putOff T [vR 106 0, vR 102 p, vI d] (po_X6_putOff_f T p d) := sorry
abbrev po_X10_postpone_f (T : Zt) (m d : Int) : Zt → Option Zv → Prop := fun T' r => ∃ x : Int, r = some (vI x) ∧ fr_ [(535, []), (534, []), (102, [5]), (533, []), (531, []), (106, [12])] T T' ∧ ((x = -2 ∧ ¬ (0 ≤ m ∧ m < T 106 0 4) ∧ T = T') ∨ ((0 ≤ m ∧ m < T 106 0 4) ∧ ((x = -3 ∧ ¬ (T 108 0 13 < d ∧ d ≤ 999 ∧ 0 ≤ d) ∧ T = T') ∨ ((T 108 0 13 < d ∧ d ≤ 999 ∧ 0 ≤ d) ∧ ((x = -4 ∧ ¬ ((T 102 m 6 = -1 ∧ T 102 m 10 = 0) ∧ T 102 m 5 ≠ d) ∧ T = T') ∨ (((T 102 m 6 = -1 ∧ T 102 m 10 = 0) ∧ T 102 m 5 ≠ d) ∧ PTO_ T T' m d x))))))
set_option maxHeartbeats 4000000 in
theorem ct_X10_postpone_f {T : Zt} {m d : Int} (hka : KA_ T) (hkm : KM_ T) : Ct_ yX10_postpone zX10_postpone T [vR 110 0, vI m, vI d] (po_X10_postpone_f T m d) := sorry
abbrev po_X11_shareClub_f (T : Zt) (a b : Int) : Zt → Option Zv → Prop := fun T' r => T = T' ∧ ∃ x : Int, r = some (vI x) ∧ ((x = 1 ∧ (T 232 0 a = T 232 0 b ∨ T 232 0 a = T 233 0 b ∨ T 233 0 a = T 232 0 b ∨ T 233 0 a = T 233 0 b)) ∨ (x = 0 ∧ ¬ (T 232 0 a = T 232 0 b ∨ T 232 0 a = T 233 0 b ∨ T 233 0 a = T 232 0 b ∨ T 233 0 a = T 233 0 b)))
set_option maxHeartbeats 4000000 in
theorem ct_X11_shareClub_f {T : Zt} {a b : Int} (h1 : 0 ≤ a ∧ a < 400) (h2 : 0 ≤ b ∧ b < 400) : Ct_ yX11_shareClub zX11_shareClub T [vR 111 0, vI a, vI b] (po_X11_shareClub_f T a b) := sorry
abbrev po_X11_standAgainst_f (T : Zt) (a b : Int) : Zt → Option Zv → Prop := fun T' r => T = T' ∧ ∃ x : Int, r = some (vI x) ∧ ((x = 1 ∧ SAR_ T (fun m => T 234 0 m) a b (T 234 0 a)) ∨ (x = 0 ∧ ¬ SAR_ T (fun m => T 234 0 m) a b (T 234 0 a)))
set_option maxHeartbeats 4000000 in
theorem ct_X11_standAgainst_f {T : Zt} {a b : Int} (h1 : 0 ≤ a ∧ a < 400) (h2 : 0 ≤ b ∧ b < 400) : Ct_ yX11_standAgainst zX11_standAgainst T [vR 111 0, vI a, vI b] (po_X11_standAgainst_f T a b) := sorry
