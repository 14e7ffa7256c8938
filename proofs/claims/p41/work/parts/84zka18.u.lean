/-- the list of what stands against p; -1 where one of these is not told -/
def LAG_ (T T' : Zt) (p x : Int) : Prop := (x = -1 ∧ ∃ k, 0 ≤ k ∧ k < T 106 0 4 ∧ SAH_ T (fun m => T 102 m 5) p k (T 102 p 5) ∧ ¬ (T 102 k 6 = -1 ∧ T 102 k 10 = 0)) ∨ (0 ≤ x ∧ (∀ k, 0 ≤ k → k < T 106 0 4 → SAH_ T (fun m => T 102 m 5) p k (T 102 p 5) → T 102 k 6 = -1 ∧ T 102 k 10 = 0) ∧ LHD_ (fun _ => 0) (fun k => SAH_ T (fun m => T 102 m 5) p k (T 102 p 5)) (fun j => T' 533 0 j) 0 (T 106 0 4) 400 x)
abbrev po_X6_listAgainst_f (T : Zt) (p : Int) : Zt → Option Zv → Prop := fun T' r => ∃ x : Int, r = some (vI x) ∧ fr_ [(533, [])] T T' ∧ ((-1 ≤ x ∧ x ≤ 400) ∧ (∀ j : Int, 0 ≤ j → j < x → 0 ≤ T' 533 0 j ∧ T' 533 0 j < T 106 0 4) ∧ LAG_ T T' p x)
set_option maxHeartbeats 4000000 in
theorem ct_X6_listAgainst_f {T : Zt} {p : Int} (hka : KA_ T) (hkm : KM_ T) (hp : 0 ≤ p ∧ p < T 106 0 4) : Ct_ yX6_listAgainst zX6_listAgainst T [vR 106 0, vR 102 p] (po_X6_listAgainst_f T p) := sorry
abbrev po_X6_blockDays_f (T : Zt) (p : Int) : Zt → Option Zv → Prop := fun T' r => r = none ∧ fr_ [(535, [])] T T' ∧ (BR_ (fun e => T' 535 0 e) (BKH_ T (fun m => T 102 m 5) p))
set_option maxHeartbeats 4000000 in
theorem ct_X6_blockDays_f {T : Zt} {p : Int} (hka : KA_ T) (hkm : KM_ T) (hp : 0 ≤ p ∧ p < T 106 0 4) (hab : T 102 p 6 = -1) : Ct_ yX6_blockDays zX6_blockDays T [vR 106 0, vR 102 p] (po_X6_blockDays_f T p) := sorry
abbrev po_X6_goBehind_f (T : Zt) (p : Int) (d k : Int) : Zt → Option Zv → Prop := fun T' r => ∃ x : Int, r = some (vI x) ∧ fr_ [(535, []), (534, []), (102, [5])] T T' ∧ (GOB_ T T' p d k x)
set_option maxHeartbeats 4000000 in
theorem ct_X6_goBehind_f {T : Zt} {p : Int} {d k : Int} (hka : KA_ T) (hkm : KM_ T) (hp : 0 ≤ p ∧ p < T 106 0 4) (hab : T 102 p 6 = -1) (hd : 0 ≤ d ∧ d ≤ 999) (hk : 0 ≤ k ∧ k < 400) : Ct_ yX6_goBehind zX6_goBehind T [vR 106 0, vR 102 p, vI d, vI k] (po_X6_goBehind_f T p d k) := sorry
