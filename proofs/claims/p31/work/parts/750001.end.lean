theorem ct_X9_search_q (n : Nat) : ∀ {T : Zt} {k : Int} (hq9 : Q9_ T) (hka : KA_ T) (hk : 0 ≤ k ∧ 8 - (n : Int) ≤ k), Ct_ yX9_search (zX9_sq n) T [vR 109 0, vI k] (po_X9_search_1 T k) := by
  induction n with
  | zero =>
    intro T k hq9 hka hk
    exact ct_X9_search_0 (T := T) (k := k) hq9 hka (by omega)
  | succ n ih =>
    intro T k hq9 hka hk
    exact ct_X9_search_s (n := n) (T := T) (k := k) (fun {T} {k} hq9 hka hk => ih (T := T) (k := k) hq9 hka hk) hq9 hka (by omega)
def zX9_search_8 : Zm := (RX9, cX9_search, 9, (some .boolean), { frames := 9, cells := 0, slots := 0, locals := 252 })
abbrev po_X9_search_8 (T : Zt) (k : Int) : Zt → Option Zv → Prop := fun T' r => ∃ x : Int, r = some (vI x) ∧ fr_ [(587, []), (584, [])] T T' ∧ (0 ≤ x ∧ x ≤ 1)
set_option maxHeartbeats 4000000 in
theorem ct_X9_search_8 {T : Zt} {k : Int} (hq9 : Q9_ T) (hka : KA_ T) (hk : 0 ≤ k ∧ 0 ≤ k) : Ct_ yX9_search zX9_search_8 T [vR 109 0, vI k] (po_X9_search_8 T k) := ct_X9_search_q 8 (T := T) (k := k) hq9 hka (by omega)
