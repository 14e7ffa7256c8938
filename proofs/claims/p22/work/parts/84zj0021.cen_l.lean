theorem cen_l {T : Zt} {p : Int} : ∀ n : Nat, cen_ T p n = ((lpk_ (fun k => T 301 0 k) (gf_ T) p n).length : Int)
  | 0 => rfl
  | n + 1 => by
    show cen_ T p n + (if T 301 0 (n : Int) = p ∧ T 302 0 (n : Int) = -1 then (1 : Int) else 0) = ((lpk_ (fun k => T 301 0 k) (gf_ T) p n ++ (if T 301 0 (n : Int) = p ∧ gf_ T n = -1 then [((n : Nat) : Int)] else [])).length : Int)
    have i := cen_l (T := T) (p := p) n
    rw [List.length_append]
    by_cases z : T 301 0 (n : Int) = p ∧ T 302 0 (n : Int) = -1
    · have z2 : T 301 0 (n : Int) = p ∧ gf_ T n = -1 := z
      rw [if_pos z, if_pos z2, List.length_singleton]; omega
    · have z2 : ¬ (T 301 0 (n : Int) = p ∧ gf_ T n = -1) := z
      rw [if_neg z, if_neg z2, List.length_nil]; omega
