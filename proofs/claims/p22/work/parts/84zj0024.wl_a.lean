theorem wl_a {T : Zt} {r : List Int} : ∀ {l : List Int} {k : Int}, WL_ T (l ++ r) k → WB_ T l k ∧ WL_ T r (k + (l.length : Int))
  | [], k, h => ⟨trivial, by rw [List.length_nil, show k + ((0 : Nat) : Int) = k by omega]; exact h⟩
  | x :: l, k, h => by
    have i := wl_a (r := r) h.2
    refine ⟨⟨h.1, i.1⟩, ?_⟩
    rw [List.length_cons, show k + ((l.length + 1 : Nat) : Int) = k + 1 + (l.length : Int) by omega]
    exact i.2
