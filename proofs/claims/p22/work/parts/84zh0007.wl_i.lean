theorem wl_i {T : Zt} : ∀ {l : List Int} {k i : Int}, WL_ T l k → 0 ≤ i → i < (l.length : Int) → T 432 0 (k + i) ∈ l
  | [], _, _, _, a, b => by rw [List.length_nil] at b; omega
  | x :: l, k, i, h, a, b => by
    by_cases z : i = 0
    · rw [z, show k + 0 = k by omega, h.1]; exact List.mem_cons_self
    · have q := wl_i (i := i - 1) h.2 (by omega) (by rw [List.length_cons] at b; omega)
      rw [show k + 1 + (i - 1) = k + i by omega] at q
      exact List.mem_cons_of_mem _ q
