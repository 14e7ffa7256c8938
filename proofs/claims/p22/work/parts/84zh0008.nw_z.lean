theorem qs_z {C : Int → Prop} {V : Int → Nat} {t : Int} (h : ∀ g, V g = 0) : qs_ C V t = 0 := by
  unfold qs_
  rw [h 0, h 1, h 2, h 3, q1_z, q1_z, q1_z, q1_z]
theorem nw_z {d : Dr_} {c u : Int} (hu : d.G ≤ u) : ∀ (l : List Int) (f : Int → Int), c ∈ l → nw_ d c u l f = 0
  | [], _, h => absurd h List.not_mem_nil
  | x :: l, f, h => by
    show qs_ (ok_ d c u f x) (fun g => nw_ d c u l (fu_ f x g)) (-1) = 0
    by_cases z : x = c
    · exact qs_n (fun g _ _ _ q => by have := q.1; have := q.2.1 z; omega)
    · have m : c ∈ l := (List.mem_cons.mp h).resolve_left (fun q => z q.symm)
      exact qs_z (fun g => nw_z hu l _ m)
