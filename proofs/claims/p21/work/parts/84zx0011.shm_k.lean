theorem shm_k {T T' : Zt} {m : Int} (h : SHM_ T m) (a : KHM_ T T' m) (b : KRM_ T T' m) : SHM_ T' m :=
  shm_c h (fun t => a.1 449 t rfl) (fun t => a.1 448 t rfl) (fun t t0 t1 => by rw [← rp_39 (T := T') (m := m) t0 t1, b.1, rp_39 t0 t1]) (fun x x0 x1 => by rw [← rp_40 (T := T') (m := m) x0 x1, b.1, rp_40 x0 x1])
