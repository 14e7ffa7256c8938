theorem khm_s {T T' : Zt} {m : Int} (k : ks_ FHS_ T T') : KHM_ T T' m := by
  refine ⟨fun K j d => ?_, ⟨k 102 m 0 rfl, k 102 m 6 rfl, k 102 m 10 rfl⟩, ⟨k 103 m 0 rfl, k 103 m 14 rfl, k 103 m 15 rfl, k 103 m 17 rfl⟩, fun w => k 401 _ w rfl, fun _ j _ _ => k 190 _ j rfl⟩
  rcases dk_c d with rfl | rfl | rfl | rfl | rfl | rfl | rfl | rfl | rfl | rfl | ⟨rfl, _⟩ <;> exact k _ m j rfl
