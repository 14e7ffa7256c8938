theorem plr_k {T T' : Zt} (h : PLR_ T) (a : ks_ FHS_ T T') (b : ks_ FRF_ T T') (c1 : T' 106 0 4 = T 106 0 4) (c2 : T' 111 0 29 = T 111 0 29) : PLR_ T' :=
  plr_s (m := -1) h c1 c2 (fun z => absurd z (by decide)) (fun _ _ _ _ => ⟨khm_s a, kqm_s b⟩) (fun j _ _ => ⟨b 236 0 j rfl, b 237 0 j rfl⟩)
