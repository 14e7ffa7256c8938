def FRF_ : List (Nat × List Int) := [(235, []), (236, []), (237, []), (239, []), (240, []), (241, []), (242, []), (243, []), (244, []), (245, []), (246, []), (248, []), (249, []), (250, []), (251, []), (252, []), (253, []), (254, []), (256, [])]
def FHS_ : List (Nat × List Int) := [(102, [0, 6, 10]), (103, []), (448, []), (449, []), (466, []), (467, []), (468, []), (469, []), (470, []), (471, []), (472, []), (473, []), (401, []), (190, [])]
theorem kqm_s {T T' : Zt} {m : Int} (k : ks_ FRF_ T T') : KRM_ T T' m := by
  refine ⟨rp_x (fun K j c => ?_), rw_k (fun K x c => ?_) (fun x => k 252 0 x rfl) (k 253 0 m rfl) (k 254 0 m rfl), k 254 0 m rfl, k 256 0 m rfl⟩
  · rcases c with rfl | rfl | rfl | rfl | rfl | rfl | rfl | rfl | rfl | rfl | rfl <;> exact k _ 0 j rfl
  · rcases c with rfl | rfl | rfl | rfl <;> exact k _ 0 x rfl
