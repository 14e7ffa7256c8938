theorem inX8 : ∀ w ∈ wsX80, w ∈ lw_g := lw_sub2 (L := tables_1_1) (fun _ h => lt_b1 h) _ [107, 109, 111, 113, 115, 117, 119, 121, 123, 125, 127, 129, 131, 133] (by decide +kernel) (by decide +kernel)
theorem inX9 : ∀ w ∈ wsX90, w ∈ lw_g := lw_sub2 (L := tables_1_2) (fun _ h => lt_b2 h) _ [47, 49, 51, 53, 55, 57, 59, 61, 63, 65, 67, 69, 71, 73, 75, 77] (by decide +kernel) (by decide +kernel)
theorem inX10 : ∀ w ∈ wsX100, w ∈ lw_g := lw_sub2 (L := tables_1_2) (fun _ h => lt_b2 h) _ [172, 174, 176, 178, 180, 182, 184] (by decide +kernel) (by decide +kernel)
theorem inX11 : ∀ w ∈ wsX110, w ∈ lw_g := lw_sub2 (L := (tables_1_7 ++ tables_1_8)) (fun _ h => (List.mem_append.mp h).elim lt_b7 lt_b8) _ [101, 103, 105, 107, 109, 111, 113, 115, 117, 119, 121, 123, 125, 127, 129, 131, 133, 135, 137, 139, 141, 143, 145, 147, 149, 151, 153, 155, 157, 159, 161, 163, 165, 167, 169, 171, 173, 175, 177, 179, 181, 183, 185, 187, 189, 191, 193, 195, 197, 199, 201, 203, 205, 207, 209, 211, 213, 215, 217, 219, 221, 223, 225, 227, 229, 231, 233, 235, 237, 239, 241, 243, 245, 247, 249, 251, 253, 255, 257, 259, 261, 263, 265, 267, 269, 271, 273, 275, 277, 279, 281, 283, 285, 287, 289, 291, 293, 295, 297, 299, 301, 303, 305, 307, 309, 311, 313, 315, 317, 319, 321, 323, 325, 327] (by decide +kernel) (by decide +kernel)
theorem vi_0 : vwCl[0]? = some (RX0, TX0, 9) := rfl
theorem vi_2 : vwCl[2]? = some (RX2, TX2, 11) := rfl
theorem vi_3 : vwCl[3]? = some (RX3, TX3, 18) := rfl
theorem gi_c {c0 : Cond} (h : c0 ∈ lw_g) : GoodIn lw_g (c0 :: lw_g) := fun w hw => (List.mem_cons.mp hw).elim (fun e => e ▸ ⟨h, lw_good _ h⟩) (fun h => ⟨h, lw_good _ h⟩)
theorem gi_V {own : String} {i : Nat} {C : String} {y : MethodName} {c0 : Cond} (h1 : Cond.methodLink own i y ∈ lw_g) (h2 : Cond.instanceMethod y ∈ lw_g) (h3 : Cond.selects C y y ∈ lw_g) (h4 : Cond.initialized C ∈ lw_g) (hc : c0 ∈ lw_g) : GoodIn lw_g (wsV own i C y (c0 :: lw_g)) := by
  intro w hw
  unfold wsV at hw
  rcases List.mem_append.mp hw with h | h
  · have h9 : w ∈ lw_g := by
      simp only [List.mem_cons, List.not_mem_nil, or_false] at h
      rcases h with rfl | rfl | rfl | rfl <;> assumption
    exact ⟨h9, lw_good _ h9⟩
  · exact gi_c hc w h
theorem gi_S {own : String} {i : Nat} {y : MethodName} {c0 : Cond} (h1 : Cond.methodLink own i y ∈ lw_g) (h2 : Cond.static y ∈ lw_g) (h4 : Cond.initialized y.cls ∈ lw_g) (hc : c0 ∈ lw_g) : GoodIn lw_g (va_wsS own i y (c0 :: lw_g)) := by
  intro w hw
  unfold va_wsS at hw
  rcases List.mem_append.mp hw with h | h
  · have h9 : w ∈ lw_g := by
      simp only [List.mem_cons, List.not_mem_nil, or_false] at h
      rcases h with rfl | rfl | rfl <;> assumption
    exact ⟨h9, lw_good _ h9⟩
  · exact gi_c hc w h
