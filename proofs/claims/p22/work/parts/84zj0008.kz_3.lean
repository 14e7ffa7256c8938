/-- the same, of the things with index 0 -/
def kz_ (F : List (Nat × List Int)) (T T' : Zt) : Prop := ∀ k j, fw_ F k j = true → T' k 0 j = T k 0 j
theorem kz_s {F G : List (Nat × List Int)} {T T' : Zt} (h : kz_ G T T') (s : fs_ F G = true) : kz_ F T T' := fun k j w => h k j (fs_sub s w)
theorem kz_o {F : List (Nat × List Int)} {T T' : Zt} (h : ks_ F T T') : kz_ F T T' := fun k j w => h k 0 j w
theorem fw_3 {k : Nat} {j : Int} (n : k ≠ 302) (h : fw_ [(304, []), (305, [])] k j = false) : fw_ [(304, []), (305, []), (302, [])] k j = false := by
  simp [fw_] at h ⊢
  omega
theorem kz_3 {F : List (Nat × List Int)} {T T' : Zt} (f : fr_ [(304, []), (305, []), (302, [])] T T') (e : ∀ j, T' 302 0 j = T 302 0 j) (d : dj_ [(304, []), (305, [])] F = true) : kz_ F T T' := fun k j w => by
  by_cases z : k = 302
  · rw [z]; exact e j
  · refine f k 0 j (fw_3 z ?_)
    cases y : fw_ [(304, []), (305, [])] k j
    · rfl
    · rw [dj_s d y] at w
      cases w
