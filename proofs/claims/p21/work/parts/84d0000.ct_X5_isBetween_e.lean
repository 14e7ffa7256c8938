-- the tokens of a text
abbrev lt9_ (c : Int) : Prop := 97 ≤ c ∧ c ≤ 122
abbrev dg9_ (c : Int) : Prop := 48 ≤ c ∧ c ≤ 57
def BP9_ (b : Int → Int) (a s : Int) : Prop := ∀ i, a ≤ i → i < s → b i = 10 ∨ b i = 32
def RP9_ (b : Int → Int) (lo hi s e : Int) : Prop := ∀ i, s ≤ i → i < e → lo ≤ b i ∧ b i ≤ hi
/-- the token behind a begins at s -/
def SK9_ (b : Int → Int) (n a s : Int) : Prop := a ≤ s ∧ s ≤ n ∧ BP9_ b a s ∧ (s < n → ¬ (b s = 10 ∨ b s = 32))
/-- from s the run of such signs ends at e -/
def RN9_ (b : Int → Int) (n lo hi s e : Int) : Prop := s ≤ e ∧ e ≤ n ∧ RP9_ b lo hi s e ∧ (e < n → ¬ (lo ≤ b e ∧ b e ≤ hi))
/-- the token behind a: from s to e, of kind k -/
def TK9_ (b : Int → Int) (n a s e k : Int) : Prop := SK9_ b n a s ∧ ((¬ s < n ∧ e = s ∧ k = 0) ∨ (s < n ∧ lt9_ (b s) ∧ RN9_ b n 97 122 s e ∧ ((e - s ≤ 12 ∧ k = 1) ∨ (12 < e - s ∧ k = 5))) ∨ (s < n ∧ dg9_ (b s) ∧ RN9_ b n 48 57 s e ∧ ((e - s ≤ 3 ∧ k = 2) ∨ (3 < e - s ∧ k = 5))) ∨ (s < n ∧ ¬ lt9_ (b s) ∧ ¬ dg9_ (b s) ∧ e = s + 1 ∧ ((b s = 59 ∧ k = 3) ∨ (b s = 44 ∧ k = 4) ∨ (b s ≠ 59 ∧ b s ≠ 44 ∧ k = 5))))
theorem bp9_z {b : Int → Int} {a : Int} : BP9_ b a a := fun i h1 h2 => by omega
theorem bp9_s {b : Int → Int} {a s : Int} (h : BP9_ b a s) (g : b s = 10 ∨ b s = 32) : BP9_ b a (s + 1) := fun i h1 h2 => by
  by_cases e : i = s
  · rw [e]
    exact g
  · exact h i h1 (by omega)
theorem rp9_z {b : Int → Int} {lo hi s : Int} : RP9_ b lo hi s s := fun i h1 h2 => by omega
theorem rp9_s {b : Int → Int} {lo hi s e : Int} (h : RP9_ b lo hi s e) (g : lo ≤ b e ∧ b e ≤ hi) : RP9_ b lo hi s (e + 1) := fun i h1 h2 => by
  by_cases z : i = e
  · rw [z]
    exact g
  · exact h i h1 (by omega)
theorem sk9_u {b : Int → Int} {n a s s' : Int} (h : SK9_ b n a s) (g : SK9_ b n a s') : s = s' := by
  obtain ⟨h1, h2, h3, h4⟩ := h
  obtain ⟨g1, g2, g3, g4⟩ := g
  rcases Int.lt_trichotomy s s' with c | c | c
  · exact absurd (g3 s h1 c) (h4 (by omega))
  · exact c
  · exact absurd (h3 s' g1 c) (g4 (by omega))
theorem rn9_u {b : Int → Int} {n lo hi s e e' : Int} (h : RN9_ b n lo hi s e) (g : RN9_ b n lo hi s e') : e = e' := by
  obtain ⟨h1, h2, h3, h4⟩ := h
  obtain ⟨g1, g2, g3, g4⟩ := g
  rcases Int.lt_trichotomy e e' with c | c | c
  · exact absurd (g3 e h1 c) (h4 (by omega))
  · exact c
  · exact absurd (h3 e' g1 c) (g4 (by omega))
/-- there is but one next token -/
theorem tk9_u {b : Int → Int} {n a s e k s' e' k' : Int} (h : TK9_ b n a s e k) (g : TK9_ b n a s' e' k') : s = s' ∧ e = e' ∧ k = k' := by
  obtain ⟨h1, h2⟩ := h
  obtain ⟨g1, g2⟩ := g
  have es := sk9_u h1 g1
  subst es
  refine ⟨rfl, ?_⟩
  rcases h2 with h2 | ⟨h2, h3, h4, h5⟩ | ⟨h2, h3, h4, h5⟩ | h2 <;> rcases g2 with g2 | ⟨g2, g3, g4, g5⟩ | ⟨g2, g3, g4, g5⟩ | g2
  all_goals first
    | omega
    | (have ee := rn9_u h4 g4; omega)
theorem tk9_0 {b : Int → Int} {n a s s' e k : Int} (h : SK9_ b n a s) (e1 : s' = s) (h1 : ¬ s < n) (h2 : e = s) (h3 : k = 0) : TK9_ b n a s' e k := by
  subst e1
  exact ⟨h, Or.inl ⟨h1, h2, h3⟩⟩
theorem tk9_1 {b : Int → Int} {n a s s' e k : Int} (h : SK9_ b n a s) (e1 : s' = s) (h1 : s < n) (h2 : lt9_ (b s)) (h3 : RN9_ b n 97 122 s e) (h4 : (e - s ≤ 12 ∧ k = 1) ∨ (12 < e - s ∧ k = 5)) : TK9_ b n a s' e k := by
  subst e1
  exact ⟨h, Or.inr (Or.inl ⟨h1, h2, h3, h4⟩)⟩
theorem tk9_2 {b : Int → Int} {n a s s' e k : Int} (h : SK9_ b n a s) (e1 : s' = s) (h1 : s < n) (h2 : dg9_ (b s)) (h3 : RN9_ b n 48 57 s e) (h4 : (e - s ≤ 3 ∧ k = 2) ∨ (3 < e - s ∧ k = 5)) : TK9_ b n a s' e k := by
  subst e1
  exact ⟨h, Or.inr (Or.inr (Or.inl ⟨h1, h2, h3, h4⟩))⟩
theorem tk9_3 {b : Int → Int} {n a s s' e k : Int} (h : SK9_ b n a s) (e1 : s' = s) (h1 : s < n) (h2 : ¬ lt9_ (b s)) (h3 : ¬ dg9_ (b s)) (h4 : e = s + 1) (h5 : (b s = 59 ∧ k = 3) ∨ (b s = 44 ∧ k = 4) ∨ (b s ≠ 59 ∧ b s ≠ 44 ∧ k = 5)) : TK9_ b n a s' e k := by
  subst e1
  exact ⟨h, Or.inr (Or.inr (Or.inr ⟨h1, h2, h3, h4, h5⟩))⟩
abbrev po_X5_isBetween_e (T : Zt) (a l h : Int) : Zt → Option Zv → Prop := fun T' r => T = T' ∧ ∃ x : Int, r = some (vI x) ∧ ((x = 1 ∧ l ≤ T 500 0 a ∧ T 500 0 a ≤ h) ∨ (x = 0 ∧ ¬ (l ≤ T 500 0 a ∧ T 500 0 a ≤ h)))
set_option maxHeartbeats 4000000 in
theorem ct_X5_isBetween_e {T : Zt} {a l h : Int} (h1 : 0 ≤ a ∧ a < 400) : Ct_ yX5_isBetween zX5_isBetween T [vR 105 0, vI a, vI l, vI h] (po_X5_isBetween_e T a l h) := by
  refine ct_of pn_5 rfl rfl (Nat.le_of_ble_eq_true rfl) (fun hT hav => ?_)
  have hr_a : -2147483648 ≤ a ∧ a ≤ 2147483647 := hav (vI a) (List.mem_cons_of_mem _ List.mem_cons_self)
  have hr_l : -2147483648 ≤ l ∧ l ≤ 2147483647 := hav (vI l) (List.mem_cons_of_mem _ (List.mem_cons_of_mem _ List.mem_cons_self))
  have hr_h : -2147483648 ≤ h ∧ h ≤ 2147483647 := hav (vI h) (List.mem_cons_of_mem _ (List.mem_cons_of_mem _ (List.mem_cons_of_mem _ List.mem_cons_self)))
  have hz : zX5_isBetween.2.2.2.1 = some .boolean → ∀ (T' : Zt) (x : Int), po_X5_isBetween_e T a l h T' (some (vI x)) → 0 ≤ x ∧ x ≤ 1 := fun _ T' x h => by obtain ⟨-, y, e, hy⟩ := h; cases e; omega
  show J_ zX5_isBetween T (po_X5_isBetween_e T a l h) 0 0 0 [some (vR 105 0), some (vI a), some (vI l), some (vI h)] [] T
  refine j_blx (F := fX5) tb_X5 (nn_ _) bk_X5_isBetween_0 bs_X5_isBetween_0 hz (fun K hK => ?_)
  refine ix_i (by omega) ?_
  intro b1 b1b
  refine And.intro (fun c2 => ?_) (fun c2 => ?_)
  · refine hK 24 _ [] T ?_
    refine j_blx (F := fX5) tb_X5 (nn_ _) bk_X5_isBetween_24 bs_X5_isBetween_24 hz (fun K hK => ?_)
    refine (show po_X5_isBetween_e T a l h T (some (vI 0)) from ?_)
    exact ⟨rfl, _, rfl, Or.inr ⟨rfl, by omega⟩⟩
  · refine ix_i (by omega) ?_
    intro b3 b3b
    refine And.intro (fun c4 => ?_) (fun c4 => ?_)
    · refine hK 24 _ [] T ?_
      refine j_blx (F := fX5) tb_X5 (nn_ _) bk_X5_isBetween_24 bs_X5_isBetween_24 hz (fun K hK => ?_)
      refine (show po_X5_isBetween_e T a l h T (some (vI 0)) from ?_)
      exact ⟨rfl, _, rfl, Or.inr ⟨rfl, by omega⟩⟩
    · refine hK 25 _ [vI 1] T ?_
      refine j_blx (F := fX5) tb_X5 (nn_ _) bk_X5_isBetween_25 bs_X5_isBetween_25 hz (fun K hK => ?_)
      refine (show po_X5_isBetween_e T a l h T (some (vI 1)) from ?_)
      exact ⟨rfl, _, rfl, Or.inl ⟨rfl, by omega⟩⟩
