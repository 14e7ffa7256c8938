-- the tokens of a text
abbrev lt9_ (c : Int) : Prop := 97 ≤ c ∧ c ≤ 122
abbrev dg9_ (c : Int) : Prop := 48 ≤ c ∧ c ≤ 57
def BP9_ (b : Int → Int) (a s : Int) : Prop := ∀ i, a ≤ i → i < s → b i = 10 ∨ b i = 32
def RP9_ (b : Int → Int) (lo hi s e : Int) : Prop := ∀ i, s ≤ i → i < e → lo ≤ b i ∧ b i ≤ hi
/-- the token behind a begins at s -/
def SK9_ (b : Int → Int) (n a s : Int) : Prop := a ≤ s ∧ s ≤ n ∧ BP9_ b a s ∧ (s < n → ¬ (b s = 10 ∨ b s = 32))
/-- from s the run of such signs ends at e -/
def RN9_ (b : Int → Int) (n lo hi s e : Int) : Prop := s ≤ e ∧ e ≤ n ∧ RP9_ b lo hi s e ∧ (e < n → ¬ (lo ≤ b e ∧ b e ≤ hi))
/-- the token behind a: from s to e, of kind k -/
def TK9_ (b : Int → Int) (n a s e k : Int) : Prop := SK9_ b n a s ∧ ((¬ s < n ∧ e = s ∧ k = 0) ∨ (s < n ∧ lt9_ (b s) ∧ RN9_ b n 97 122 s e ∧ ((e - s ≤ 12 ∧ k = 1) ∨ (12 < e - s ∧ k = 5))) ∨ (s < n ∧ dg9_ (b s) ∧ RN9_ b n 48 57 s e ∧ ((e - s ≤ 3 ∧ k = 2) ∨ (3 < e - s ∧ k = 5))) ∨ (s < n ∧ ¬ lt9_ (b s) ∧ ¬ dg9_ (b s) ∧ e = s + 1 ∧ ((b s = 59 ∧ k = 3) ∨ (b s = 44 ∧ k = 4) ∨ (b s ≠ 59 ∧ b s ≠ 44 ∧ k = 5))))
theorem bp9_z {b : Int → Int} {a : Int} : BP9_ b a a := fun i h1 h2 => by omega
theorem bp9_s {b : Int → Int} {a s : Int} (h : BP9_ b a s) (g : b s = 10 ∨ b s = 32) : BP9_ b a (s + 1) := fun i h1 h2 => by
  by_cases e : i = s
  · rw [e]
    exact g
  · exact h i h1 (by omega)
theorem rp9_z {b : Int → Int} {lo hi s : Int} : RP9_ b lo hi s s := fun i h1 h2 => by omega
theorem rp9_s {b : Int → Int} {lo hi s e : Int} (h : RP9_ b lo hi s e) (g : lo ≤ b e ∧ b e ≤ hi) : RP9_ b lo hi s (e + 1) := fun i h1 h2 => by
  by_cases z : i = e
  · rw [z]
    exact g
  · exact h i h1 (by omega)
theorem sk9_u {b : Int → Int} {n a s s' : Int} (h : SK9_ b n a s) (g : SK9_ b n a s') : s = s' := by
  obtain ⟨h1, h2, h3, h4⟩ := h
  obtain ⟨g1, g2, g3, g4⟩ := g
  rcases Int.lt_trichotomy s s' with c | c | c
  · exact absurd (g3 s h1 c) (h4 (by omega))
  · exact c
  · exact absurd (h3 s' g1 c) (g4 (by omega))
theorem rn9_u {b : Int → Int} {n lo hi s e e' : Int} (h : RN9_ b n lo hi s e) (g : RN9_ b n lo hi s e') : e = e' := by
  obtain ⟨h1, h2, h3, h4⟩ := h
  obtain ⟨g1, g2, g3, g4⟩ := g
  rcases Int.lt_trichotomy e e' with c | c | c
  · exact absurd (g3 e h1 c) (h4 (by omega))
  · exact c
  · exact absurd (h3 e' g1 c) (g4 (by omega))
/-- there is but one next token -/
theorem tk9_u {b : Int → Int} {n a s e k s' e' k' : Int} (h : TK9_ b n a s e k) (g : TK9_ b n a s' e' k') : s = s' ∧ e = e' ∧ k = k' := by
  obtain ⟨h1, h2⟩ := h
  obtain ⟨g1, g2⟩ := g
  have es := sk9_u h1 g1
  subst es
  refine ⟨rfl, ?_⟩
  rcases h2 with h2 | ⟨h2, h3, h4, h5⟩ | ⟨h2, h3, h4, h5⟩ | h2 <;> rcases g2 with g2 | ⟨g2, g3, g4, g5⟩ | ⟨g2, g3, g4, g5⟩ | g2
  all_goals first
    | omega
    | (have ee := rn9_u h4 g4; omega)
theorem tk9_0 {b : Int → Int} {n a s s' e k : Int} (h : SK9_ b n a s) (e1 : s' = s) (h1 : ¬ s < n) (h2 : e = s) (h3 : k = 0) : TK9_ b n a s' e k := by
  subst e1
  exact ⟨h, Or.inl ⟨h1, h2, h3⟩⟩
theorem tk9_1 {b : Int → Int} {n a s s' e k : Int} (h : SK9_ b n a s) (e1 : s' = s) (h1 : s < n) (h2 : lt9_ (b s)) (h3 : RN9_ b n 97 122 s e) (h4 : (e - s ≤ 12 ∧ k = 1) ∨ (12 < e - s ∧ k = 5)) : TK9_ b n a s' e k := by
  subst e1
  exact ⟨h, Or.inr (Or.inl ⟨h1, h2, h3, h4⟩)⟩
theorem tk9_2 {b : Int → Int} {n a s s' e k : Int} (h : SK9_ b n a s) (e1 : s' = s) (h1 : s < n) (h2 : dg9_ (b s)) (h3 : RN9_ b n 48 57 s e) (h4 : (e - s ≤ 3 ∧ k = 2) ∨ (3 < e - s ∧ k = 5)) : TK9_ b n a s' e k := by
  subst e1
  exact ⟨h, Or.inr (Or.inr (Or.inl ⟨h1, h2, h3, h4⟩))⟩
theorem tk9_3 {b : Int → Int} {n a s s' e k : Int} (h : SK9_ b n a s) (e1 : s' = s) (h1 : s < n) (h2 : ¬ lt9_ (b s)) (h3 : ¬ dg9_ (b s)) (h4 : e = s + 1) (h5 : (b s = 59 ∧ k = 3) ∨ (b s = 44 ∧ k = 4) ∨ (b s ≠ 59 ∧ b s ≠ 44 ∧ k = 5)) : TK9_ b n a s' e k := by
  subst e1
  exact ⟨h, Or.inr (Or.inr (Or.inr ⟨h1, h2, h3, h4, h5⟩))⟩
abbrev po_X5_isBetween_e (T : Zt) (a l h : Int) : Zt → Option Zv → Prop := fun T' r => T = T' ∧ ∃ x : Int, r = some (vI x) ∧ ((x = 1 ∧ l ≤ T 500 0 a ∧ T 500 0 a ≤ h) ∨ (x = 0 ∧ ¬ (l ≤ T 500 0 a ∧ T 500 0 a ≤ h)))
set_option maxHeartbeats 4000000 in
theorem ct_X5_isBetween_e {T : Zt} {a l h : Int} (h1 : 0 ≤ a ∧ a < 400) : Ct_ yX5_isBetween zX5_isBetween T [vR 105 0, vI a, vI l, vI h] (po_X5_isBetween_e T a l h) := by
  refine ct_of (by decide) rfl rfl (Nat.le_of_ble_eq_true rfl) (fun hT hav => ?_)
  have hr_a : -2147483648 ≤ a ∧ a ≤ 2147483647 := hav (vI a) (by simp)
  have hr_l : -2147483648 ≤ l ∧ l ≤ 2147483647 := hav (vI l) (by simp)
  have hr_h : -2147483648 ≤ h ∧ h ≤ 2147483647 := hav (vI h) (by simp)
  have hz : zX5_isBetween.2.2.2.1 = some .boolean → ∀ (T' : Zt) (x : Int), po_X5_isBetween_e T a l h T' (some (vI x)) → 0 ≤ x ∧ x ≤ 1 := fun _ T' x h => by obtain ⟨-, y, e, hy⟩ := h; cases e; omega
  show J_ zX5_isBetween T (po_X5_isBetween_e T a l h) 0 0 0 [some (vR 105 0), some (vI a), some (vI l), some (vI h)] [] T
  refine j_blx (F := fX5) tb_X5 (by decide) bk_X5_isBetween_0 bs_X5_isBetween_0 hz (fun K hK => ?_)
  refine ix_i (by omega) ?_
  intro b1 b1b
  refine And.intro (fun c2 => ?_) (fun c2 => ?_)
  · refine hK 24 [some (vR 105 0), some (vI a), some (vI l), some (vI h)] [] T ?_
    refine j_blx (F := fX5) tb_X5 (by decide) bk_X5_isBetween_24 bs_X5_isBetween_24 hz (fun K hK => ?_)
    refine (show po_X5_isBetween_e T a l h T (some (vI 0)) from ?_)
    exact ⟨rfl, _, rfl, by omega⟩
  · refine ix_i (by omega) ?_
    intro b3 b3b
    refine And.intro (fun c4 => ?_) (fun c4 => ?_)
    · refine hK 24 [some (vR 105 0), some (vI a), some (vI l), some (vI h)] [] T ?_
      refine j_blx (F := fX5) tb_X5 (by decide) bk_X5_isBetween_24 bs_X5_isBetween_24 hz (fun K hK => ?_)
      refine (show po_X5_isBetween_e T a l h T (some (vI 0)) from ?_)
      exact ⟨rfl, _, rfl, by omega⟩
    · refine hK 25 [some (vR 105 0), some (vI a), some (vI l), some (vI h)] [vI 1] T ?_
      refine j_blx (F := fX5) tb_X5 (by decide) bk_X5_isBetween_25 bs_X5_isBetween_25 hz (fun K hK => ?_)
      refine (show po_X5_isBetween_e T a l h T (some (vI 1)) from ?_)
      exact ⟨rfl, _, rfl, by omega⟩
abbrev po_X5_takeRun_e (T : Zt) (l h k m : Int) : Zt → Option Zv → Prop := fun T' r => r = none ∧ fr_ [(105, [7, 9])] T T' ∧ (RN9_ (fun j => T 500 0 j) (T 105 0 1) l h (T 105 0 9) (T' 105 0 9) ∧ ((T' 105 0 9 - T 105 0 8 ≤ m ∧ T' 105 0 7 = k) ∨ (m < T' 105 0 9 - T 105 0 8 ∧ T' 105 0 7 = 5)))
set_option maxHeartbeats 4000000 in
theorem ct_X5_takeRun_e {T : Zt} {l h k m : Int} (hk : 0 ≤ k ∧ k ≤ 5) (h9 : T 105 0 9 ≤ T 105 0 1) : Ct_ yX5_takeRun zX5_takeRun T [vR 105 0, vI l, vI h, vI k, vI m] (po_X5_takeRun_e T l h k m) := by
  refine ct_of (by decide) rfl rfl (Nat.le_of_ble_eq_true rfl) (fun hT hav => ?_)
  have hr_l : -2147483648 ≤ l ∧ l ≤ 2147483647 := hav (vI l) (by simp)
  have hr_h : -2147483648 ≤ h ∧ h ≤ 2147483647 := hav (vI h) (by simp)
  have hr_k : -2147483648 ≤ k ∧ k ≤ 2147483647 := hav (vI k) (by simp)
  have hr_m : -2147483648 ≤ m ∧ m ≤ 2147483647 := hav (vI m) (by simp)
  have hz : zX5_takeRun.2.2.2.1 = some .boolean → ∀ (T' : Zt) (x : Int), po_X5_takeRun_e T l h k m T' (some (vI x)) → 0 ≤ x ∧ x ≤ 1 := fun h => by cases h
  have hln : 0 ≤ T 105 0 1 ∧ T 105 0 1 ≤ 400 := bd_f hT 105 1 (by decide +kernel : (tf_ 105)[1]? = some (0, 0, 0, 400)) 0
  have hte : 0 ≤ T 105 0 9 ∧ T 105 0 9 ≤ 400 := bd_f hT 105 9 (by decide +kernel : (tf_ 105)[9]? = some (0, 0, 0, 400)) 0
  have hts : 0 ≤ T 105 0 8 ∧ T 105 0 8 ≤ 400 := bd_f hT 105 8 (by decide +kernel : (tf_ 105)[8]? = some (0, 0, 0, 400)) 0
  show J_ zX5_takeRun T (po_X5_takeRun_e T l h k m) 0 0 0 [some (vR 105 0), some (vI l), some (vI h), some (vI k), some (vI m)] [] T
  have c_0 : ∀ (nn : Nat) (T1 : Zt), ((400 - T1 105 0 9).toNat) ≤ nn → (fr_ [(105, [9])] T T1) → (T 105 0 9 ≤ T1 105 0 9 ∧ T1 105 0 9 ≤ T 105 0 1) → (RP9_ (fun j => T 500 0 j) l h (T 105 0 9) (T1 105 0 9)) → J_ zX5_takeRun T (po_X5_takeRun_e T l h k m) 0 0 0 [some (vR 105 0), some (vI l), some (vI h), some (vI k), some (vI m)] [] T1 := by
    intro nn
    induction nn using Nat.strongRecOn with
    | _ nn ih_0 =>
      intro T1 hm_0 hf_0 i1 i2
      refine j_blx (F := fX5) tb_X5 (by decide) bk_X5_takeRun_0 bs_X5_takeRun_0 hz (fun K hK => ?_)
      intro b1 b1b
      intro b2 b2b
      have e3 : T1 105 0 1 = T 105 0 1 := hf_0 105 0 1 rfl
      rw [e3] at b2 b2b ⊢
      refine And.intro (fun c4 => ?_) (fun c4 => ?_)
      · refine hK 37 [some (vR 105 0), some (vI l), some (vI h), some (vI k), some (vI m)] [] T1 ?_
        refine j_blx (F := fX5) tb_X5 (by decide) bk_X5_takeRun_37 bs_X5_takeRun_37 hz (fun K hK => ?_)
        intro b5 b5b
        intro b6 b6b
        have e7 : T1 105 0 8 = T 105 0 8 := hf_0 105 0 8 rfl
        rw [e7] at b6 b6b ⊢
        refine rg_i (by omega) ?_
        refine And.intro (fun c8 => ?_) (fun c8 => ?_)
        · refine hK 56 [some (vR 105 0), some (vI l), some (vI h), some (vI k), some (vI m)] [vR 105 0] T1 ?_
          refine j_blx (F := fX5) tb_X5 (by decide) bk_X5_takeRun_56 bs_X5_takeRun_56 hz (fun K hK => ?_)
          refine bd_i (by omega) ?_
          refine x_nm (fun U9 hU9 => ?_)
          have e10 := up_f hU9
          refine (show po_X5_takeRun_e T l h k m U9 (none) from ?_)
          have e11 : U9 105 0 9 = T1 105 0 9 := up_j hU9 (by decide) 105 0
          have e12 : U9 105 0 7 = k := up_f hU9
          have e0 := hf_0 500 0 (T1 105 0 9) rfl
          have e1 := hf_0 105 0 1 rfl
          have e2 := hf_0 105 0 8 rfl
          have e9 : U9 105 0 9 = T1 105 0 9 := up_j hU9 (by decide) 105 0
          have e7 := up_f hU9
          refine ⟨rfl, fr_u (fr_t (fr_0 _ _) (fr_s hf_0 rfl)) hU9 rfl, ?_, ?_⟩
          · rw [e9]
            exact ⟨i1.1, i1.2, i2, fun g => (show ¬ (l ≤ T 500 0 (T1 105 0 9) ∧ T 500 0 (T1 105 0 9) ≤ h) by omega)⟩
          · omega
        · refine hK 57 [some (vR 105 0), some (vI l), some (vI h), some (vI k), some (vI m)] [vI 5, vR 105 0] T1 ?_
          refine j_blx (F := fX5) tb_X5 (by decide) bk_X5_takeRun_57 bs_X5_takeRun_57 hz (fun K hK => ?_)
          refine bd_i (by omega) ?_
          refine x_nm (fun U13 hU13 => ?_)
          have e14 := up_f hU13
          refine (show po_X5_takeRun_e T l h k m U13 (none) from ?_)
          have e15 : U13 105 0 9 = T1 105 0 9 := up_j hU13 (by decide) 105 0
          have e16 : U13 105 0 7 = 5 := up_f hU13
          have e0 := hf_0 500 0 (T1 105 0 9) rfl
          have e1 := hf_0 105 0 1 rfl
          have e2 := hf_0 105 0 8 rfl
          have e9 : U13 105 0 9 = T1 105 0 9 := up_j hU13 (by decide) 105 0
          have e7 := up_f hU13
          refine ⟨rfl, fr_u (fr_t (fr_0 _ _) (fr_s hf_0 rfl)) hU13 rfl, ?_, ?_⟩
          · rw [e9]
            exact ⟨i1.1, i1.2, i2, fun g => (show ¬ (l ≤ T 500 0 (T1 105 0 9) ∧ T 500 0 (T1 105 0 9) ≤ h) by omega)⟩
          · omega
      · intro b17 b17b
        refine hK 18 [some (vR 105 0), some (vI l), some (vI h), some (vI k), some (vI m)] [vI h, vI l, vI (T1 105 0 9), vR 105 0] T1 ?_
        refine j_callV (y := yX5_isBetween) (Yc := zX5_isBetween) (rest := []) [vI (T1 105 0 9), vI l, vI h] (ct_X5_isBetween_e (T := T1) (by omega)) cl_X5_104 (qd_c (by decide +kernel)) (by decide) rfl (by decide +kernel) (Nat.le_of_ble_eq_true rfl) (by decide) (by decide) rfl ?_
        rintro _ _ ⟨rfl, x18, rfl, hx18⟩
        show J_ zX5_takeRun T (po_X5_takeRun_e T l h k m) 0 0 21 [some (vR 105 0), some (vI l), some (vI h), some (vI k), some (vI m)] [vI x18] T1
        refine j_blx (F := fX5) tb_X5 (by decide) bk_X5_takeRun_21 bs_X5_takeRun_21 hz (fun K hK => ?_)
        refine And.intro (fun c19 => ?_) (fun c19 => ?_)
        · refine hK 37 [some (vR 105 0), some (vI l), some (vI h), some (vI k), some (vI m)] [] T1 ?_
          refine j_blx (F := fX5) tb_X5 (by decide) bk_X5_takeRun_37 bs_X5_takeRun_37 hz (fun K hK => ?_)
          intro b20 b20b
          intro b21 b21b
          have e22 : T1 105 0 8 = T 105 0 8 := hf_0 105 0 8 rfl
          rw [e22] at b21 b21b ⊢
          refine rg_i (by omega) ?_
          refine And.intro (fun c23 => ?_) (fun c23 => ?_)
          · refine hK 56 [some (vR 105 0), some (vI l), some (vI h), some (vI k), some (vI m)] [vR 105 0] T1 ?_
            refine j_blx (F := fX5) tb_X5 (by decide) bk_X5_takeRun_56 bs_X5_takeRun_56 hz (fun K hK => ?_)
            refine bd_i (by omega) ?_
            refine x_nm (fun U24 hU24 => ?_)
            have e25 := up_f hU24
            refine (show po_X5_takeRun_e T l h k m U24 (none) from ?_)
            have e26 : U24 105 0 9 = T1 105 0 9 := up_j hU24 (by decide) 105 0
            have e27 : U24 105 0 7 = k := up_f hU24
            have e0 := hf_0 500 0 (T1 105 0 9) rfl
            have e1 := hf_0 105 0 1 rfl
            have e2 := hf_0 105 0 8 rfl
            have e9 : U24 105 0 9 = T1 105 0 9 := up_j hU24 (by decide) 105 0
            have e7 := up_f hU24
            refine ⟨rfl, fr_u (fr_t (fr_0 _ _) (fr_s hf_0 rfl)) hU24 rfl, ?_, ?_⟩
            · rw [e9]
              exact ⟨i1.1, i1.2, i2, fun g => (show ¬ (l ≤ T 500 0 (T1 105 0 9) ∧ T 500 0 (T1 105 0 9) ≤ h) by omega)⟩
            · omega
          · refine hK 57 [some (vR 105 0), some (vI l), some (vI h), some (vI k), some (vI m)] [vI 5, vR 105 0] T1 ?_
            refine j_blx (F := fX5) tb_X5 (by decide) bk_X5_takeRun_57 bs_X5_takeRun_57 hz (fun K hK => ?_)
            refine bd_i (by omega) ?_
            refine x_nm (fun U28 hU28 => ?_)
            have e29 := up_f hU28
            refine (show po_X5_takeRun_e T l h k m U28 (none) from ?_)
            have e30 : U28 105 0 9 = T1 105 0 9 := up_j hU28 (by decide) 105 0
            have e31 : U28 105 0 7 = 5 := up_f hU28
            have e0 := hf_0 500 0 (T1 105 0 9) rfl
            have e1 := hf_0 105 0 1 rfl
            have e2 := hf_0 105 0 8 rfl
            have e9 : U28 105 0 9 = T1 105 0 9 := up_j hU28 (by decide) 105 0
            have e7 := up_f hU28
            refine ⟨rfl, fr_u (fr_t (fr_0 _ _) (fr_s hf_0 rfl)) hU28 rfl, ?_, ?_⟩
            · rw [e9]
              exact ⟨i1.1, i1.2, i2, fun g => (show ¬ (l ≤ T 500 0 (T1 105 0 9) ∧ T 500 0 (T1 105 0 9) ≤ h) by omega)⟩
            · omega
        · intro b32 b32b
          refine rg_i (by omega) ?_
          refine bd_i (by omega) ?_
          refine x_nm (fun U33 hU33 => ?_)
          have e34 := up_f hU33
          refine hK 0 [some (vR 105 0), some (vI l), some (vI h), some (vI k), some (vI m)] [] U33 ?_
          have e35 : U33 105 0 9 = (T1 105 0 9) + 1 := up_f hU33
          refine ih_0 _ ?_ U33 (Nat.le_refl _) ?_ ?_ ?_
          · omega
          · exact fr_u (fr_t (fr_0 _ _) (fr_s hf_0 rfl)) hU33 rfl
          · omega
          · have e0 := hf_0 500 0 (T1 105 0 9) rfl
            rw [up_f hU33]
            exact rp9_s i2 (show l ≤ T 500 0 (T1 105 0 9) ∧ T 500 0 (T1 105 0 9) ≤ h by omega)
  refine c_0 _ T (Nat.le_refl _) ?_ ?_ ?_
  · exact fr_0 _ _
  · omega
  · exact rp9_z
abbrev po_X5_nextToken_e (T : Zt) : Zt → Option Zv → Prop := fun T' r => r = none ∧ fr_ [(105, [7, 8, 9])] T T' ∧ (TK9_ (fun j => T 500 0 j) (T 105 0 1) (T 105 0 9) (T' 105 0 8) (T' 105 0 9) (T' 105 0 7))
set_option maxHeartbeats 4000000 in
theorem ct_X5_nextToken_e {T : Zt} (h9 : T 105 0 9 ≤ T 105 0 1) : Ct_ yX5_nextToken zX5_nextToken T [vR 105 0] (po_X5_nextToken_e T) := by
  refine ct_of (by decide) rfl rfl (Nat.le_of_ble_eq_true rfl) (fun hT hav => ?_)
  have hz : zX5_nextToken.2.2.2.1 = some .boolean → ∀ (T' : Zt) (x : Int), po_X5_nextToken_e T T' (some (vI x)) → 0 ≤ x ∧ x ≤ 1 := fun h => by cases h
  have hln : 0 ≤ T 105 0 1 ∧ T 105 0 1 ≤ 400 := bd_f hT 105 1 (by decide +kernel : (tf_ 105)[1]? = some (0, 0, 0, 400)) 0
  have hte : 0 ≤ T 105 0 9 ∧ T 105 0 9 ≤ 400 := bd_f hT 105 9 (by decide +kernel : (tf_ 105)[9]? = some (0, 0, 0, 400)) 0
  show J_ zX5_nextToken T (po_X5_nextToken_e T) 0 0 0 [some (vR 105 0), none] [] T
  have c_5 : ∀ (nn : Nat) (a : Int), ((400 - a).toNat) ≤ nn → (T 105 0 9 ≤ a ∧ a ≤ T 105 0 1) → (BP9_ (fun j => T 500 0 j) (T 105 0 9) a) → J_ zX5_nextToken T (po_X5_nextToken_e T) 0 0 5 [some (vR 105 0), some (vI a)] [] T := by
    intro nn
    induction nn using Nat.strongRecOn with
    | _ nn ih_5 =>
      intro a hm_5 i1 i2
      refine j_blx (F := fX5) tb_X5 (by decide) bk_X5_nextToken_5 bs_X5_nextToken_5 hz (fun K hK => ?_)
      intro b1 b1b
      refine And.intro (fun c2 => ?_) (fun c2 => ?_)
      · refine hK 41 [some (vR 105 0), some (vI a)] [] T ?_
        have sk : SK9_ (fun j => T 500 0 j) (T 105 0 1) (T 105 0 9) a := ⟨i1.1, i1.2, i2, fun g => (show ¬ (T 500 0 a = 10 ∨ T 500 0 a = 32) by omega)⟩
        refine j_blx (F := fX5) tb_X5 (by decide) bk_X5_nextToken_41 bs_X5_nextToken_41 hz (fun K hK => ?_)
        refine bd_i (by omega) ?_
        refine x_nm (fun U3 hU3 => ?_)
        have e4 := up_f hU3
        refine bd_i (by omega) ?_
        refine x_nm (fun U5 hU5 => ?_)
        have e6 := up_f hU5
        intro b7 b7b
        have e8 : U5 105 0 1 = T 105 0 1 := (up_j hU5 (by decide) 105 0).trans (up_j hU3 (by decide) 105 0)
        rw [e8] at b7 b7b ⊢
        refine And.intro (fun c9 => ?_) (fun c9 => ?_)
        · refine hK 67 [some (vR 105 0), some (vI a)] [] U5 ?_
          refine j_blx (F := fX5) tb_X5 (by decide) bk_X5_nextToken_67 bs_X5_nextToken_67 hz (fun K hK => ?_)
          refine hK 73 [some (vR 105 0), some (vI a)] [vI 122, vI 97, vI a, vR 105 0] U5 ?_
          refine j_callV (y := yX5_isBetween) (Yc := zX5_isBetween) (rest := []) [vI a, vI 97, vI 122] (ct_X5_isBetween_e (T := U5) (by omega)) cl_X5_104 (qd_c (by decide +kernel)) (by decide) rfl (by decide +kernel) (Nat.le_of_ble_eq_true rfl) (by decide) (by decide) rfl ?_
          rintro _ _ ⟨rfl, x10, rfl, hx10⟩
          show J_ zX5_nextToken T (po_X5_nextToken_e T) 0 0 76 [some (vR 105 0), some (vI a)] [vI x10] U5
          have ea9 : U5 500 0 a = T 500 0 a := (show fr_ [(105, [8, 9])] T U5 from fr_u (fr_u (fr_0 _ _) hU3 rfl) hU5 rfl) 500 0 a rfl
          refine j_blx (F := fX5) tb_X5 (by decide) bk_X5_nextToken_76 bs_X5_nextToken_76 hz (fun K hK => ?_)
          refine And.intro (fun c11 => ?_) (fun c11 => ?_)
          · refine hK 93 [some (vR 105 0), some (vI a)] [] U5 ?_
            refine j_blx (F := fX5) tb_X5 (by decide) bk_X5_nextToken_93 bs_X5_nextToken_93 hz (fun K hK => ?_)
            refine hK 99 [some (vR 105 0), some (vI a)] [vI 57, vI 48, vI a, vR 105 0] U5 ?_
            refine j_callV (y := yX5_isBetween) (Yc := zX5_isBetween) (rest := []) [vI a, vI 48, vI 57] (ct_X5_isBetween_e (T := U5) (by omega)) cl_X5_104 (qd_c (by decide +kernel)) (by decide) rfl (by decide +kernel) (Nat.le_of_ble_eq_true rfl) (by decide) (by decide) rfl ?_
            rintro _ _ ⟨rfl, x12, rfl, hx12⟩
            show J_ zX5_nextToken T (po_X5_nextToken_e T) 0 0 102 [some (vR 105 0), some (vI a)] [vI x12] U5
            refine j_blx (F := fX5) tb_X5 (by decide) bk_X5_nextToken_102 bs_X5_nextToken_102 hz (fun K hK => ?_)
            refine And.intro (fun c13 => ?_) (fun c13 => ?_)
            · refine hK 118 [some (vR 105 0), some (vI a)] [] U5 ?_
              refine j_blx (F := fX5) tb_X5 (by decide) bk_X5_nextToken_118 bs_X5_nextToken_118 hz (fun K hK => ?_)
              refine rg_i (by omega) ?_
              refine bd_i (by omega) ?_
              refine x_nm (fun U14 hU14 => ?_)
              have e15 := up_f hU14
              refine ix_i (by omega) ?_
              intro b16 b16b
              have e17 : U14 500 0 a = T 500 0 a := (up_k hU14 (by decide) 0 a).trans ((up_k hU5 (by decide) 0 a).trans (up_k hU3 (by decide) 0 a))
              rw [e17] at b16 b16b ⊢
              refine And.intro (fun c18 => ?_) (fun c18 => ?_)
              · refine hK 141 [some (vR 105 0), some (vI a)] [vR 105 0] U14 ?_
                refine j_blx (F := fX5) tb_X5 (by decide) bk_X5_nextToken_141 bs_X5_nextToken_141 hz (fun K hK => ?_)
                refine ix_i (by omega) ?_
                intro b19 b19b
                have e20 : U14 500 0 a = T 500 0 a := (up_k hU14 (by decide) 0 a).trans ((up_k hU5 (by decide) 0 a).trans (up_k hU3 (by decide) 0 a))
                rw [e20] at b19 b19b ⊢
                refine And.intro (fun c21 => ?_) (fun c21 => ?_)
                · refine hK 156 [some (vR 105 0), some (vI a)] [vR 105 0] U14 ?_
                  refine j_blx (F := fX5) tb_X5 (by decide) bk_X5_nextToken_156 bs_X5_nextToken_156 hz (fun K hK => ?_)
                  refine bd_i (by omega) ?_
                  refine x_nm (fun U22 hU22 => ?_)
                  have e23 := up_f hU22
                  refine (show po_X5_nextToken_e T U22 (none) from ?_)
                  have e24 : U22 105 0 8 = a := (up_j hU22 (by decide) 105 0).trans ((up_j hU14 (by decide) 105 0).trans ((up_j hU5 (by decide) 105 0).trans (up_f hU3)))
                  have e25 : U22 105 0 9 = a + 1 := (up_j hU22 (by decide) 105 0).trans (up_f hU14)
                  have e26 : U22 105 0 7 = 5 := up_f hU22
                  have fv : fr_ [(105, [7, 8, 9])] T U22 := fr_u (fr_u (fr_u (fr_u (fr_0 _ _) hU3 rfl) hU5 rfl) hU14 rfl) hU22 rfl
                  refine ⟨rfl, fr_u (fr_u (fr_u (fr_u (fr_0 _ _) hU3 rfl) hU5 rfl) hU14 rfl) hU22 rfl, ?_⟩
                  have e7 := up_f hU22
                  have e9 := (up_j hU22 (by decide) 105 0).trans (up_f hU14)
                  have e8 : U22 105 0 8 = a := (up_j hU22 (by decide) 105 0).trans ((up_j hU14 (by decide) 105 0).trans ((up_j hU5 (by decide) 105 0).trans ((up_f hU3))))
                  exact tk9_3 sk e8 (by omega) (show ¬ (97 ≤ T 500 0 a ∧ T 500 0 a ≤ 122) by omega) (show ¬ (48 ≤ T 500 0 a ∧ T 500 0 a ≤ 57) by omega) e9 (show (T 500 0 a = 59 ∧ _) ∨ (T 500 0 a = 44 ∧ _) ∨ (T 500 0 a ≠ 59 ∧ T 500 0 a ≠ 44 ∧ _) by omega)
                · refine hK 157 [some (vR 105 0), some (vI a)] [vI 4, vR 105 0] U14 ?_
                  refine j_blx (F := fX5) tb_X5 (by decide) bk_X5_nextToken_157 bs_X5_nextToken_157 hz (fun K hK => ?_)
                  refine bd_i (by omega) ?_
                  refine x_nm (fun U27 hU27 => ?_)
                  have e28 := up_f hU27
                  refine (show po_X5_nextToken_e T U27 (none) from ?_)
                  have e29 : U27 105 0 8 = a := (up_j hU27 (by decide) 105 0).trans ((up_j hU14 (by decide) 105 0).trans ((up_j hU5 (by decide) 105 0).trans (up_f hU3)))
                  have e30 : U27 105 0 9 = a + 1 := (up_j hU27 (by decide) 105 0).trans (up_f hU14)
                  have e31 : U27 105 0 7 = 4 := up_f hU27
                  have fv : fr_ [(105, [7, 8, 9])] T U27 := fr_u (fr_u (fr_u (fr_u (fr_0 _ _) hU3 rfl) hU5 rfl) hU14 rfl) hU27 rfl
                  refine ⟨rfl, fr_u (fr_u (fr_u (fr_u (fr_0 _ _) hU3 rfl) hU5 rfl) hU14 rfl) hU27 rfl, ?_⟩
                  have e7 := up_f hU27
                  have e9 := (up_j hU27 (by decide) 105 0).trans (up_f hU14)
                  have e8 : U27 105 0 8 = a := (up_j hU27 (by decide) 105 0).trans ((up_j hU14 (by decide) 105 0).trans ((up_j hU5 (by decide) 105 0).trans ((up_f hU3))))
                  exact tk9_3 sk e8 (by omega) (show ¬ (97 ≤ T 500 0 a ∧ T 500 0 a ≤ 122) by omega) (show ¬ (48 ≤ T 500 0 a ∧ T 500 0 a ≤ 57) by omega) e9 (show (T 500 0 a = 59 ∧ _) ∨ (T 500 0 a = 44 ∧ _) ∨ (T 500 0 a ≠ 59 ∧ T 500 0 a ≠ 44 ∧ _) by omega)
              · refine hK 157 [some (vR 105 0), some (vI a)] [vI 3, vR 105 0] U14 ?_
                refine j_blx (F := fX5) tb_X5 (by decide) bk_X5_nextToken_157 bs_X5_nextToken_157 hz (fun K hK => ?_)
                refine bd_i (by omega) ?_
                refine x_nm (fun U32 hU32 => ?_)
                have e33 := up_f hU32
                refine (show po_X5_nextToken_e T U32 (none) from ?_)
                have e34 : U32 105 0 8 = a := (up_j hU32 (by decide) 105 0).trans ((up_j hU14 (by decide) 105 0).trans ((up_j hU5 (by decide) 105 0).trans (up_f hU3)))
                have e35 : U32 105 0 9 = a + 1 := (up_j hU32 (by decide) 105 0).trans (up_f hU14)
                have e36 : U32 105 0 7 = 3 := up_f hU32
                have fv : fr_ [(105, [7, 8, 9])] T U32 := fr_u (fr_u (fr_u (fr_u (fr_0 _ _) hU3 rfl) hU5 rfl) hU14 rfl) hU32 rfl
                refine ⟨rfl, fr_u (fr_u (fr_u (fr_u (fr_0 _ _) hU3 rfl) hU5 rfl) hU14 rfl) hU32 rfl, ?_⟩
                have e7 := up_f hU32
                have e9 := (up_j hU32 (by decide) 105 0).trans (up_f hU14)
                have e8 : U32 105 0 8 = a := (up_j hU32 (by decide) 105 0).trans ((up_j hU14 (by decide) 105 0).trans ((up_j hU5 (by decide) 105 0).trans ((up_f hU3))))
                exact tk9_3 sk e8 (by omega) (show ¬ (97 ≤ T 500 0 a ∧ T 500 0 a ≤ 122) by omega) (show ¬ (48 ≤ T 500 0 a ∧ T 500 0 a ≤ 57) by omega) e9 (show (T 500 0 a = 59 ∧ _) ∨ (T 500 0 a = 44 ∧ _) ∨ (T 500 0 a ≠ 59 ∧ T 500 0 a ≠ 44 ∧ _) by omega)
            · refine hK 112 [some (vR 105 0), some (vI a)] [vI 3, vI 2, vI 57, vI 48, vR 105 0] U5 ?_
              have e37 : U5 105 0 9 = a := up_f hU5
              have e38 : U5 105 0 1 = T 105 0 1 := (up_j hU5 (by decide) 105 0).trans (up_j hU3 (by decide) 105 0)
              refine j_callV (y := yX5_takeRun) (Yc := zX5_takeRun) (rest := []) [vI 48, vI 57, vI 2, vI 3] (ct_X5_takeRun_e (T := U5) (by omega) (by omega)) cl_X5_108 (qd_c (by decide +kernel)) (by decide) rfl (by decide +kernel) (Nat.le_of_ble_eq_true rfl) (by decide) (by decide) rfl ?_
              rintro U39 _ ⟨rfl, fU39, qU39⟩
              show J_ zX5_nextToken T (po_X5_nextToken_e T) 0 0 115 [some (vR 105 0), some (vI a)] [] U39
              refine j_blx (F := fX5) tb_X5 (by decide) bk_X5_nextToken_115 bs_X5_nextToken_115 hz (fun K hK => ?_)
              refine hK 160 [some (vR 105 0), some (vI a)] [] U39 ?_
              refine j_blx (F := fX5) tb_X5 (by decide) bk_X5_nextToken_160 bs_X5_nextToken_160 hz (fun K hK => ?_)
              refine (show po_X5_nextToken_e T U39 (none) from ?_)
              have e40 : U39 105 0 8 = a := (fU39 105 0 8 rfl).trans ((up_j hU5 (by decide) 105 0).trans (up_f hU3))
              have fv : fr_ [(105, [8, 9])] T U5 := fr_u (fr_u (fr_0 _ _) hU3 rfl) hU5 rfl
              have eb : (fun j => U5 500 0 j) = fun j => T 500 0 j := funext fun j => fv 500 0 j rfl
              have el := fv 105 0 1 rfl
              have ea : T 500 0 a = U5 500 0 a := (fv 500 0 a rfl).symm
              have e9 := up_f hU5
              have e8 : U5 105 0 8 = a := (up_j hU5 (by decide) 105 0).trans (up_f hU3)
              have e8b : U39 105 0 8 = U5 105 0 8 := fU39 105 0 8 rfl
              rw [eb, el, e9] at qU39
              refine ⟨rfl, fr_t (fr_u (fr_u (fr_0 _ _) hU3 rfl) hU5 rfl) (fr_s fU39 rfl), ?_⟩
              exact tk9_2 sk (by omega) (by omega) (show _ ≤ T 500 0 a ∧ T 500 0 a ≤ _ by omega) qU39.1 (by omega)
          · refine hK 87 [some (vR 105 0), some (vI a)] [vI 12, vI 1, vI 122, vI 97, vR 105 0] U5 ?_
            have e41 : U5 105 0 9 = a := up_f hU5
            have e42 : U5 105 0 1 = T 105 0 1 := (up_j hU5 (by decide) 105 0).trans (up_j hU3 (by decide) 105 0)
            refine j_callV (y := yX5_takeRun) (Yc := zX5_takeRun) (rest := []) [vI 97, vI 122, vI 1, vI 12] (ct_X5_takeRun_e (T := U5) (by omega) (by omega)) cl_X5_108 (qd_c (by decide +kernel)) (by decide) rfl (by decide +kernel) (Nat.le_of_ble_eq_true rfl) (by decide) (by decide) rfl ?_
            rintro U43 _ ⟨rfl, fU43, qU43⟩
            show J_ zX5_nextToken T (po_X5_nextToken_e T) 0 0 90 [some (vR 105 0), some (vI a)] [] U43
            refine j_blx (F := fX5) tb_X5 (by decide) bk_X5_nextToken_90 bs_X5_nextToken_90 hz (fun K hK => ?_)
            refine hK 160 [some (vR 105 0), some (vI a)] [] U43 ?_
            refine j_blx (F := fX5) tb_X5 (by decide) bk_X5_nextToken_160 bs_X5_nextToken_160 hz (fun K hK => ?_)
            refine (show po_X5_nextToken_e T U43 (none) from ?_)
            have e44 : U43 105 0 8 = a := (fU43 105 0 8 rfl).trans ((up_j hU5 (by decide) 105 0).trans (up_f hU3))
            have fv : fr_ [(105, [8, 9])] T U5 := fr_u (fr_u (fr_0 _ _) hU3 rfl) hU5 rfl
            have eb : (fun j => U5 500 0 j) = fun j => T 500 0 j := funext fun j => fv 500 0 j rfl
            have el := fv 105 0 1 rfl
            have ea : T 500 0 a = U5 500 0 a := (fv 500 0 a rfl).symm
            have e9 := up_f hU5
            have e8 : U5 105 0 8 = a := (up_j hU5 (by decide) 105 0).trans (up_f hU3)
            have e8b : U43 105 0 8 = U5 105 0 8 := fU43 105 0 8 rfl
            rw [eb, el, e9] at qU43
            refine ⟨rfl, fr_t (fr_u (fr_u (fr_0 _ _) hU3 rfl) hU5 rfl) (fr_s fU43 rfl), ?_⟩
            exact tk9_1 sk (by omega) (by omega) (show _ ≤ T 500 0 a ∧ T 500 0 a ≤ _ by omega) qU43.1 (by omega)
        · refine bd_i (by omega) ?_
          refine x_nm (fun U45 hU45 => ?_)
          have e46 := up_f hU45
          refine hK 160 [some (vR 105 0), some (vI a)] [] U45 ?_
          refine j_blx (F := fX5) tb_X5 (by decide) bk_X5_nextToken_160 bs_X5_nextToken_160 hz (fun K hK => ?_)
          refine (show po_X5_nextToken_e T U45 (none) from ?_)
          have e47 : U45 105 0 8 = a := (up_j hU45 (by decide) 105 0).trans ((up_j hU5 (by decide) 105 0).trans (up_f hU3))
          have e48 : U45 105 0 9 = a := (up_j hU45 (by decide) 105 0).trans (up_f hU5)
          have e49 : U45 105 0 7 = 0 := up_f hU45
          have fv : fr_ [(105, [7, 8, 9])] T U45 := fr_u (fr_u (fr_u (fr_0 _ _) hU3 rfl) hU5 rfl) hU45 rfl
          refine ⟨rfl, fr_u (fr_u (fr_u (fr_0 _ _) hU3 rfl) hU5 rfl) hU45 rfl, ?_⟩
          have e7 := up_f hU45
          have e9 := (up_j hU45 (by decide) 105 0).trans (up_f hU5)
          have e8 : U45 105 0 8 = a := (up_j hU45 (by decide) 105 0).trans ((up_j hU5 (by decide) 105 0).trans ((up_f hU3)))
          exact tk9_0 sk e8 (by omega) e9 e7
      · refine ix_i (by omega) ?_
        intro b50 b50b
        refine And.intro (fun c51 => ?_) (fun c51 => ?_)
        · refine hK 35 [some (vR 105 0), some (vI a)] [] T ?_
          refine j_blx (F := fX5) tb_X5 (by decide) bk_X5_nextToken_35 bs_X5_nextToken_35 hz (fun K hK => ?_)
          refine rg_i (by omega) ?_
          refine hK 5 [some (vR 105 0), some (vI (a + 1))] [] T ?_
          refine ih_5 _ ?_ (a + 1) (Nat.le_refl _) ?_ ?_
          · omega
          · omega
          · exact bp9_s i2 (show T 500 0 a = 10 ∨ T 500 0 a = 32 by omega)
        · refine ix_i (by omega) ?_
          intro b52 b52b
          refine And.intro (fun c53 => ?_) (fun c53 => ?_)
          · refine hK 41 [some (vR 105 0), some (vI a)] [] T ?_
            have sk : SK9_ (fun j => T 500 0 j) (T 105 0 1) (T 105 0 9) a := ⟨i1.1, i1.2, i2, fun g => (show ¬ (T 500 0 a = 10 ∨ T 500 0 a = 32) by omega)⟩
            refine j_blx (F := fX5) tb_X5 (by decide) bk_X5_nextToken_41 bs_X5_nextToken_41 hz (fun K hK => ?_)
            refine bd_i (by omega) ?_
            refine x_nm (fun U54 hU54 => ?_)
            have e55 := up_f hU54
            refine bd_i (by omega) ?_
            refine x_nm (fun U56 hU56 => ?_)
            have e57 := up_f hU56
            intro b58 b58b
            have e59 : U56 105 0 1 = T 105 0 1 := (up_j hU56 (by decide) 105 0).trans (up_j hU54 (by decide) 105 0)
            rw [e59] at b58 b58b ⊢
            refine And.intro (fun c60 => ?_) (fun c60 => ?_)
            · refine hK 67 [some (vR 105 0), some (vI a)] [] U56 ?_
              refine j_blx (F := fX5) tb_X5 (by decide) bk_X5_nextToken_67 bs_X5_nextToken_67 hz (fun K hK => ?_)
              refine hK 73 [some (vR 105 0), some (vI a)] [vI 122, vI 97, vI a, vR 105 0] U56 ?_
              refine j_callV (y := yX5_isBetween) (Yc := zX5_isBetween) (rest := []) [vI a, vI 97, vI 122] (ct_X5_isBetween_e (T := U56) (by omega)) cl_X5_104 (qd_c (by decide +kernel)) (by decide) rfl (by decide +kernel) (Nat.le_of_ble_eq_true rfl) (by decide) (by decide) rfl ?_
              rintro _ _ ⟨rfl, x61, rfl, hx61⟩
              show J_ zX5_nextToken T (po_X5_nextToken_e T) 0 0 76 [some (vR 105 0), some (vI a)] [vI x61] U56
              have ea9 : U56 500 0 a = T 500 0 a := (show fr_ [(105, [8, 9])] T U56 from fr_u (fr_u (fr_0 _ _) hU54 rfl) hU56 rfl) 500 0 a rfl
              refine j_blx (F := fX5) tb_X5 (by decide) bk_X5_nextToken_76 bs_X5_nextToken_76 hz (fun K hK => ?_)
              refine And.intro (fun c62 => ?_) (fun c62 => ?_)
              · refine hK 93 [some (vR 105 0), some (vI a)] [] U56 ?_
                refine j_blx (F := fX5) tb_X5 (by decide) bk_X5_nextToken_93 bs_X5_nextToken_93 hz (fun K hK => ?_)
                refine hK 99 [some (vR 105 0), some (vI a)] [vI 57, vI 48, vI a, vR 105 0] U56 ?_
                refine j_callV (y := yX5_isBetween) (Yc := zX5_isBetween) (rest := []) [vI a, vI 48, vI 57] (ct_X5_isBetween_e (T := U56) (by omega)) cl_X5_104 (qd_c (by decide +kernel)) (by decide) rfl (by decide +kernel) (Nat.le_of_ble_eq_true rfl) (by decide) (by decide) rfl ?_
                rintro _ _ ⟨rfl, x63, rfl, hx63⟩
                show J_ zX5_nextToken T (po_X5_nextToken_e T) 0 0 102 [some (vR 105 0), some (vI a)] [vI x63] U56
                refine j_blx (F := fX5) tb_X5 (by decide) bk_X5_nextToken_102 bs_X5_nextToken_102 hz (fun K hK => ?_)
                refine And.intro (fun c64 => ?_) (fun c64 => ?_)
                · refine hK 118 [some (vR 105 0), some (vI a)] [] U56 ?_
                  refine j_blx (F := fX5) tb_X5 (by decide) bk_X5_nextToken_118 bs_X5_nextToken_118 hz (fun K hK => ?_)
                  refine rg_i (by omega) ?_
                  refine bd_i (by omega) ?_
                  refine x_nm (fun U65 hU65 => ?_)
                  have e66 := up_f hU65
                  refine ix_i (by omega) ?_
                  intro b67 b67b
                  have e68 : U65 500 0 a = T 500 0 a := (up_k hU65 (by decide) 0 a).trans ((up_k hU56 (by decide) 0 a).trans (up_k hU54 (by decide) 0 a))
                  rw [e68] at b67 b67b ⊢
                  refine And.intro (fun c69 => ?_) (fun c69 => ?_)
                  · refine hK 141 [some (vR 105 0), some (vI a)] [vR 105 0] U65 ?_
                    refine j_blx (F := fX5) tb_X5 (by decide) bk_X5_nextToken_141 bs_X5_nextToken_141 hz (fun K hK => ?_)
                    refine ix_i (by omega) ?_
                    intro b70 b70b
                    have e71 : U65 500 0 a = T 500 0 a := (up_k hU65 (by decide) 0 a).trans ((up_k hU56 (by decide) 0 a).trans (up_k hU54 (by decide) 0 a))
                    rw [e71] at b70 b70b ⊢
                    refine And.intro (fun c72 => ?_) (fun c72 => ?_)
                    · refine hK 156 [some (vR 105 0), some (vI a)] [vR 105 0] U65 ?_
                      refine j_blx (F := fX5) tb_X5 (by decide) bk_X5_nextToken_156 bs_X5_nextToken_156 hz (fun K hK => ?_)
                      refine bd_i (by omega) ?_
                      refine x_nm (fun U73 hU73 => ?_)
                      have e74 := up_f hU73
                      refine (show po_X5_nextToken_e T U73 (none) from ?_)
                      have e75 : U73 105 0 8 = a := (up_j hU73 (by decide) 105 0).trans ((up_j hU65 (by decide) 105 0).trans ((up_j hU56 (by decide) 105 0).trans (up_f hU54)))
                      have e76 : U73 105 0 9 = a + 1 := (up_j hU73 (by decide) 105 0).trans (up_f hU65)
                      have e77 : U73 105 0 7 = 5 := up_f hU73
                      have fv : fr_ [(105, [7, 8, 9])] T U73 := fr_u (fr_u (fr_u (fr_u (fr_0 _ _) hU54 rfl) hU56 rfl) hU65 rfl) hU73 rfl
                      refine ⟨rfl, fr_u (fr_u (fr_u (fr_u (fr_0 _ _) hU54 rfl) hU56 rfl) hU65 rfl) hU73 rfl, ?_⟩
                      have e7 := up_f hU73
                      have e9 := (up_j hU73 (by decide) 105 0).trans (up_f hU65)
                      have e8 : U73 105 0 8 = a := (up_j hU73 (by decide) 105 0).trans ((up_j hU65 (by decide) 105 0).trans ((up_j hU56 (by decide) 105 0).trans ((up_f hU54))))
                      exact tk9_3 sk e8 (by omega) (show ¬ (97 ≤ T 500 0 a ∧ T 500 0 a ≤ 122) by omega) (show ¬ (48 ≤ T 500 0 a ∧ T 500 0 a ≤ 57) by omega) e9 (show (T 500 0 a = 59 ∧ _) ∨ (T 500 0 a = 44 ∧ _) ∨ (T 500 0 a ≠ 59 ∧ T 500 0 a ≠ 44 ∧ _) by omega)
                    · refine hK 157 [some (vR 105 0), some (vI a)] [vI 4, vR 105 0] U65 ?_
                      refine j_blx (F := fX5) tb_X5 (by decide) bk_X5_nextToken_157 bs_X5_nextToken_157 hz (fun K hK => ?_)
                      refine bd_i (by omega) ?_
                      refine x_nm (fun U78 hU78 => ?_)
                      have e79 := up_f hU78
                      refine (show po_X5_nextToken_e T U78 (none) from ?_)
                      have e80 : U78 105 0 8 = a := (up_j hU78 (by decide) 105 0).trans ((up_j hU65 (by decide) 105 0).trans ((up_j hU56 (by decide) 105 0).trans (up_f hU54)))
                      have e81 : U78 105 0 9 = a + 1 := (up_j hU78 (by decide) 105 0).trans (up_f hU65)
                      have e82 : U78 105 0 7 = 4 := up_f hU78
                      have fv : fr_ [(105, [7, 8, 9])] T U78 := fr_u (fr_u (fr_u (fr_u (fr_0 _ _) hU54 rfl) hU56 rfl) hU65 rfl) hU78 rfl
                      refine ⟨rfl, fr_u (fr_u (fr_u (fr_u (fr_0 _ _) hU54 rfl) hU56 rfl) hU65 rfl) hU78 rfl, ?_⟩
                      have e7 := up_f hU78
                      have e9 := (up_j hU78 (by decide) 105 0).trans (up_f hU65)
                      have e8 : U78 105 0 8 = a := (up_j hU78 (by decide) 105 0).trans ((up_j hU65 (by decide) 105 0).trans ((up_j hU56 (by decide) 105 0).trans ((up_f hU54))))
                      exact tk9_3 sk e8 (by omega) (show ¬ (97 ≤ T 500 0 a ∧ T 500 0 a ≤ 122) by omega) (show ¬ (48 ≤ T 500 0 a ∧ T 500 0 a ≤ 57) by omega) e9 (show (T 500 0 a = 59 ∧ _) ∨ (T 500 0 a = 44 ∧ _) ∨ (T 500 0 a ≠ 59 ∧ T 500 0 a ≠ 44 ∧ _) by omega)
                  · refine hK 157 [some (vR 105 0), some (vI a)] [vI 3, vR 105 0] U65 ?_
                    refine j_blx (F := fX5) tb_X5 (by decide) bk_X5_nextToken_157 bs_X5_nextToken_157 hz (fun K hK => ?_)
                    refine bd_i (by omega) ?_
                    refine x_nm (fun U83 hU83 => ?_)
                    have e84 := up_f hU83
                    refine (show po_X5_nextToken_e T U83 (none) from ?_)
                    have e85 : U83 105 0 8 = a := (up_j hU83 (by decide) 105 0).trans ((up_j hU65 (by decide) 105 0).trans ((up_j hU56 (by decide) 105 0).trans (up_f hU54)))
                    have e86 : U83 105 0 9 = a + 1 := (up_j hU83 (by decide) 105 0).trans (up_f hU65)
                    have e87 : U83 105 0 7 = 3 := up_f hU83
                    have fv : fr_ [(105, [7, 8, 9])] T U83 := fr_u (fr_u (fr_u (fr_u (fr_0 _ _) hU54 rfl) hU56 rfl) hU65 rfl) hU83 rfl
                    refine ⟨rfl, fr_u (fr_u (fr_u (fr_u (fr_0 _ _) hU54 rfl) hU56 rfl) hU65 rfl) hU83 rfl, ?_⟩
                    have e7 := up_f hU83
                    have e9 := (up_j hU83 (by decide) 105 0).trans (up_f hU65)
                    have e8 : U83 105 0 8 = a := (up_j hU83 (by decide) 105 0).trans ((up_j hU65 (by decide) 105 0).trans ((up_j hU56 (by decide) 105 0).trans ((up_f hU54))))
                    exact tk9_3 sk e8 (by omega) (show ¬ (97 ≤ T 500 0 a ∧ T 500 0 a ≤ 122) by omega) (show ¬ (48 ≤ T 500 0 a ∧ T 500 0 a ≤ 57) by omega) e9 (show (T 500 0 a = 59 ∧ _) ∨ (T 500 0 a = 44 ∧ _) ∨ (T 500 0 a ≠ 59 ∧ T 500 0 a ≠ 44 ∧ _) by omega)
                · refine hK 112 [some (vR 105 0), some (vI a)] [vI 3, vI 2, vI 57, vI 48, vR 105 0] U56 ?_
                  have e88 : U56 105 0 9 = a := up_f hU56
                  have e89 : U56 105 0 1 = T 105 0 1 := (up_j hU56 (by decide) 105 0).trans (up_j hU54 (by decide) 105 0)
                  refine j_callV (y := yX5_takeRun) (Yc := zX5_takeRun) (rest := []) [vI 48, vI 57, vI 2, vI 3] (ct_X5_takeRun_e (T := U56) (by omega) (by omega)) cl_X5_108 (qd_c (by decide +kernel)) (by decide) rfl (by decide +kernel) (Nat.le_of_ble_eq_true rfl) (by decide) (by decide) rfl ?_
                  rintro U90 _ ⟨rfl, fU90, qU90⟩
                  show J_ zX5_nextToken T (po_X5_nextToken_e T) 0 0 115 [some (vR 105 0), some (vI a)] [] U90
                  refine j_blx (F := fX5) tb_X5 (by decide) bk_X5_nextToken_115 bs_X5_nextToken_115 hz (fun K hK => ?_)
                  refine hK 160 [some (vR 105 0), some (vI a)] [] U90 ?_
                  refine j_blx (F := fX5) tb_X5 (by decide) bk_X5_nextToken_160 bs_X5_nextToken_160 hz (fun K hK => ?_)
                  refine (show po_X5_nextToken_e T U90 (none) from ?_)
                  have e91 : U90 105 0 8 = a := (fU90 105 0 8 rfl).trans ((up_j hU56 (by decide) 105 0).trans (up_f hU54))
                  have fv : fr_ [(105, [8, 9])] T U56 := fr_u (fr_u (fr_0 _ _) hU54 rfl) hU56 rfl
                  have eb : (fun j => U56 500 0 j) = fun j => T 500 0 j := funext fun j => fv 500 0 j rfl
                  have el := fv 105 0 1 rfl
                  have ea : T 500 0 a = U56 500 0 a := (fv 500 0 a rfl).symm
                  have e9 := up_f hU56
                  have e8 : U56 105 0 8 = a := (up_j hU56 (by decide) 105 0).trans (up_f hU54)
                  have e8b : U90 105 0 8 = U56 105 0 8 := fU90 105 0 8 rfl
                  rw [eb, el, e9] at qU90
                  refine ⟨rfl, fr_t (fr_u (fr_u (fr_0 _ _) hU54 rfl) hU56 rfl) (fr_s fU90 rfl), ?_⟩
                  exact tk9_2 sk (by omega) (by omega) (show _ ≤ T 500 0 a ∧ T 500 0 a ≤ _ by omega) qU90.1 (by omega)
              · refine hK 87 [some (vR 105 0), some (vI a)] [vI 12, vI 1, vI 122, vI 97, vR 105 0] U56 ?_
                have e92 : U56 105 0 9 = a := up_f hU56
                have e93 : U56 105 0 1 = T 105 0 1 := (up_j hU56 (by decide) 105 0).trans (up_j hU54 (by decide) 105 0)
                refine j_callV (y := yX5_takeRun) (Yc := zX5_takeRun) (rest := []) [vI 97, vI 122, vI 1, vI 12] (ct_X5_takeRun_e (T := U56) (by omega) (by omega)) cl_X5_108 (qd_c (by decide +kernel)) (by decide) rfl (by decide +kernel) (Nat.le_of_ble_eq_true rfl) (by decide) (by decide) rfl ?_
                rintro U94 _ ⟨rfl, fU94, qU94⟩
                show J_ zX5_nextToken T (po_X5_nextToken_e T) 0 0 90 [some (vR 105 0), some (vI a)] [] U94
                refine j_blx (F := fX5) tb_X5 (by decide) bk_X5_nextToken_90 bs_X5_nextToken_90 hz (fun K hK => ?_)
                refine hK 160 [some (vR 105 0), some (vI a)] [] U94 ?_
                refine j_blx (F := fX5) tb_X5 (by decide) bk_X5_nextToken_160 bs_X5_nextToken_160 hz (fun K hK => ?_)
                refine (show po_X5_nextToken_e T U94 (none) from ?_)
                have e95 : U94 105 0 8 = a := (fU94 105 0 8 rfl).trans ((up_j hU56 (by decide) 105 0).trans (up_f hU54))
                have fv : fr_ [(105, [8, 9])] T U56 := fr_u (fr_u (fr_0 _ _) hU54 rfl) hU56 rfl
                have eb : (fun j => U56 500 0 j) = fun j => T 500 0 j := funext fun j => fv 500 0 j rfl
                have el := fv 105 0 1 rfl
                have ea : T 500 0 a = U56 500 0 a := (fv 500 0 a rfl).symm
                have e9 := up_f hU56
                have e8 : U56 105 0 8 = a := (up_j hU56 (by decide) 105 0).trans (up_f hU54)
                have e8b : U94 105 0 8 = U56 105 0 8 := fU94 105 0 8 rfl
                rw [eb, el, e9] at qU94
                refine ⟨rfl, fr_t (fr_u (fr_u (fr_0 _ _) hU54 rfl) hU56 rfl) (fr_s fU94 rfl), ?_⟩
                exact tk9_1 sk (by omega) (by omega) (show _ ≤ T 500 0 a ∧ T 500 0 a ≤ _ by omega) qU94.1 (by omega)
            · refine bd_i (by omega) ?_
              refine x_nm (fun U96 hU96 => ?_)
              have e97 := up_f hU96
              refine hK 160 [some (vR 105 0), some (vI a)] [] U96 ?_
              refine j_blx (F := fX5) tb_X5 (by decide) bk_X5_nextToken_160 bs_X5_nextToken_160 hz (fun K hK => ?_)
              refine (show po_X5_nextToken_e T U96 (none) from ?_)
              have e98 : U96 105 0 8 = a := (up_j hU96 (by decide) 105 0).trans ((up_j hU56 (by decide) 105 0).trans (up_f hU54))
              have e99 : U96 105 0 9 = a := (up_j hU96 (by decide) 105 0).trans (up_f hU56)
              have e100 : U96 105 0 7 = 0 := up_f hU96
              have fv : fr_ [(105, [7, 8, 9])] T U96 := fr_u (fr_u (fr_u (fr_0 _ _) hU54 rfl) hU56 rfl) hU96 rfl
              refine ⟨rfl, fr_u (fr_u (fr_u (fr_0 _ _) hU54 rfl) hU56 rfl) hU96 rfl, ?_⟩
              have e7 := up_f hU96
              have e9 := (up_j hU96 (by decide) 105 0).trans (up_f hU56)
              have e8 : U96 105 0 8 = a := (up_j hU96 (by decide) 105 0).trans ((up_j hU56 (by decide) 105 0).trans ((up_f hU54)))
              exact tk9_0 sk e8 (by omega) e9 e7
          · refine rg_i (by omega) ?_
            refine hK 5 [some (vR 105 0), some (vI (a + 1))] [] T ?_
            refine ih_5 _ ?_ (a + 1) (Nat.le_refl _) ?_ ?_
            · omega
            · omega
            · exact bp9_s i2 (show T 500 0 a = 10 ∨ T 500 0 a = 32 by omega)
  refine j_blx (F := fX5) tb_X5 (by decide) bk_X5_nextToken_0 bs_X5_nextToken_0 hz (fun K hK => ?_)
  intro b101 b101b
  refine hK 5 [some (vR 105 0), some (vI (T 105 0 9))] [] T ?_
  refine c_5 _ (T 105 0 9) (Nat.le_refl _) ?_ ?_
  · omega
  · exact bp9_z

