-- the tokens of a text
abbrev lt9_ (c : Int) : Prop := 97 ≤ c ∧ c ≤ 122
abbrev dg9_ (c : Int) : Prop := 48 ≤ c ∧ c ≤ 57
def BP9_ (b : Int → Int) (a s : Int) : Prop := ∀ i, a ≤ i → i < s → b i = 10 ∨ b i = 32
def RP9_ (b : Int → Int) (lo hi s e : Int) : Prop := ∀ i, s ≤ i → i < e → lo ≤ b i ∧ b i ≤ hi
/-- the token behind a begins at s -/
def SK9_ (b : Int → Int) (n a s : Int) : Prop := a ≤ s ∧ s ≤ n ∧ BP9_ b a s ∧ (s < n → ¬ (b s = 10 ∨ b s = 32))
/-- from s the run of such signs ends at e -/
def RN9_ (b : Int → Int) (n lo hi s e : Int) : Prop := s ≤ e ∧ e ≤ n ∧ RP9_ b lo hi s e ∧ (e < n → ¬ (lo ≤ b e ∧ b e ≤ hi))
/-- the token behind a: from s to e, of kind k -/
def TK9_ (b : Int → Int) (n a s e k : Int) : Prop := SK9_ b n a s ∧ ((¬ s < n ∧ e = s ∧ k = 0) ∨ (s < n ∧ lt9_ (b s) ∧ RN9_ b n 97 122 s e ∧ ((e - s ≤ 12 ∧ k = 1) ∨ (12 < e - s ∧ k = 5))) ∨ (s < n ∧ dg9_ (b s) ∧ RN9_ b n 48 57 s e ∧ ((e - s ≤ 3 ∧ k = 2) ∨ (3 < e - s ∧ k = 5))) ∨ (s < n ∧ ¬ lt9_ (b s) ∧ ¬ dg9_ (b s) ∧ e = s + 1 ∧ ((b s = 59 ∧ k = 3) ∨ (b s = 44 ∧ k = 4) ∨ (b s ≠ 59 ∧ b s ≠ 44 ∧ k = 5))))
theorem bp9_z {b : Int → Int} {a : Int} : BP9_ b a a := fun i h1 h2 => by omega
theorem bp9_s {b : Int → Int} {a s : Int} (h : BP9_ b a s) (g : b s = 10 ∨ b s = 32) : BP9_ b a (s + 1) := fun i h1 h2 => by
  by_cases e : i = s
  · rw [e]
    exact g
  · exact h i h1 (by omega)
theorem rp9_z {b : Int → Int} {lo hi s : Int} : RP9_ b lo hi s s := fun i h1 h2 => by omega
theorem rp9_s {b : Int → Int} {lo hi s e : Int} (h : RP9_ b lo hi s e) (g : lo ≤ b e ∧ b e ≤ hi) : RP9_ b lo hi s (e + 1) := fun i h1 h2 => by
  by_cases z : i = e
  · rw [z]
    exact g
  · exact h i h1 (by omega)
theorem sk9_u {b : Int → Int} {n a s s' : Int} (h : SK9_ b n a s) (g : SK9_ b n a s') : s = s' := by
  obtain ⟨h1, h2, h3, h4⟩ := h
  obtain ⟨g1, g2, g3, g4⟩ := g
  rcases Int.lt_trichotomy s s' with c | c | c
  · exact absurd (g3 s h1 c) (h4 (by omega))
  · exact c
  · exact absurd (h3 s' g1 c) (g4 (by omega))
theorem rn9_u {b : Int → Int} {n lo hi s e e' : Int} (h : RN9_ b n lo hi s e) (g : RN9_ b n lo hi s e') : e = e' := by
  obtain ⟨h1, h2, h3, h4⟩ := h
  obtain ⟨g1, g2, g3, g4⟩ := g
  rcases Int.lt_trichotomy e e' with c | c | c
  · exact absurd (g3 e h1 c) (h4 (by omega))
  · exact c
  · exact absurd (h3 e' g1 c) (g4 (by omega))
/-- there is but one next token -/
theorem tk9_u {b : Int → Int} {n a s e k s' e' k' : Int} (h : TK9_ b n a s e k) (g : TK9_ b n a s' e' k') : s = s' ∧ e = e' ∧ k = k' := by
  obtain ⟨h1, h2⟩ := h
  obtain ⟨g1, g2⟩ := g
  have es := sk9_u h1 g1
  subst es
  refine ⟨rfl, ?_⟩
  rcases h2 with h2 | ⟨h2, h3, h4, h5⟩ | ⟨h2, h3, h4, h5⟩ | h2 <;> rcases g2 with g2 | ⟨g2, g3, g4, g5⟩ | ⟨g2, g3, g4, g5⟩ | g2
  all_goals first
    | omega
    | (have ee := rn9_u h4 g4; omega)
theorem tk9_0 {b : Int → Int} {n a s s' e k : Int} (h : SK9_ b n a s) (e1 : s' = s) (h1 : ¬ s < n) (h2 : e = s) (h3 : k = 0) : TK9_ b n a s' e k := by
  subst e1
  exact ⟨h, Or.inl ⟨h1, h2, h3⟩⟩
theorem tk9_1 {b : Int → Int} {n a s s' e k : Int} (h : SK9_ b n a s) (e1 : s' = s) (h1 : s < n) (h2 : lt9_ (b s)) (h3 : RN9_ b n 97 122 s e) (h4 : (e - s ≤ 12 ∧ k = 1) ∨ (12 < e - s ∧ k = 5)) : TK9_ b n a s' e k := by
  subst e1
  exact ⟨h, Or.inr (Or.inl ⟨h1, h2, h3, h4⟩)⟩
theorem tk9_2 {b : Int → Int} {n a s s' e k : Int} (h : SK9_ b n a s) (e1 : s' = s) (h1 : s < n) (h2 : dg9_ (b s)) (h3 : RN9_ b n 48 57 s e) (h4 : (e - s ≤ 3 ∧ k = 2) ∨ (3 < e - s ∧ k = 5)) : TK9_ b n a s' e k := by
  subst e1
  exact ⟨h, Or.inr (Or.inr (Or.inl ⟨h1, h2, h3, h4⟩))⟩
theorem tk9_3 {b : Int → Int} {n a s s' e k : Int} (h : SK9_ b n a s) (e1 : s' = s) (h1 : s < n) (h2 : ¬ lt9_ (b s)) (h3 : ¬ dg9_ (b s)) (h4 : e = s + 1) (h5 : (b s = 59 ∧ k = 3) ∨ (b s = 44 ∧ k = 4) ∨ (b s ≠ 59 ∧ b s ≠ 44 ∧ k = 5)) : TK9_ b n a s' e k := by
  subst e1
  exact ⟨h, Or.inr (Or.inr (Or.inr ⟨h1, h2, h3, h4, h5⟩))⟩
abbrev po_X5_isBetween_e (T : Zt) (a l h : Int) : Zt → Option Zv → Prop := fun T' r => T = T' ∧ ∃ x : Int, r = some (vI x) ∧ ((x = 1 ∧ l ≤ T 500 0 a ∧ T 500 0 a ≤ h) ∨ (x = 0 ∧ ¬ (l ≤ T 500 0 a ∧ T 500 0 a ≤ h)))
set_option maxHeartbeats 4000000 in
theorem ct_X5_isBetween_e {T : Zt} {a l h : Int} (h1 : 0 ≤ a ∧ a < 400) : Ct_ yX5_isBetween zX5_isBetween T [vR 105 0, vI a, vI l, vI h] (po_X5_isBetween_e T a l h) := by
  refine ct_of pn_5 rfl rfl (Nat.le_of_ble_eq_true rfl) (fun hT hav => ?_)
  have hr_a : -2147483648 ≤ a ∧ a ≤ 2147483647 := hav (vI a) (List.mem_cons_of_mem _ List.mem_cons_self)
  have hr_l : -2147483648 ≤ l ∧ l ≤ 2147483647 := hav (vI l) (List.mem_cons_of_mem _ (List.mem_cons_of_mem _ List.mem_cons_self))
  have hr_h : -2147483648 ≤ h ∧ h ≤ 2147483647 := hav (vI h) (List.mem_cons_of_mem _ (List.mem_cons_of_mem _ (List.mem_cons_of_mem _ List.mem_cons_self)))
  have hz : zX5_isBetween.2.2.2.1 = some .boolean → ∀ (T' : Zt) (x : Int), po_X5_isBetween_e T a l h T' (some (vI x)) → 0 ≤ x ∧ x ≤ 1 := fun _ T' x h => by obtain ⟨-, y, e, hy⟩ := h; cases e; omega
  show J_ zX5_isBetween T (po_X5_isBetween_e T a l h) 0 0 0 [some (vR 105 0), some (vI a), some (vI l), some (vI h)] [] T
  refine j_blx (F := fX5) tb_X5 (nn_ _) bk_X5_isBetween_0 bs_X5_isBetween_0 hz (fun K hK => ?_)
  refine ix_i (by omega) ?_
  intro b1 b1b
  refine And.intro (fun c2 => ?_) (fun c2 => ?_)
  · refine hK 24 _ [] T ?_
    refine j_blx (F := fX5) tb_X5 (nn_ _) bk_X5_isBetween_24 bs_X5_isBetween_24 hz (fun K hK => ?_)
    refine (show po_X5_isBetween_e T a l h T (some (vI 0)) from ?_)
    exact ⟨rfl, _, rfl, Or.inr ⟨rfl, by omega⟩⟩
  · refine ix_i (by omega) ?_
    intro b3 b3b
    refine And.intro (fun c4 => ?_) (fun c4 => ?_)
    · refine hK 24 _ [] T ?_
      refine j_blx (F := fX5) tb_X5 (nn_ _) bk_X5_isBetween_24 bs_X5_isBetween_24 hz (fun K hK => ?_)
      refine (show po_X5_isBetween_e T a l h T (some (vI 0)) from ?_)
      exact ⟨rfl, _, rfl, Or.inr ⟨rfl, by omega⟩⟩
    · refine hK 25 _ [vI 1] T ?_
      refine j_blx (F := fX5) tb_X5 (nn_ _) bk_X5_isBetween_25 bs_X5_isBetween_25 hz (fun K hK => ?_)
      refine (show po_X5_isBetween_e T a l h T (some (vI 1)) from ?_)
      exact ⟨rfl, _, rfl, Or.inl ⟨rfl, by omega⟩⟩
abbrev po_X5_takeRun_e (T : Zt) (l h k m : Int) : Zt → Option Zv → Prop := fun T' r => r = none ∧ fr_ [(105, [7, 9])] T T' ∧ (RN9_ (fun j => T 500 0 j) (T 105 0 1) l h (T 105 0 9) (T' 105 0 9) ∧ ((T' 105 0 9 - T 105 0 8 ≤ m ∧ T' 105 0 7 = k) ∨ (m < T' 105 0 9 - T 105 0 8 ∧ T' 105 0 7 = 5)))
set_option maxHeartbeats 4000000 in
theorem ct_X5_takeRun_e {T : Zt} {l h k m : Int} (hk : 0 ≤ k ∧ k ≤ 5) (h9 : T 105 0 9 ≤ T 105 0 1) : Ct_ yX5_takeRun zX5_takeRun T [vR 105 0, vI l, vI h, vI k, vI m] (po_X5_takeRun_e T l h k m) := by
  refine ct_of pn_5 rfl rfl (Nat.le_of_ble_eq_true rfl) (fun hT hav => ?_)
  have hr_l : -2147483648 ≤ l ∧ l ≤ 2147483647 := hav (vI l) (List.mem_cons_of_mem _ List.mem_cons_self)
  have hr_h : -2147483648 ≤ h ∧ h ≤ 2147483647 := hav (vI h) (List.mem_cons_of_mem _ (List.mem_cons_of_mem _ List.mem_cons_self))
  have hr_k : -2147483648 ≤ k ∧ k ≤ 2147483647 := hav (vI k) (List.mem_cons_of_mem _ (List.mem_cons_of_mem _ (List.mem_cons_of_mem _ List.mem_cons_self)))
  have hr_m : -2147483648 ≤ m ∧ m ≤ 2147483647 := hav (vI m) (List.mem_cons_of_mem _ (List.mem_cons_of_mem _ (List.mem_cons_of_mem _ (List.mem_cons_of_mem _ List.mem_cons_self))))
  have hz : zX5_takeRun.2.2.2.1 = some .boolean → ∀ (T' : Zt) (x : Int), po_X5_takeRun_e T l h k m T' (some (vI x)) → 0 ≤ x ∧ x ≤ 1 := fun h => by cases h
  have hln : 0 ≤ T 105 0 1 ∧ T 105 0 1 ≤ 400 := bd_f hT 105 1 tl_5_1 0
  have hte : 0 ≤ T 105 0 9 ∧ T 105 0 9 ≤ 400 := bd_f hT 105 9 tl_5_9 0
  have hts : 0 ≤ T 105 0 8 ∧ T 105 0 8 ≤ 400 := bd_f hT 105 8 tl_5_8 0
  show J_ zX5_takeRun T (po_X5_takeRun_e T l h k m) 0 0 0 [some (vR 105 0), some (vI l), some (vI h), some (vI k), some (vI m)] [] T
  have c_0 : ∀ (nn : Nat) (T1 : Zt), ((400 - T1 105 0 9).toNat) ≤ nn → (fr_ [(105, [9])] T T1) → (T 105 0 9 ≤ T1 105 0 9 ∧ T1 105 0 9 ≤ T 105 0 1) → (RP9_ (fun j => T 500 0 j) l h (T 105 0 9) (T1 105 0 9)) → J_ zX5_takeRun T (po_X5_takeRun_e T l h k m) 0 0 0 [some (vR 105 0), some (vI l), some (vI h), some (vI k), some (vI m)] [] T1 := by
    intro nn
    induction nn using Nat.strongRecOn with
    | _ nn ih_0 =>
      intro T1 hm_0 hf_0 i1 i2
      replace hm_0 := fun (_ : Unit) => hm_0
      refine j_blx (F := fX5) tb_X5 (nn_ _) bk_X5_takeRun_0 bs_X5_takeRun_0 hz (fun K hK => ?_)
      intro b1 b1b
      intro b2 b2b
      have e3 : T1 105 0 1 = T 105 0 1 := hf_0 105 0 1 rfl
      rw [e3] at b2 b2b ⊢
      refine And.intro (fun c4 => ?_) (fun c4 => ?_)
      · refine hK 37 _ [] T1 ?_
        refine j_blx (F := fX5) tb_X5 (nn_ _) bk_X5_takeRun_37 bs_X5_takeRun_37 hz (fun K hK => ?_)
        intro b5 b5b
        intro b6 b6b
        have e7 : T1 105 0 8 = T 105 0 8 := hf_0 105 0 8 rfl
        rw [e7] at b6 b6b ⊢
        refine rg_i (by omega) ?_
        refine And.intro (fun c8 => ?_) (fun c8 => ?_)
        · refine hK 56 _ [vR 105 0] T1 ?_
          refine j_blx (F := fX5) tb_X5 (nn_ _) bk_X5_takeRun_56 bs_X5_takeRun_56 hz (fun K hK => ?_)
          refine bd_i (by omega) ?_
          refine x_nm (fun U9 hU9 => ?_)
          have e10 := up_f hU9
          refine (show po_X5_takeRun_e T l h k m U9 (none) from ?_)
          have e11 : U9 105 0 9 = T1 105 0 9 := up_j hU9 (by decide) 105 0
          have e12 : U9 105 0 7 = k := up_f hU9
          have e0 := hf_0 500 0 (T1 105 0 9) rfl
          have e1 := hf_0 105 0 1 rfl
          have e2 := hf_0 105 0 8 rfl
          have e9 : U9 105 0 9 = T1 105 0 9 := up_j hU9 (by decide) 105 0
          have e7 := up_f hU9
          refine ⟨rfl, fr_u (fr_t (fr_0 _ _) (fr_s hf_0 rfl)) hU9 rfl, ?_, ?_⟩
          · rw [e9]
            exact ⟨i1.1, i1.2, i2, fun g => (show ¬ (l ≤ T 500 0 (T1 105 0 9) ∧ T 500 0 (T1 105 0 9) ≤ h) by omega)⟩
          · omega
        · refine hK 57 _ [vI 5, vR 105 0] T1 ?_
          refine j_blx (F := fX5) tb_X5 (nn_ _) bk_X5_takeRun_57 bs_X5_takeRun_57 hz (fun K hK => ?_)
          refine bd_i (by omega) ?_
          refine x_nm (fun U13 hU13 => ?_)
          have e14 := up_f hU13
          refine (show po_X5_takeRun_e T l h k m U13 (none) from ?_)
          have e15 : U13 105 0 9 = T1 105 0 9 := up_j hU13 (by decide) 105 0
          have e16 : U13 105 0 7 = 5 := up_f hU13
          have e0 := hf_0 500 0 (T1 105 0 9) rfl
          have e1 := hf_0 105 0 1 rfl
          have e2 := hf_0 105 0 8 rfl
          have e9 : U13 105 0 9 = T1 105 0 9 := up_j hU13 (by decide) 105 0
          have e7 := up_f hU13
          refine ⟨rfl, fr_u (fr_t (fr_0 _ _) (fr_s hf_0 rfl)) hU13 rfl, ?_, ?_⟩
          · rw [e9]
            exact ⟨i1.1, i1.2, i2, fun g => (show ¬ (l ≤ T 500 0 (T1 105 0 9) ∧ T 500 0 (T1 105 0 9) ≤ h) by omega)⟩
          · omega
      · intro b17 b17b
        refine hK 18 _ [vI h, vI l, vI (T1 105 0 9), vR 105 0] T1 ?_
        refine j_callV (y := yX5_isBetween) (Yc := zX5_isBetween) (rest := []) [vI (T1 105 0 9), vI l, vI h] (ct_X5_isBetween_e (T := T1) (by omega)) cl_X5_104 (qd_c (by decide +kernel)) (nn_ _) rfl (rf_of rfl) (Nat.le_of_ble_eq_true rfl) (Nat.le_of_ble_eq_true rfl) (Nat.le_of_ble_eq_true rfl) rfl ?_
        rintro _ _ ⟨rfl, x18, rfl, hx18⟩
        show J_ zX5_takeRun T (po_X5_takeRun_e T l h k m) 0 0 21 _ [vI x18] T1
        refine j_blx (F := fX5) tb_X5 (nn_ _) bk_X5_takeRun_21 bs_X5_takeRun_21 hz (fun K hK => ?_)
        refine And.intro (fun c19 => ?_) (fun c19 => ?_)
        · replace hx18 := hx18.resolve_left (fun z => absurd (c19.symm.trans z.1) (by decide))
          clear c19
          refine hK 37 _ [] T1 ?_
          refine j_blx (F := fX5) tb_X5 (nn_ _) bk_X5_takeRun_37 bs_X5_takeRun_37 hz (fun K hK => ?_)
          intro b20 b20b
          intro b21 b21b
          have e22 : T1 105 0 8 = T 105 0 8 := hf_0 105 0 8 rfl
          rw [e22] at b21 b21b ⊢
          refine rg_i (by omega) ?_
          refine And.intro (fun c23 => ?_) (fun c23 => ?_)
          · refine hK 56 _ [vR 105 0] T1 ?_
            refine j_blx (F := fX5) tb_X5 (nn_ _) bk_X5_takeRun_56 bs_X5_takeRun_56 hz (fun K hK => ?_)
            refine bd_i (by omega) ?_
            refine x_nm (fun U24 hU24 => ?_)
            have e25 := up_f hU24
            refine (show po_X5_takeRun_e T l h k m U24 (none) from ?_)
            have e26 : U24 105 0 9 = T1 105 0 9 := up_j hU24 (by decide) 105 0
            have e27 : U24 105 0 7 = k := up_f hU24
            have e0 := hf_0 500 0 (T1 105 0 9) rfl
            have e1 := hf_0 105 0 1 rfl
            have e2 := hf_0 105 0 8 rfl
            have e9 : U24 105 0 9 = T1 105 0 9 := up_j hU24 (by decide) 105 0
            have e7 := up_f hU24
            refine ⟨rfl, fr_u (fr_t (fr_0 _ _) (fr_s hf_0 rfl)) hU24 rfl, ?_, ?_⟩
            · rw [e9]
              exact ⟨i1.1, i1.2, i2, fun g => (show ¬ (l ≤ T 500 0 (T1 105 0 9) ∧ T 500 0 (T1 105 0 9) ≤ h) by omega)⟩
            · omega
          · refine hK 57 _ [vI 5, vR 105 0] T1 ?_
            refine j_blx (F := fX5) tb_X5 (nn_ _) bk_X5_takeRun_57 bs_X5_takeRun_57 hz (fun K hK => ?_)
            refine bd_i (by omega) ?_
            refine x_nm (fun U28 hU28 => ?_)
            have e29 := up_f hU28
            refine (show po_X5_takeRun_e T l h k m U28 (none) from ?_)
            have e30 : U28 105 0 9 = T1 105 0 9 := up_j hU28 (by decide) 105 0
            have e31 : U28 105 0 7 = 5 := up_f hU28
            have e0 := hf_0 500 0 (T1 105 0 9) rfl
            have e1 := hf_0 105 0 1 rfl
            have e2 := hf_0 105 0 8 rfl
            have e9 : U28 105 0 9 = T1 105 0 9 := up_j hU28 (by decide) 105 0
            have e7 := up_f hU28
            refine ⟨rfl, fr_u (fr_t (fr_0 _ _) (fr_s hf_0 rfl)) hU28 rfl, ?_, ?_⟩
            · rw [e9]
              exact ⟨i1.1, i1.2, i2, fun g => (show ¬ (l ≤ T 500 0 (T1 105 0 9) ∧ T 500 0 (T1 105 0 9) ≤ h) by omega)⟩
            · omega
        · replace hx18 := hx18.resolve_right (fun z => c19 z.1)
          clear c19
          intro b32 b32b
          refine rg_i (by omega) ?_
          refine bd_i (by omega) ?_
          refine x_nm (fun U33 hU33 => ?_)
          have e34 := up_f hU33
          refine hK 0 _ [] U33 ?_
          have e35 : U33 105 0 9 = (T1 105 0 9) + 1 := up_f hU33
          refine ih_0 _ ?_ U33 (Nat.le_refl _) ?_ ?_ ?_
          · have hm_0 := hm_0 (); omega
          · exact fr_u (fr_t (fr_0 _ _) (fr_s hf_0 rfl)) hU33 rfl
          · omega
          · have e0 := hf_0 500 0 (T1 105 0 9) rfl
            rw [up_f hU33]
            exact rp9_s i2 (show l ≤ T 500 0 (T1 105 0 9) ∧ T 500 0 (T1 105 0 9) ≤ h by omega)
  refine c_0 _ T (Nat.le_refl _) ?_ ?_ ?_
  · exact fr_0 _ _
  · omega
  · exact rp9_z
