-- spans, told exactly
/-- v is the last below m of those that are p's, or -1 -/
def lpz_ (T : Zt) (p m v : Int) : Prop := (v = -1 ∧ ∀ j, 0 ≤ j → j < m → T 217 0 j ≠ p) ∨ (0 ≤ v ∧ v < m ∧ T 217 0 v = p ∧ ∀ j, v < j → j < m → T 217 0 j ≠ p)
/-- both sides keep the same spans; the house's are chained by person -/
def SPR_ (T : Zt) : Prop := T 108 0 5 = T 111 0 16 ∧ (∀ s, 0 ≤ s → s < T 108 0 5 → T 566 0 s = T 218 0 s ∧ T 567 0 s = T 219 0 s ∧ T 568 0 s = T 220 0 s) ∧ (∀ p, 0 ≤ p → p < T 108 0 3 → lpz_ T p (T 108 0 5) (T 564 0 p)) ∧ (∀ s, 0 ≤ s → s < T 108 0 5 → lpz_ T (T 217 0 s) s (T 569 0 s)) ∧ (∀ s, 0 ≤ s → s < T 108 0 5 → 0 ≤ T 217 0 s ∧ T 217 0 s < T 108 0 3)
/-- from m on no span of p meets a to b -/
def FSP_ (T : Zt) (p a b m : Int) : Prop := ∀ j, m ≤ j → j < T 108 0 5 → T 217 0 j = p → ¬ (T 567 0 j ≤ b ∧ a ≤ T 568 0 j)
theorem lpz_lt {T : Zt} {p m v : Int} (h : lpz_ T p m v) (hv : v ≠ -1) : 0 ≤ v ∧ v < m ∧ T 217 0 v = p := by
  rcases h with h | h
  · exact absurd h.1 hv
  · exact ⟨h.1, h.2.1, h.2.2.1⟩
theorem lpz_n {T : Zt} {p m v : Int} (hs : SPR_ T) (h : lpz_ T p m v) (hv : v ≠ -1) (hm : m ≤ T 108 0 5) : lpz_ T p v (T 569 0 v) := by
  obtain ⟨h1, h2, h3⟩ := lpz_lt h hv
  have h4 := hs.2.2.2.1 v h1 (by omega)
  rw [h3] at h4
  exact h4
theorem fsp_z {T : Zt} {p a b : Int} : FSP_ T p a b (T 108 0 5) := fun j h1 h2 => by omega
theorem fsp_s {T : Zt} {p a b m v : Int} (h : lpz_ T p m v) (hf : FSP_ T p a b m) (hv : v ≠ -1) (hn : ¬ (T 567 0 v ≤ b ∧ a ≤ T 568 0 v)) : FSP_ T p a b v := fun j h1 h2 h3 => by
  rcases h with h | ⟨_, _, _, h4⟩
  · exact absurd h.1 hv
  · by_cases e : j = v
    · rw [e]
      exact hn
    · by_cases g : j < m
      · exact absurd h3 (h4 j (by omega) g)
      · exact hf j (by omega) h2 h3
theorem fsp_0 {T : Zt} {p a b m v : Int} (h : lpz_ T p m v) (hf : FSP_ T p a b m) (hv : v = -1 ∨ m ≤ 0) : FSP_ T p a b 0 := fun j h1 h2 h3 => by
  by_cases g : m ≤ j
  · exact hf j g h2 h3
  · rcases h with ⟨_, h4⟩ | ⟨h5, h6, _⟩
    · exact absurd h3 (h4 j h1 (by omega))
    · exfalso
      omega
theorem fsp_1 {T : Zt} {p a b m v : Int} (h : lpz_ T p m v) (hv : v ≠ -1) (hm : m ≤ T 108 0 5) (h1 : T 567 0 v ≤ b) (h2 : a ≤ T 568 0 v) : ¬ FSP_ T p a b 0 := fun hf => by
  obtain ⟨g1, g2, g3⟩ := lpz_lt h hv
  exact hf v g1 (by omega) g3 ⟨h1, h2⟩
/-- a span more, the house's -/
def AS_ (T T' : Zt) (p cl a b : Int) : Prop := T' 108 0 5 = T 108 0 5 + 1 ∧ (T' 566 0 (T 108 0 5) = cl ∧ T' 567 0 (T 108 0 5) = a ∧ T' 568 0 (T 108 0 5) = b ∧ T' 569 0 (T 108 0 5) = T 564 0 p ∧ T' 564 0 p = T 108 0 5) ∧ (∀ j, j ≠ T 108 0 5 → T' 566 0 j = T 566 0 j ∧ T' 567 0 j = T 567 0 j ∧ T' 568 0 j = T 568 0 j ∧ T' 569 0 j = T 569 0 j) ∧ (∀ j, j ≠ p → T' 564 0 j = T 564 0 j)
theorem as_e {T : Zt} {p cl a b : Int} : AS_ T (up_ (up_ (up_ (up_ (up_ (up_ T 566 0 (T 108 0 5) cl) 567 0 (T 108 0 5) a) 568 0 (T 108 0 5) b) 569 0 (T 108 0 5) (T 564 0 p)) 564 0 p (T 108 0 5)) 108 0 5 (T 108 0 5 + 1)) p cl a b := by
  refine ⟨?_, ⟨?_, ?_, ?_, ?_, ?_⟩, fun j hj => ⟨?_, ?_, ?_, ?_⟩, fun j hj => ?_⟩ <;> simp [up_] <;> (intro e; exact absurd e hj)
/-- a span more, the reference's -/
def AM_ (T T' : Zt) (p cl a b : Int) : Prop := T' 111 0 16 = T 111 0 16 + 1 ∧ (T' 217 0 (T 111 0 16) = p ∧ T' 218 0 (T 111 0 16) = cl ∧ T' 219 0 (T 111 0 16) = a ∧ T' 220 0 (T 111 0 16) = b) ∧ (∀ j, j ≠ T 111 0 16 → T' 217 0 j = T 217 0 j ∧ T' 218 0 j = T 218 0 j ∧ T' 219 0 j = T 219 0 j ∧ T' 220 0 j = T 220 0 j)
theorem am_e {T : Zt} {p cl a b : Int} : AM_ T (up_ (up_ (up_ (up_ (up_ T 217 0 (T 111 0 16) p) 218 0 (T 111 0 16) cl) 219 0 (T 111 0 16) a) 220 0 (T 111 0 16) b) 111 0 16 (T 111 0 16 + 1)) p cl a b := by
  refine ⟨?_, ⟨?_, ?_, ?_, ?_⟩, fun j hj => ⟨?_, ?_, ?_, ?_⟩⟩ <;> simp [up_] <;> (intro e; exact absurd e hj)
/-- below m no span of p meets a to b, the reference's -/
def FSR_ (T : Zt) (p a b m : Int) : Prop := ∀ j, 0 ≤ j → j < m → T 217 0 j = p → ¬ (T 219 0 j ≤ b ∧ a ≤ T 220 0 j)
theorem fsr_s {T : Zt} {p a b s : Int} (h : FSR_ T p a b s) (hn : ¬ (T 217 0 s = p ∧ T 219 0 s ≤ b ∧ a ≤ T 220 0 s)) : FSR_ T p a b (s + 1) := fun j h1 h2 h3 h4 => by
  by_cases e : j = s
  · rw [e] at h3 h4
    exact hn ⟨h3, h4⟩
  · exact h j h1 (by omega) h3 h4
theorem fsr_m {T : Zt} {p a b s n : Int} (h : FSR_ T p a b s) (e : n ≤ s) : FSR_ T p a b n := fun j h1 h2 => h j h1 (by omega)
theorem fsr_w {T : Zt} {p a b s n : Int} (h0 : 0 ≤ s) (h1 : s < n) (h2 : T 217 0 s = p) (h3 : T 219 0 s ≤ b) (h4 : a ≤ T 220 0 s) : ¬ FSR_ T p a b n := fun h => h s h0 h1 h2 ⟨h3, h4⟩
theorem fs_eq {T : Zt} {p a b : Int} (h : SPR_ T) : FSP_ T p a b 0 ↔ FSR_ T p a b (T 111 0 16) := by
  obtain ⟨e, h1, -⟩ := h
  constructor
  · intro g j a1 a2 a3
    obtain ⟨-, e2, e3⟩ := h1 j a1 (by omega)
    rw [← e2, ← e3]
    exact g j a1 (by omega) a3
  · intro g j a1 a2 a3
    obtain ⟨-, e2, e3⟩ := h1 j a1 a2
    rw [e2, e3]
    exact g j a1 (by omega) a3
abbrev OKP_ (p cl np nc : Int) : Prop := 0 ≤ p ∧ p < np ∧ 0 ≤ cl ∧ cl < nc
abbrev OKD_ (a b : Int) : Prop := 0 ≤ a ∧ a ≤ 999 ∧ 0 ≤ b ∧ b ≤ 999 ∧ a ≤ b
def QR_ (T T' : Zt) (p cl a b x : Int) : Prop := (x = -2 ∧ ¬ OKP_ p cl (T 108 0 3) (T 108 0 2) ∧ T' = T) ∨ (x = -3 ∧ OKP_ p cl (T 108 0 3) (T 108 0 2) ∧ ¬ OKD_ a b ∧ T' = T) ∨ (x = -4 ∧ OKP_ p cl (T 108 0 3) (T 108 0 2) ∧ OKD_ a b ∧ ¬ FSP_ T p a b 0 ∧ T' = T) ∨ (x = -5 ∧ OKP_ p cl (T 108 0 3) (T 108 0 2) ∧ OKD_ a b ∧ FSP_ T p a b 0 ∧ T 108 0 5 = 300 ∧ T' = T) ∨ (x = T 108 0 5 + 1 ∧ OKP_ p cl (T 108 0 3) (T 108 0 2) ∧ OKD_ a b ∧ FSP_ T p a b 0 ∧ T 108 0 5 < 300 ∧ AS_ T T' p cl a b)
def QM_ (T T' : Zt) (p cl a b x : Int) : Prop := (x = -2 ∧ ¬ OKP_ p cl (T 111 0 15) (T 111 0 12) ∧ T' = T) ∨ (x = -3 ∧ OKP_ p cl (T 111 0 15) (T 111 0 12) ∧ ¬ OKD_ a b ∧ T' = T) ∨ (x = -4 ∧ OKP_ p cl (T 111 0 15) (T 111 0 12) ∧ OKD_ a b ∧ ¬ FSR_ T p a b (T 111 0 16) ∧ T' = T) ∨ (x = -5 ∧ OKP_ p cl (T 111 0 15) (T 111 0 12) ∧ OKD_ a b ∧ FSR_ T p a b (T 111 0 16) ∧ T 111 0 16 = 300 ∧ T' = T) ∨ (x = T 111 0 16 + 1 ∧ OKP_ p cl (T 111 0 15) (T 111 0 12) ∧ OKD_ a b ∧ FSR_ T p a b (T 111 0 16) ∧ T 111 0 16 < 300 ∧ AM_ T T' p cl a b)
/-- a person more: the house's chain of it is empty -/
def QP_ (T T' : Zt) (x : Int) : Prop := (T 108 0 3 = 200 ∧ x = -5 ∧ T' = T) ∨ (T 108 0 3 < 200 ∧ x = T 108 0 3 ∧ T' 108 0 3 = T 108 0 3 + 1 ∧ T' 564 0 (T 108 0 3) = -1 ∧ ∀ j, j ≠ T 108 0 3 → T' 564 0 j = T 564 0 j)
theorem qp_e {T : Zt} (h : T 108 0 3 < 200) : QP_ T (up_ (up_ T 564 0 (T 108 0 3) (-1)) 108 0 3 (T 108 0 3 + 1)) (T 108 0 3) := by
  refine Or.inr ⟨h, rfl, ?_, ?_, fun j hj => ?_⟩ <;> simp [up_] <;> (intro e; exact absurd e hj)
abbrev po_X8_isRegisteredWithin_e (T : Zt) (p a b : Int) : Zt → Option Zv → Prop := fun T' r => T = T' ∧ ∃ x : Int, r = some (vI x) ∧ ((x = 1 ∧ ¬ FSP_ T p a b 0) ∨ (x = 0 ∧ FSP_ T p a b 0))
set_option maxHeartbeats 4000000 in
theorem ct_X8_isRegisteredWithin_e {T : Zt} {p a b : Int} (h1 : 0 ≤ p ∧ p < 200) (h2 : p < T 108 0 3) (hsp : SPR_ T) : Ct_ yX8_isRegisteredWithin zX8_isRegisteredWithin T [vR 108 0, vI p, vI a, vI b] (po_X8_isRegisteredWithin_e T p a b) := by
  refine ct_of (by decide) rfl rfl (Nat.le_of_ble_eq_true rfl) (fun hT hav => ?_)
  have hr_p : -2147483648 ≤ p ∧ p ≤ 2147483647 := hav (vI p) (by simp)
  have hr_a : -2147483648 ≤ a ∧ a ≤ 2147483647 := hav (vI a) (by simp)
  have hr_b : -2147483648 ≤ b ∧ b ≤ 2147483647 := hav (vI b) (by simp)
  have hz : zX8_isRegisteredWithin.2.2.2.1 = some .boolean → ∀ (T' : Zt) (x : Int), po_X8_isRegisteredWithin_e T p a b T' (some (vI x)) → 0 ≤ x ∧ x ≤ 1 := fun _ T' x h => by obtain ⟨-, y, e, hy⟩ := h; cases e; omega
  have hb_spans : 0 ≤ T 108 0 5 ∧ T 108 0 5 ≤ 300 := bd_f hT 108 5 (by decide +kernel : (tf_ 108)[5]? = some (0, 0, 0, 300)) 0
  show J_ zX8_isRegisteredWithin T (po_X8_isRegisteredWithin_e T p a b) 0 0 0 [some (vR 108 0), some (vI p), some (vI a), some (vI b), none, none] [] T
  have c_11 : ∀ (nn : Nat) (s : Int) (n : Int) (g : Int), ((300 - n).toNat) ≤ nn → (-1 ≤ s ∧ s ≤ 299 ∧ 0 ≤ n ∧ 0 ≤ g ∧ g + n ≤ T 108 0 5) → (lpz_ T p g s) → (FSP_ T p a b g) → J_ zX8_isRegisteredWithin T (po_X8_isRegisteredWithin_e T p a b) 0 0 11 [some (vR 108 0), some (vI p), some (vI a), some (vI b), some (vI s), some (vI n)] [] T := by
    intro nn
    induction nn using Nat.strongRecOn with
    | _ nn ih_11 =>
      intro s n g hm_11 i1 i2 i3
      refine j_blx (F := fX8) tb_X8 (by decide) bk_X8_isRegisteredWithin_11 bs_X8_isRegisteredWithin_11 hz (fun K hK => ?_)
      refine And.intro (fun c1 => ?_) (fun c1 => ?_)
      · refine hK 64 [some (vR 108 0), some (vI p), some (vI a), some (vI b), some (vI s), some (vI n)] [] T ?_
        refine j_blx (F := fX8) tb_X8 (by decide) bk_X8_isRegisteredWithin_64 bs_X8_isRegisteredWithin_64 hz (fun K hK => ?_)
        refine (show po_X8_isRegisteredWithin_e T p a b T (some (vI 0)) from ?_)
        exact ⟨rfl, _, rfl, by exact Or.inr ⟨rfl, fsp_0 i2 i3 (by omega)⟩⟩
      · have hlt := lpz_lt i2 (by omega)
        refine And.intro (fun c2 => ?_) (fun c2 => ?_)
        · refine hK 64 [some (vR 108 0), some (vI p), some (vI a), some (vI b), some (vI s), some (vI n)] [] T ?_
          refine j_blx (F := fX8) tb_X8 (by decide) bk_X8_isRegisteredWithin_64 bs_X8_isRegisteredWithin_64 hz (fun K hK => ?_)
          refine (show po_X8_isRegisteredWithin_e T p a b T (some (vI 0)) from ?_)
          exact ⟨rfl, _, rfl, by exact Or.inr ⟨rfl, fsp_0 i2 i3 (by omega)⟩⟩
        · refine ix_i (by omega) ?_
          intro b3 b3b
          refine And.intro (fun c4 => ?_) (fun c4 => ?_)
          · refine hK 49 [some (vR 108 0), some (vI p), some (vI a), some (vI b), some (vI s), some (vI n)] [] T ?_
            refine j_blx (F := fX8) tb_X8 (by decide) bk_X8_isRegisteredWithin_49 bs_X8_isRegisteredWithin_49 hz (fun K hK => ?_)
            refine ix_i (by omega) ?_
            intro b5 b5b
            refine rg_i (by omega) ?_
            refine hK 11 [some (vR 108 0), some (vI p), some (vI a), some (vI b), some (vI (T 569 0 s)), some (vI (n + 1))] [] T ?_
            refine ih_11 _ ?_ (T 569 0 s) (n + 1) s (Nat.le_refl _) ?_ ?_ ?_
            · omega
            · omega
            · exact lpz_n hsp i2 (by omega) (by omega)
            · exact fsp_s i2 i3 (by omega) (by omega)
          · refine ix_i (by omega) ?_
            intro b6 b6b
            refine And.intro (fun c7 => ?_) (fun c7 => ?_)
            · refine hK 49 [some (vR 108 0), some (vI p), some (vI a), some (vI b), some (vI s), some (vI n)] [] T ?_
              refine j_blx (F := fX8) tb_X8 (by decide) bk_X8_isRegisteredWithin_49 bs_X8_isRegisteredWithin_49 hz (fun K hK => ?_)
              refine ix_i (by omega) ?_
              intro b8 b8b
              refine rg_i (by omega) ?_
              refine hK 11 [some (vR 108 0), some (vI p), some (vI a), some (vI b), some (vI (T 569 0 s)), some (vI (n + 1))] [] T ?_
              refine ih_11 _ ?_ (T 569 0 s) (n + 1) s (Nat.le_refl _) ?_ ?_ ?_
              · omega
              · omega
              · exact lpz_n hsp i2 (by omega) (by omega)
              · exact fsp_s i2 i3 (by omega) (by omega)
            · refine (show po_X8_isRegisteredWithin_e T p a b T (some (vI 1)) from ?_)
              exact ⟨rfl, _, rfl, by exact Or.inl ⟨rfl, fsp_1 i2 (by omega) (by omega) (by omega) (by omega)⟩⟩
  refine j_blx (F := fX8) tb_X8 (by decide) bk_X8_isRegisteredWithin_0 bs_X8_isRegisteredWithin_0 hz (fun K hK => ?_)
  refine ix_i (by omega) ?_
  intro b9 b9b
  refine hK 11 [some (vR 108 0), some (vI p), some (vI a), some (vI b), some (vI (T 564 0 p)), some (vI 0)] [] T ?_
  refine c_11 _ (T 564 0 p) 0 (T 108 0 5) (Nat.le_refl _) ?_ ?_ ?_
  · omega
  · exact hsp.2.2.1 p (by omega) (by omega)
  · exact fsp_z
abbrev po_X8_addSpan_e (T : Zt) (p cl a b : Int) : Zt → Option Zv → Prop := fun T' r => r = none ∧ fr_ [(108, [5]), (566, []), (567, []), (568, []), (569, []), (564, [])] T T' ∧ (AS_ T T' p cl a b)
set_option maxHeartbeats 4000000 in
theorem ct_X8_addSpan_e {T : Zt} {p cl a b : Int} (h1 : 0 ≤ p ∧ p < 200) (h2 : 0 ≤ cl ∧ cl < 12) (h3 : 0 ≤ a ∧ a ≤ 999) (h4 : 0 ≤ b ∧ b ≤ 999) (h5 : T 108 0 5 < 300) : Ct_ yX8_addSpan zX8_addSpan T [vR 108 0, vI p, vI cl, vI a, vI b] (po_X8_addSpan_e T p cl a b) := by
  refine ct_of (by decide) rfl rfl (Nat.le_of_ble_eq_true rfl) (fun hT hav => ?_)
  have hr_p : -2147483648 ≤ p ∧ p ≤ 2147483647 := hav (vI p) (by simp)
  have hr_cl : -2147483648 ≤ cl ∧ cl ≤ 2147483647 := hav (vI cl) (by simp)
  have hr_a : -2147483648 ≤ a ∧ a ≤ 2147483647 := hav (vI a) (by simp)
  have hr_b : -2147483648 ≤ b ∧ b ≤ 2147483647 := hav (vI b) (by simp)
  have hz : zX8_addSpan.2.2.2.1 = some .boolean → ∀ (T' : Zt) (x : Int), po_X8_addSpan_e T p cl a b T' (some (vI x)) → 0 ≤ x ∧ x ≤ 1 := fun h => by cases h
  have hb_spans : 0 ≤ T 108 0 5 ∧ T 108 0 5 ≤ 300 := bd_f hT 108 5 (by decide +kernel : (tf_ 108)[5]? = some (0, 0, 0, 300)) 0
  show J_ zX8_addSpan T (po_X8_addSpan_e T p cl a b) 0 0 0 [some (vR 108 0), some (vI p), some (vI cl), some (vI a), some (vI b)] [] T
  refine j_blx (F := fX8) tb_X8 (by decide) bk_X8_addSpan_0 bs_X8_addSpan_0 hz (fun K hK => ?_)
  intro b1 b1b
  refine iy_i (by omega) (by omega) ?_
  refine x_nm (fun U2 hU2 => ?_)
  have e3 := up_f hU2
  intro b4 b4b
  have e5 : U2 108 0 5 = T 108 0 5 := up_k hU2 (by decide) 0 5
  rw [e5] at b4 b4b ⊢
  refine iy_i (by omega) (by omega) ?_
  refine x_nm (fun U6 hU6 => ?_)
  have e7 := up_f hU6
  intro b8 b8b
  have e9 : U6 108 0 5 = T 108 0 5 := (up_k hU6 (by decide) 0 5).trans (up_k hU2 (by decide) 0 5)
  rw [e9] at b8 b8b ⊢
  refine iy_i (by omega) (by omega) ?_
  refine x_nm (fun U10 hU10 => ?_)
  have e11 := up_f hU10
  intro b12 b12b
  have e13 : U10 108 0 5 = T 108 0 5 := (up_k hU10 (by decide) 0 5).trans ((up_k hU6 (by decide) 0 5).trans (up_k hU2 (by decide) 0 5))
  rw [e13] at b12 b12b ⊢
  refine ix_i (by omega) ?_
  intro b14 b14b
  have e15 : U10 564 0 p = T 564 0 p := (up_k hU10 (by decide) 0 p).trans ((up_k hU6 (by decide) 0 p).trans (up_k hU2 (by decide) 0 p))
  rw [e15] at b14 b14b ⊢
  refine iy_i (by omega) (by omega) ?_
  refine x_nm (fun U16 hU16 => ?_)
  have e17 := up_f hU16
  intro b18 b18b
  have e19 : U16 108 0 5 = T 108 0 5 := (up_k hU16 (by decide) 0 5).trans ((up_k hU10 (by decide) 0 5).trans ((up_k hU6 (by decide) 0 5).trans (up_k hU2 (by decide) 0 5)))
  rw [e19] at b18 b18b ⊢
  refine iy_i (by omega) (by omega) ?_
  refine x_nm (fun U20 hU20 => ?_)
  have e21 := up_f hU20
  intro b22 b22b
  have e23 : U20 108 0 5 = T 108 0 5 := (up_k hU20 (by decide) 0 5).trans ((up_k hU16 (by decide) 0 5).trans ((up_k hU10 (by decide) 0 5).trans ((up_k hU6 (by decide) 0 5).trans (up_k hU2 (by decide) 0 5))))
  rw [e23] at b22 b22b ⊢
  refine rg_i (by omega) ?_
  refine bd_i (by omega) ?_
  refine x_nm (fun U24 hU24 => ?_)
  have e25 := up_f hU24
  refine (show po_X8_addSpan_e T p cl a b U24 (none) from ?_)
  exact ⟨rfl, fr_u (fr_u (fr_u (fr_u (fr_u (fr_u (fr_0 _ _) hU2 rfl) hU6 rfl) hU10 rfl) hU16 rfl) hU20 rfl) hU24 rfl, by rw [hU24, hU20, hU16, hU10, hU6, hU2]; exact as_e⟩
abbrev po_X10_register_e (T : Zt) (p cl a b : Int) : Zt → Option Zv → Prop := fun T' r => ∃ x : Int, r = some (vI x) ∧ fr_ [(108, [5]), (566, []), (567, []), (568, []), (569, []), (564, [])] T T' ∧ (QR_ T T' p cl a b x)
set_option maxHeartbeats 4000000 in
theorem ct_X10_register_e {T : Zt} {p cl a b : Int} (hsp : SPR_ T) : Ct_ yX10_register zX10_register T [vR 110 0, vI p, vI cl, vI a, vI b] (po_X10_register_e T p cl a b) := by
  refine ct_of (by decide) rfl rfl (Nat.le_of_ble_eq_true rfl) (fun hT hav => ?_)
  have hr_p : -2147483648 ≤ p ∧ p ≤ 2147483647 := hav (vI p) (by simp)
  have hr_cl : -2147483648 ≤ cl ∧ cl ≤ 2147483647 := hav (vI cl) (by simp)
  have hr_a : -2147483648 ≤ a ∧ a ≤ 2147483647 := hav (vI a) (by simp)
  have hr_b : -2147483648 ≤ b ∧ b ≤ 2147483647 := hav (vI b) (by simp)
  have hz : zX10_register.2.2.2.1 = some .boolean → ∀ (T' : Zt) (x : Int), po_X10_register_e T p cl a b T' (some (vI x)) → 0 ≤ x ∧ x ≤ 1 := fun h => by cases h
  have hb_spans : 0 ≤ T 108 0 5 ∧ T 108 0 5 ≤ 300 := bd_f hT 108 5 (by decide +kernel : (tf_ 108)[5]? = some (0, 0, 0, 300)) 0
  have hb_persons : 0 ≤ T 108 0 3 ∧ T 108 0 3 ≤ 200 := bd_f hT 108 3 (by decide +kernel : (tf_ 108)[3]? = some (0, 0, 0, 200)) 0
  have hb_clubs : 0 ≤ T 108 0 2 ∧ T 108 0 2 ≤ 12 := bd_f hT 108 2 (by decide +kernel : (tf_ 108)[2]? = some (0, 0, 0, 12)) 0
  show J_ zX10_register T (po_X10_register_e T p cl a b) 0 0 0 [some (vR 110 0), some (vI p), some (vI cl), some (vI a), some (vI b)] [] T
  refine j_blx (F := fX10) tb_X10 (by decide) bk_X10_register_0 bs_X10_register_0 hz (fun K hK => ?_)
  refine hK 2 [some (vR 110 0), some (vI p), some (vI cl), some (vI a), some (vI b)] [vI p, vR 110 0] T ?_
  refine j_callV (y := yX10_isPerson) (Yc := zX10_isPerson) (rest := []) [vI p] (ct_X10_isPerson (T := T)) cl_X10_134 (qd_c (by decide +kernel)) (by decide) rfl (by decide +kernel) (Nat.le_of_ble_eq_true rfl) (by decide) (by decide) rfl ?_
  rintro _ _ ⟨rfl, x1, rfl, hx1⟩
  show J_ zX10_register T (po_X10_register_e T p cl a b) 0 0 5 [some (vR 110 0), some (vI p), some (vI cl), some (vI a), some (vI b)] [vI x1] T
  refine j_blx (F := fX10) tb_X10 (by decide) bk_X10_register_5 bs_X10_register_5 hz (fun K hK => ?_)
  refine And.intro (fun c2 => ?_) (fun c2 => ?_)
  · refine hK 16 [some (vR 110 0), some (vI p), some (vI cl), some (vI a), some (vI b)] [] T ?_
    refine j_blx (F := fX10) tb_X10 (by decide) bk_X10_register_16 bs_X10_register_16 hz (fun K hK => ?_)
    refine (show po_X10_register_e T p cl a b T (some (vI (-2))) from ?_)
    exact ⟨_, rfl, fr_0 _ _, Or.inl ⟨rfl, by omega, rfl⟩⟩
  · refine hK 10 [some (vR 110 0), some (vI p), some (vI cl), some (vI a), some (vI b)] [vI cl, vR 110 0] T ?_
    refine j_callV (y := yX10_isClub) (Yc := zX10_isClub) (rest := []) [vI cl] (ct_X10_isClub (T := T)) cl_X10_137 (qd_c (by decide +kernel)) (by decide) rfl (by decide +kernel) (Nat.le_of_ble_eq_true rfl) (by decide) (by decide) rfl ?_
    rintro _ _ ⟨rfl, x3, rfl, hx3⟩
    show J_ zX10_register T (po_X10_register_e T p cl a b) 0 0 13 [some (vR 110 0), some (vI p), some (vI cl), some (vI a), some (vI b)] [vI x3] T
    refine j_blx (F := fX10) tb_X10 (by decide) bk_X10_register_13 bs_X10_register_13 hz (fun K hK => ?_)
    refine And.intro (fun c4 => ?_) (fun c4 => ?_)
    · refine hK 19 [some (vR 110 0), some (vI p), some (vI cl), some (vI a), some (vI b)] [] T ?_
      refine j_blx (F := fX10) tb_X10 (by decide) bk_X10_register_19 bs_X10_register_19 hz (fun K hK => ?_)
      refine hK 20 [some (vR 110 0), some (vI p), some (vI cl), some (vI a), some (vI b)] [vI a] T ?_
      refine j_callS (y := yX10_isDay) (Yc := zX10_isDay) (rest := []) [vI a] (ct_X10_isDay (T := T)) cl_X10_140 (qd_c (by decide +kernel)) (by decide) rfl (by decide +kernel) (Nat.le_of_ble_eq_true rfl) (by decide) (by decide) rfl ?_
      rintro _ _ ⟨rfl, x5, rfl, hx5⟩
      show J_ zX10_register T (po_X10_register_e T p cl a b) 0 0 23 [some (vR 110 0), some (vI p), some (vI cl), some (vI a), some (vI b)] [vI x5] T
      refine j_blx (F := fX10) tb_X10 (by decide) bk_X10_register_23 bs_X10_register_23 hz (fun K hK => ?_)
      refine And.intro (fun c6 => ?_) (fun c6 => ?_)
      · refine hK 40 [some (vR 110 0), some (vI p), some (vI cl), some (vI a), some (vI b)] [] T ?_
        refine j_blx (F := fX10) tb_X10 (by decide) bk_X10_register_40 bs_X10_register_40 hz (fun K hK => ?_)
        refine (show po_X10_register_e T p cl a b T (some (vI (-3))) from ?_)
        exact ⟨_, rfl, fr_0 _ _, Or.inr (Or.inl ⟨rfl, by omega, by omega, rfl⟩)⟩
      · refine hK 28 [some (vR 110 0), some (vI p), some (vI cl), some (vI a), some (vI b)] [vI b] T ?_
        refine j_callS (y := yX10_isDay) (Yc := zX10_isDay) (rest := []) [vI b] (ct_X10_isDay (T := T)) cl_X10_140 (qd_c (by decide +kernel)) (by decide) rfl (by decide +kernel) (Nat.le_of_ble_eq_true rfl) (by decide) (by decide) rfl ?_
        rintro _ _ ⟨rfl, x7, rfl, hx7⟩
        show J_ zX10_register T (po_X10_register_e T p cl a b) 0 0 31 [some (vR 110 0), some (vI p), some (vI cl), some (vI a), some (vI b)] [vI x7] T
        refine j_blx (F := fX10) tb_X10 (by decide) bk_X10_register_31 bs_X10_register_31 hz (fun K hK => ?_)
        refine And.intro (fun c8 => ?_) (fun c8 => ?_)
        · refine hK 40 [some (vR 110 0), some (vI p), some (vI cl), some (vI a), some (vI b)] [] T ?_
          refine j_blx (F := fX10) tb_X10 (by decide) bk_X10_register_40 bs_X10_register_40 hz (fun K hK => ?_)
          refine (show po_X10_register_e T p cl a b T (some (vI (-3))) from ?_)
          exact ⟨_, rfl, fr_0 _ _, Or.inr (Or.inl ⟨rfl, by omega, by omega, rfl⟩)⟩
        · refine And.intro (fun c9 => ?_) (fun c9 => ?_)
          · refine hK 43 [some (vR 110 0), some (vI p), some (vI cl), some (vI a), some (vI b)] [] T ?_
            refine j_blx (F := fX10) tb_X10 (by decide) bk_X10_register_43 bs_X10_register_43 hz (fun K hK => ?_)
            refine hK 51 [some (vR 110 0), some (vI p), some (vI cl), some (vI a), some (vI b)] [vI b, vI a, vI p, vR 108 0] T ?_
            refine j_callV (y := yX8_isRegisteredWithin) (Yc := zX8_isRegisteredWithin) (rest := []) [vI p, vI a, vI b] (ct_X8_isRegisteredWithin_e (T := T) (by omega) (by omega) (hsp)) cl_X10_143 (qd_c (by decide +kernel)) (by decide) rfl (by decide +kernel) (Nat.le_of_ble_eq_true rfl) (by decide) (by decide) rfl ?_
            rintro _ _ ⟨rfl, x10, rfl, hx10⟩
            show J_ zX10_register T (po_X10_register_e T p cl a b) 0 0 54 [some (vR 110 0), some (vI p), some (vI cl), some (vI a), some (vI b)] [vI x10] T
            have hreg := hx10
            refine j_blx (F := fX10) tb_X10 (by decide) bk_X10_register_54 bs_X10_register_54 hz (fun K hK => ?_)
            refine And.intro (fun c11 => ?_) (fun c11 => ?_)
            · refine hK 60 [some (vR 110 0), some (vI p), some (vI cl), some (vI a), some (vI b)] [] T ?_
              refine j_blx (F := fX10) tb_X10 (by decide) bk_X10_register_60 bs_X10_register_60 hz (fun K hK => ?_)
              intro b12 b12b
              refine And.intro (fun c13 => ?_) (fun c13 => ?_)
              · refine hK 76 [some (vR 110 0), some (vI p), some (vI cl), some (vI a), some (vI b)] [] T ?_
                refine j_blx (F := fX10) tb_X10 (by decide) bk_X10_register_76 bs_X10_register_76 hz (fun K hK => ?_)
                refine hK 85 [some (vR 110 0), some (vI p), some (vI cl), some (vI a), some (vI b)] [vI b, vI a, vI cl, vI p, vR 108 0] T ?_
                refine j_callV (y := yX8_addSpan) (Yc := zX8_addSpan) (rest := []) [vI p, vI cl, vI a, vI b] (ct_X8_addSpan_e (T := T) (by omega) (by omega) (by omega) (by omega) (by omega)) cl_X10_150 (qd_c (by decide +kernel)) (by decide) rfl (by decide +kernel) (Nat.le_of_ble_eq_true rfl) (by decide) (by decide) rfl ?_
                rintro U14 _ ⟨rfl, fU14, qU14⟩
                show J_ zX10_register T (po_X10_register_e T p cl a b) 0 0 88 [some (vR 110 0), some (vI p), some (vI cl), some (vI a), some (vI b)] [] U14
                refine j_blx (F := fX10) tb_X10 (by decide) bk_X10_register_88 bs_X10_register_88 hz (fun K hK => ?_)
                intro b15 b15b
                refine (show po_X10_register_e T p cl a b U14 (some (vI (U14 108 0 5))) from ?_)
                exact ⟨_, rfl, fr_t (fr_0 _ _) (fr_s fU14 rfl), Or.inr (Or.inr (Or.inr (Or.inr ⟨qU14.1, by omega, by omega, (hreg.elim (fun h => absurd h.1 (by omega)) (fun h => h.2)), by omega, qU14⟩)))⟩
              · refine (show po_X10_register_e T p cl a b T (some (vI (-5))) from ?_)
                exact ⟨_, rfl, fr_0 _ _, Or.inr (Or.inr (Or.inr (Or.inl ⟨rfl, by omega, by omega, (hreg.elim (fun h => absurd h.1 (by omega)) (fun h => h.2)), by omega, rfl⟩)))⟩
            · refine (show po_X10_register_e T p cl a b T (some (vI (-4))) from ?_)
              exact ⟨_, rfl, fr_0 _ _, Or.inr (Or.inr (Or.inl ⟨rfl, by omega, by omega, (hreg.elim (fun h => h.2) (fun h => absurd h.1 (by omega))), rfl⟩))⟩
          · refine (show po_X10_register_e T p cl a b T (some (vI (-3))) from ?_)
            exact ⟨_, rfl, fr_0 _ _, Or.inr (Or.inl ⟨rfl, by omega, by omega, rfl⟩)⟩
    · refine (show po_X10_register_e T p cl a b T (some (vI (-2))) from ?_)
      exact ⟨_, rfl, fr_0 _ _, Or.inl ⟨rfl, by omega, rfl⟩⟩
abbrev po_X10_person_e (T : Zt) : Zt → Option Zv → Prop := fun T' r => ∃ x : Int, r = some (vI x) ∧ fr_ [(108, [3]), (564, [])] T T' ∧ (QP_ T T' x)
set_option maxHeartbeats 4000000 in
theorem ct_X10_person_e {T : Zt} : Ct_ yX10_person zX10_person T [vR 110 0] (po_X10_person_e T) := by
  refine ct_of (by decide) rfl rfl (Nat.le_of_ble_eq_true rfl) (fun hT hav => ?_)
  have hz : zX10_person.2.2.2.1 = some .boolean → ∀ (T' : Zt) (x : Int), po_X10_person_e T T' (some (vI x)) → 0 ≤ x ∧ x ≤ 1 := fun h => by cases h
  have hb_persons : 0 ≤ T 108 0 3 ∧ T 108 0 3 ≤ 200 := bd_f hT 108 3 (by decide +kernel : (tf_ 108)[3]? = some (0, 0, 0, 200)) 0
  show J_ zX10_person T (po_X10_person_e T) 0 0 0 [some (vR 110 0), none] [] T
  refine j_blx (F := fX10) tb_X10 (by decide) bk_X10_person_0 bs_X10_person_0 hz (fun K hK => ?_)
  intro b1 b1b
  refine And.intro (fun c2 => ?_) (fun c2 => ?_)
  · refine hK 16 [some (vR 110 0), none] [] T ?_
    refine j_blx (F := fX10) tb_X10 (by decide) bk_X10_person_16 bs_X10_person_16 hz (fun K hK => ?_)
    intro b3 b3b
    refine iy_i (by omega) (by omega) ?_
    refine x_nm (fun U4 hU4 => ?_)
    have e5 := up_f hU4
    intro b6 b6b
    have e7 : U4 108 0 3 = T 108 0 3 := up_k hU4 (by decide) 0 3
    rw [e7] at b6 b6b ⊢
    refine rg_i (by omega) ?_
    refine bd_i (by omega) ?_
    refine x_nm (fun U8 hU8 => ?_)
    have e9 := up_f hU8
    refine (show po_X10_person_e T U8 (some (vI (T 108 0 3))) from ?_)
    exact ⟨_, rfl, fr_u (fr_u (fr_0 _ _) hU4 rfl) hU8 rfl, by rw [hU8, hU4]; exact qp_e (by omega)⟩
  · refine (show po_X10_person_e T T (some (vI (-5))) from ?_)
    exact ⟨_, rfl, fr_0 _ _, Or.inl ⟨by omega, rfl, rfl⟩⟩
abbrev po_X11_register_e (T : Zt) (p c f t : Int) : Zt → Option Zv → Prop := fun T' r => ∃ x : Int, r = some (vI x) ∧ fr_ [(111, [16]), (217, []), (218, []), (219, []), (220, [])] T T' ∧ (QM_ T T' p c f t x)
set_option maxHeartbeats 4000000 in
theorem ct_X11_register_e {T : Zt} {p c f t : Int} : Ct_ yX11_register zX11_register T [vR 111 0, vI p, vI c, vI f, vI t] (po_X11_register_e T p c f t) := by
  refine ct_of (by decide) rfl rfl (Nat.le_of_ble_eq_true rfl) (fun hT hav => ?_)
  have hr_p : -2147483648 ≤ p ∧ p ≤ 2147483647 := hav (vI p) (by simp)
  have hr_c : -2147483648 ≤ c ∧ c ≤ 2147483647 := hav (vI c) (by simp)
  have hr_f : -2147483648 ≤ f ∧ f ≤ 2147483647 := hav (vI f) (by simp)
  have hr_t : -2147483648 ≤ t ∧ t ≤ 2147483647 := hav (vI t) (by simp)
  have hz : zX11_register.2.2.2.1 = some .boolean → ∀ (T' : Zt) (x : Int), po_X11_register_e T p c f t T' (some (vI x)) → 0 ≤ x ∧ x ≤ 1 := fun h => by cases h
  have hb_16 : 0 ≤ T 111 0 16 ∧ T 111 0 16 ≤ 300 := bd_f hT 111 16 (by decide +kernel : (tf_ 111)[16]? = some (0, 0, 0, 300)) 0
  have hb_15 : 0 ≤ T 111 0 15 ∧ T 111 0 15 ≤ 200 := bd_f hT 111 15 (by decide +kernel : (tf_ 111)[15]? = some (0, 0, 0, 200)) 0
  have hb_12 : 0 ≤ T 111 0 12 ∧ T 111 0 12 ≤ 12 := bd_f hT 111 12 (by decide +kernel : (tf_ 111)[12]? = some (0, 0, 0, 12)) 0
  show J_ zX11_register T (po_X11_register_e T p c f t) 0 0 0 [some (vR 111 0), some (vI p), some (vI c), some (vI f), some (vI t), none] [] T
  have c_60 : ∀ (nn : Nat) (s : Int), ((300 - s).toNat) ≤ nn → (0 ≤ s) → (OKP_ p c (T 111 0 15) (T 111 0 12) ∧ OKD_ f t) → (FSR_ T p f t s) → J_ zX11_register T (po_X11_register_e T p c f t) 0 0 60 [some (vR 111 0), some (vI p), some (vI c), some (vI f), some (vI t), some (vI s)] [] T := by
    intro nn
    induction nn using Nat.strongRecOn with
    | _ nn ih_60 =>
      intro s hm_60 i1 i2 i3
      refine j_blx (F := fX11) tb_X11 (by decide) bk_X11_register_60 bs_X11_register_60 hz (fun K hK => ?_)
      intro b1 b1b
      refine And.intro (fun c2 => ?_) (fun c2 => ?_)
      · refine hK 112 [some (vR 111 0), some (vI p), some (vI c), some (vI f), some (vI t), some (vI s)] [] T ?_
        refine j_blx (F := fX11) tb_X11 (by decide) bk_X11_register_112 bs_X11_register_112 hz (fun K hK => ?_)
        intro b3 b3b
        refine And.intro (fun c4 => ?_) (fun c4 => ?_)
        · refine hK 125 [some (vR 111 0), some (vI p), some (vI c), some (vI f), some (vI t), some (vI s)] [] T ?_
          refine j_blx (F := fX11) tb_X11 (by decide) bk_X11_register_125 bs_X11_register_125 hz (fun K hK => ?_)
          intro b5 b5b
          refine iy_i (by omega) (by omega) ?_
          refine x_nm (fun U6 hU6 => ?_)
          have e7 := up_f hU6
          intro b8 b8b
          have e9 : U6 111 0 16 = T 111 0 16 := up_k hU6 (by decide) 0 16
          rw [e9] at b8 b8b ⊢
          refine iy_i (by omega) (by omega) ?_
          refine x_nm (fun U10 hU10 => ?_)
          have e11 := up_f hU10
          intro b12 b12b
          have e13 : U10 111 0 16 = T 111 0 16 := (up_k hU10 (by decide) 0 16).trans (up_k hU6 (by decide) 0 16)
          rw [e13] at b12 b12b ⊢
          refine iy_i (by omega) (by omega) ?_
          refine x_nm (fun U14 hU14 => ?_)
          have e15 := up_f hU14
          intro b16 b16b
          have e17 : U14 111 0 16 = T 111 0 16 := (up_k hU14 (by decide) 0 16).trans ((up_k hU10 (by decide) 0 16).trans (up_k hU6 (by decide) 0 16))
          rw [e17] at b16 b16b ⊢
          refine iy_i (by omega) (by omega) ?_
          refine x_nm (fun U18 hU18 => ?_)
          have e19 := up_f hU18
          intro b20 b20b
          have e21 : U18 111 0 16 = T 111 0 16 := (up_k hU18 (by decide) 0 16).trans ((up_k hU14 (by decide) 0 16).trans ((up_k hU10 (by decide) 0 16).trans (up_k hU6 (by decide) 0 16)))
          rw [e21] at b20 b20b ⊢
          refine rg_i (by omega) ?_
          refine bd_i (by omega) ?_
          refine x_nm (fun U22 hU22 => ?_)
          have e23 := up_f hU22
          intro b24 b24b
          have e25 : U22 111 0 16 = (T 111 0 16) + 1 := up_f hU22
          rw [e25] at b24 b24b ⊢
          refine (show po_X11_register_e T p c f t U22 (some (vI ((T 111 0 16) + 1))) from ?_)
          exact ⟨_, rfl, fr_u (fr_u (fr_u (fr_u (fr_u (fr_0 _ _) hU6 rfl) hU10 rfl) hU14 rfl) hU18 rfl) hU22 rfl, Or.inr (Or.inr (Or.inr (Or.inr ⟨by omega, by omega, by omega, fsr_m i3 (by omega), by omega, by rw [hU22, hU18, hU14, hU10, hU6]; exact am_e⟩)))⟩
        · refine (show po_X11_register_e T p c f t T (some (vI (-5))) from ?_)
          exact ⟨_, rfl, fr_0 _ _, Or.inr (Or.inr (Or.inr (Or.inl ⟨rfl, by omega, by omega, fsr_m i3 (by omega), by omega, rfl⟩)))⟩
      · refine ix_i (by omega) ?_
        intro b26 b26b
        refine And.intro (fun c27 => ?_) (fun c27 => ?_)
        · refine hK 106 [some (vR 111 0), some (vI p), some (vI c), some (vI f), some (vI t), some (vI s)] [] T ?_
          refine j_blx (F := fX11) tb_X11 (by decide) bk_X11_register_106 bs_X11_register_106 hz (fun K hK => ?_)
          refine rg_i (by omega) ?_
          refine hK 60 [some (vR 111 0), some (vI p), some (vI c), some (vI f), some (vI t), some (vI (s + 1))] [] T ?_
          refine ih_60 _ ?_ (s + 1) (Nat.le_refl _) ?_ ?_ ?_
          · omega
          · omega
          · omega
          · exact fsr_s i3 (by omega)
        · refine ix_i (by omega) ?_
          intro b28 b28b
          refine And.intro (fun c29 => ?_) (fun c29 => ?_)
          · refine hK 106 [some (vR 111 0), some (vI p), some (vI c), some (vI f), some (vI t), some (vI s)] [] T ?_
            refine j_blx (F := fX11) tb_X11 (by decide) bk_X11_register_106 bs_X11_register_106 hz (fun K hK => ?_)
            refine rg_i (by omega) ?_
            refine hK 60 [some (vR 111 0), some (vI p), some (vI c), some (vI f), some (vI t), some (vI (s + 1))] [] T ?_
            refine ih_60 _ ?_ (s + 1) (Nat.le_refl _) ?_ ?_ ?_
            · omega
            · omega
            · omega
            · exact fsr_s i3 (by omega)
          · refine ix_i (by omega) ?_
            intro b30 b30b
            refine And.intro (fun c31 => ?_) (fun c31 => ?_)
            · refine hK 106 [some (vR 111 0), some (vI p), some (vI c), some (vI f), some (vI t), some (vI s)] [] T ?_
              refine j_blx (F := fX11) tb_X11 (by decide) bk_X11_register_106 bs_X11_register_106 hz (fun K hK => ?_)
              refine rg_i (by omega) ?_
              refine hK 60 [some (vR 111 0), some (vI p), some (vI c), some (vI f), some (vI t), some (vI (s + 1))] [] T ?_
              refine ih_60 _ ?_ (s + 1) (Nat.le_refl _) ?_ ?_ ?_
              · omega
              · omega
              · omega
              · exact fsr_s i3 (by omega)
            · refine (show po_X11_register_e T p c f t T (some (vI (-4))) from ?_)
              exact ⟨_, rfl, fr_0 _ _, Or.inr (Or.inr (Or.inl ⟨rfl, by omega, by omega, fsr_w (s := s) (by omega) (by omega) (by omega) (by omega) (by omega), rfl⟩))⟩
  refine j_blx (F := fX11) tb_X11 (by decide) bk_X11_register_0 bs_X11_register_0 hz (fun K hK => ?_)
  intro b32 b32b
  refine hK 5 [some (vR 111 0), some (vI p), some (vI c), some (vI f), some (vI t), none] [vI (T 111 0 15), vI p] T ?_
  refine j_callS (y := yX11_isOf) (Yc := zX11_isOf) (rest := []) [vI p, vI (T 111 0 15)] (ct_X11_isOf (T := T) (by omega)) cl_X11_317 (qd_c (by decide +kernel)) (by decide) rfl (by decide +kernel) (Nat.le_of_ble_eq_true rfl) (by decide) (by decide) rfl ?_
  rintro _ _ ⟨rfl, x33, rfl, hx33⟩
  show J_ zX11_register T (po_X11_register_e T p c f t) 0 0 8 [some (vR 111 0), some (vI p), some (vI c), some (vI f), some (vI t), none] [vI x33] T
  refine j_blx (F := fX11) tb_X11 (by decide) bk_X11_register_8 bs_X11_register_8 hz (fun K hK => ?_)
  refine And.intro (fun c34 => ?_) (fun c34 => ?_)
  · refine hK 22 [some (vR 111 0), some (vI p), some (vI c), some (vI f), some (vI t), none] [] T ?_
    refine j_blx (F := fX11) tb_X11 (by decide) bk_X11_register_22 bs_X11_register_22 hz (fun K hK => ?_)
    refine (show po_X11_register_e T p c f t T (some (vI (-2))) from ?_)
    exact ⟨_, rfl, fr_0 _ _, Or.inl ⟨rfl, by omega, rfl⟩⟩
  · intro b35 b35b
    refine hK 16 [some (vR 111 0), some (vI p), some (vI c), some (vI f), some (vI t), none] [vI (T 111 0 12), vI c] T ?_
    refine j_callS (y := yX11_isOf) (Yc := zX11_isOf) (rest := []) [vI c, vI (T 111 0 12)] (ct_X11_isOf (T := T) (by omega)) cl_X11_317 (qd_c (by decide +kernel)) (by decide) rfl (by decide +kernel) (Nat.le_of_ble_eq_true rfl) (by decide) (by decide) rfl ?_
    rintro _ _ ⟨rfl, x36, rfl, hx36⟩
    show J_ zX11_register T (po_X11_register_e T p c f t) 0 0 19 [some (vR 111 0), some (vI p), some (vI c), some (vI f), some (vI t), none] [vI x36] T
    refine j_blx (F := fX11) tb_X11 (by decide) bk_X11_register_19 bs_X11_register_19 hz (fun K hK => ?_)
    refine And.intro (fun c37 => ?_) (fun c37 => ?_)
    · refine hK 25 [some (vR 111 0), some (vI p), some (vI c), some (vI f), some (vI t), none] [] T ?_
      refine j_blx (F := fX11) tb_X11 (by decide) bk_X11_register_25 bs_X11_register_25 hz (fun K hK => ?_)
      refine hK 30 [some (vR 111 0), some (vI p), some (vI c), some (vI f), some (vI t), none] [vI 999, vI 0, vI f] T ?_
      refine j_callS (y := yX11_in) (Yc := zX11_in) (rest := []) [vI f, vI 0, vI 999] (ct_X11_in (T := T)) cl_X11_255 (qd_c (by decide +kernel)) (by decide) rfl (by decide +kernel) (Nat.le_of_ble_eq_true rfl) (by decide) (by decide) rfl ?_
      rintro _ _ ⟨rfl, x38, rfl, hx38⟩
      show J_ zX11_register T (po_X11_register_e T p c f t) 0 0 33 [some (vR 111 0), some (vI p), some (vI c), some (vI f), some (vI t), none] [vI x38] T
      refine j_blx (F := fX11) tb_X11 (by decide) bk_X11_register_33 bs_X11_register_33 hz (fun K hK => ?_)
      refine And.intro (fun c39 => ?_) (fun c39 => ?_)
      · refine hK 54 [some (vR 111 0), some (vI p), some (vI c), some (vI f), some (vI t), none] [] T ?_
        refine j_blx (F := fX11) tb_X11 (by decide) bk_X11_register_54 bs_X11_register_54 hz (fun K hK => ?_)
        refine (show po_X11_register_e T p c f t T (some (vI (-3))) from ?_)
        exact ⟨_, rfl, fr_0 _ _, Or.inr (Or.inl ⟨rfl, by omega, by omega, rfl⟩)⟩
      · refine hK 42 [some (vR 111 0), some (vI p), some (vI c), some (vI f), some (vI t), none] [vI 999, vI 0, vI t] T ?_
        refine j_callS (y := yX11_in) (Yc := zX11_in) (rest := []) [vI t, vI 0, vI 999] (ct_X11_in (T := T)) cl_X11_255 (qd_c (by decide +kernel)) (by decide) rfl (by decide +kernel) (Nat.le_of_ble_eq_true rfl) (by decide) (by decide) rfl ?_
        rintro _ _ ⟨rfl, x40, rfl, hx40⟩
        show J_ zX11_register T (po_X11_register_e T p c f t) 0 0 45 [some (vR 111 0), some (vI p), some (vI c), some (vI f), some (vI t), none] [vI x40] T
        refine j_blx (F := fX11) tb_X11 (by decide) bk_X11_register_45 bs_X11_register_45 hz (fun K hK => ?_)
        refine And.intro (fun c41 => ?_) (fun c41 => ?_)
        · refine hK 54 [some (vR 111 0), some (vI p), some (vI c), some (vI f), some (vI t), none] [] T ?_
          refine j_blx (F := fX11) tb_X11 (by decide) bk_X11_register_54 bs_X11_register_54 hz (fun K hK => ?_)
          refine (show po_X11_register_e T p c f t T (some (vI (-3))) from ?_)
          exact ⟨_, rfl, fr_0 _ _, Or.inr (Or.inl ⟨rfl, by omega, by omega, rfl⟩)⟩
        · refine And.intro (fun c42 => ?_) (fun c42 => ?_)
          · refine hK 57 [some (vR 111 0), some (vI p), some (vI c), some (vI f), some (vI t), none] [] T ?_
            refine j_blx (F := fX11) tb_X11 (by decide) bk_X11_register_57 bs_X11_register_57 hz (fun K hK => ?_)
            refine hK 60 [some (vR 111 0), some (vI p), some (vI c), some (vI f), some (vI t), some (vI 0)] [] T ?_
            refine c_60 _ 0 (Nat.le_refl _) ?_ ?_ ?_
            · omega
            · omega
            · exact fun j a b => by omega
          · refine (show po_X11_register_e T p c f t T (some (vI (-3))) from ?_)
            exact ⟨_, rfl, fr_0 _ _, Or.inr (Or.inl ⟨rfl, by omega, by omega, rfl⟩)⟩
    · refine (show po_X11_register_e T p c f t T (some (vI (-2))) from ?_)
      exact ⟨_, rfl, fr_0 _ _, Or.inl ⟨rfl, by omega, rfl⟩⟩

