-- spans, told exactly
/-- v is the last below m of those that are p's, or -1 -/
def lpz_ (T : Zt) (p m v : Int) : Prop := (v = -1 ∧ ∀ j, 0 ≤ j → j < m → T 217 0 j ≠ p) ∨ (0 ≤ v ∧ v < m ∧ T 217 0 v = p ∧ ∀ j, v < j → j < m → T 217 0 j ≠ p)
/-- both sides keep the same spans; the house's are chained by person -/
def SPR_ (T : Zt) : Prop := T 108 0 5 = T 111 0 16 ∧ (∀ s, 0 ≤ s → s < T 108 0 5 → T 566 0 s = T 218 0 s ∧ T 567 0 s = T 219 0 s ∧ T 568 0 s = T 220 0 s) ∧ (∀ p, 0 ≤ p → p < T 108 0 3 → lpz_ T p (T 108 0 5) (T 564 0 p)) ∧ (∀ s, 0 ≤ s → s < T 108 0 5 → lpz_ T (T 217 0 s) s (T 569 0 s)) ∧ (∀ s, 0 ≤ s → s < T 108 0 5 → 0 ≤ T 217 0 s ∧ T 217 0 s < T 108 0 3)
/-- from m on no span of p meets a to b -/
def FSP_ (T : Zt) (p a b m : Int) : Prop := ∀ j, m ≤ j → j < T 108 0 5 → T 217 0 j = p → ¬ (T 567 0 j ≤ b ∧ a ≤ T 568 0 j)
theorem lpz_lt {T : Zt} {p m v : Int} (h : lpz_ T p m v) (hv : v ≠ -1) : 0 ≤ v ∧ v < m ∧ T 217 0 v = p := by
  rcases h with h | h
  · exact absurd h.1 hv
  · exact ⟨h.1, h.2.1, h.2.2.1⟩
theorem lpz_n {T : Zt} {p m v : Int} (hs : SPR_ T) (h : lpz_ T p m v) (hv : v ≠ -1) (hm : m ≤ T 108 0 5) : lpz_ T p v (T 569 0 v) := by
  obtain ⟨h1, h2, h3⟩ := lpz_lt h hv
  have h4 := hs.2.2.2.1 v h1 (by omega)
  rw [h3] at h4
  exact h4
theorem fsp_z {T : Zt} {p a b : Int} : FSP_ T p a b (T 108 0 5) := fun j h1 h2 => by omega
theorem fsp_s {T : Zt} {p a b m v : Int} (h : lpz_ T p m v) (hf : FSP_ T p a b m) (hv : v ≠ -1) (hn : ¬ (T 567 0 v ≤ b ∧ a ≤ T 568 0 v)) : FSP_ T p a b v := fun j h1 h2 h3 => by
  rcases h with h | ⟨_, _, _, h4⟩
  · exact absurd h.1 hv
  · by_cases e : j = v
    · rw [e]
      exact hn
    · by_cases g : j < m
      · exact absurd h3 (h4 j (by omega) g)
      · exact hf j (by omega) h2 h3
theorem fsp_0 {T : Zt} {p a b m v : Int} (h : lpz_ T p m v) (hf : FSP_ T p a b m) (hv : v = -1 ∨ m ≤ 0) : FSP_ T p a b 0 := fun j h1 h2 h3 => by
  by_cases g : m ≤ j
  · exact hf j g h2 h3
  · rcases h with ⟨_, h4⟩ | ⟨h5, h6, _⟩
    · exact absurd h3 (h4 j h1 (by omega))
    · exfalso
      omega
theorem fsp_1 {T : Zt} {p a b m v : Int} (h : lpz_ T p m v) (hv : v ≠ -1) (hm : m ≤ T 108 0 5) (h1 : T 567 0 v ≤ b) (h2 : a ≤ T 568 0 v) : ¬ FSP_ T p a b 0 := fun hf => by
  obtain ⟨g1, g2, g3⟩ := lpz_lt h hv
  exact hf v g1 (by omega) g3 ⟨h1, h2⟩
/-- a span more, the house's -/
def AS_ (T T' : Zt) (p cl a b : Int) : Prop := T' 108 0 5 = T 108 0 5 + 1 ∧ (T' 566 0 (T 108 0 5) = cl ∧ T' 567 0 (T 108 0 5) = a ∧ T' 568 0 (T 108 0 5) = b ∧ T' 569 0 (T 108 0 5) = T 564 0 p ∧ T' 564 0 p = T 108 0 5) ∧ (∀ j, j ≠ T 108 0 5 → T' 566 0 j = T 566 0 j ∧ T' 567 0 j = T 567 0 j ∧ T' 568 0 j = T 568 0 j ∧ T' 569 0 j = T 569 0 j) ∧ (∀ j, j ≠ p → T' 564 0 j = T 564 0 j)
theorem as_e {T : Zt} {p cl a b : Int} : AS_ T (up_ (up_ (up_ (up_ (up_ (up_ T 566 0 (T 108 0 5) cl) 567 0 (T 108 0 5) a) 568 0 (T 108 0 5) b) 569 0 (T 108 0 5) (T 564 0 p)) 564 0 p (T 108 0 5)) 108 0 5 (T 108 0 5 + 1)) p cl a b := by
  refine ⟨?_, ⟨?_, ?_, ?_, ?_, ?_⟩, fun j hj => ⟨?_, ?_, ?_, ?_⟩, fun j hj => ?_⟩ <;> simp [up_] <;> (intro e; exact absurd e hj)
/-- a span more, the reference's -/
def AM_ (T T' : Zt) (p cl a b : Int) : Prop := T' 111 0 16 = T 111 0 16 + 1 ∧ (T' 217 0 (T 111 0 16) = p ∧ T' 218 0 (T 111 0 16) = cl ∧ T' 219 0 (T 111 0 16) = a ∧ T' 220 0 (T 111 0 16) = b) ∧ (∀ j, j ≠ T 111 0 16 → T' 217 0 j = T 217 0 j ∧ T' 218 0 j = T 218 0 j ∧ T' 219 0 j = T 219 0 j ∧ T' 220 0 j = T 220 0 j)
theorem am_e {T : Zt} {p cl a b : Int} : AM_ T (up_ (up_ (up_ (up_ (up_ T 217 0 (T 111 0 16) p) 218 0 (T 111 0 16) cl) 219 0 (T 111 0 16) a) 220 0 (T 111 0 16) b) 111 0 16 (T 111 0 16 + 1)) p cl a b := by
  refine ⟨?_, ⟨?_, ?_, ?_, ?_⟩, fun j hj => ⟨?_, ?_, ?_, ?_⟩⟩ <;> simp [up_] <;> (intro e; exact absurd e hj)
/-- below m no span of p meets a to b, the reference's -/
def FSR_ (T : Zt) (p a b m : Int) : Prop := ∀ j, 0 ≤ j → j < m → T 217 0 j = p → ¬ (T 219 0 j ≤ b ∧ a ≤ T 220 0 j)
theorem fsr_s {T : Zt} {p a b s : Int} (h : FSR_ T p a b s) (hn : ¬ (T 217 0 s = p ∧ T 219 0 s ≤ b ∧ a ≤ T 220 0 s)) : FSR_ T p a b (s + 1) := fun j h1 h2 h3 h4 => by
  by_cases e : j = s
  · rw [e] at h3 h4
    exact hn ⟨h3, h4⟩
  · exact h j h1 (by omega) h3 h4
theorem fsr_m {T : Zt} {p a b s n : Int} (h : FSR_ T p a b s) (e : n ≤ s) : FSR_ T p a b n := fun j h1 h2 => h j h1 (by omega)
theorem fsr_w {T : Zt} {p a b s n : Int} (h0 : 0 ≤ s) (h1 : s < n) (h2 : T 217 0 s = p) (h3 : T 219 0 s ≤ b) (h4 : a ≤ T 220 0 s) : ¬ FSR_ T p a b n := fun h => h s h0 h1 h2 ⟨h3, h4⟩
theorem fs_eq {T : Zt} {p a b : Int} (h : SPR_ T) : FSP_ T p a b 0 ↔ FSR_ T p a b (T 111 0 16) := by
  obtain ⟨e, h1, -⟩ := h
  constructor
  · intro g j a1 a2 a3
    obtain ⟨-, e2, e3⟩ := h1 j a1 (by omega)
    rw [← e2, ← e3]
    exact g j a1 (by omega) a3
  · intro g j a1 a2 a3
    obtain ⟨-, e2, e3⟩ := h1 j a1 a2
    rw [e2, e3]
    exact g j a1 (by omega) a3
abbrev OKP_ (p cl np nc : Int) : Prop := 0 ≤ p ∧ p < np ∧ 0 ≤ cl ∧ cl < nc
abbrev OKD_ (a b : Int) : Prop := 0 ≤ a ∧ a ≤ 999 ∧ 0 ≤ b ∧ b ≤ 999 ∧ a ≤ b
def QR_ (T T' : Zt) (p cl a b x : Int) : Prop := (x = -2 ∧ ¬ OKP_ p cl (T 108 0 3) (T 108 0 2) ∧ T' = T) ∨ (x = -3 ∧ OKP_ p cl (T 108 0 3) (T 108 0 2) ∧ ¬ OKD_ a b ∧ T' = T) ∨ (x = -4 ∧ OKP_ p cl (T 108 0 3) (T 108 0 2) ∧ OKD_ a b ∧ ¬ FSP_ T p a b 0 ∧ T' = T) ∨ (x = -5 ∧ OKP_ p cl (T 108 0 3) (T 108 0 2) ∧ OKD_ a b ∧ FSP_ T p a b 0 ∧ T 108 0 5 = 300 ∧ T' = T) ∨ (x = T 108 0 5 + 1 ∧ OKP_ p cl (T 108 0 3) (T 108 0 2) ∧ OKD_ a b ∧ FSP_ T p a b 0 ∧ T 108 0 5 < 300 ∧ AS_ T T' p cl a b)
def QM_ (T T' : Zt) (p cl a b x : Int) : Prop := (x = -2 ∧ ¬ OKP_ p cl (T 111 0 15) (T 111 0 12) ∧ T' = T) ∨ (x = -3 ∧ OKP_ p cl (T 111 0 15) (T 111 0 12) ∧ ¬ OKD_ a b ∧ T' = T) ∨ (x = -4 ∧ OKP_ p cl (T 111 0 15) (T 111 0 12) ∧ OKD_ a b ∧ ¬ FSR_ T p a b (T 111 0 16) ∧ T' = T) ∨ (x = -5 ∧ OKP_ p cl (T 111 0 15) (T 111 0 12) ∧ OKD_ a b ∧ FSR_ T p a b (T 111 0 16) ∧ T 111 0 16 = 300 ∧ T' = T) ∨ (x = T 111 0 16 + 1 ∧ OKP_ p cl (T 111 0 15) (T 111 0 12) ∧ OKD_ a b ∧ FSR_ T p a b (T 111 0 16) ∧ T 111 0 16 < 300 ∧ AM_ T T' p cl a b)
/-- a person more: the house's chain of it is empty -/
def QP_ (T T' : Zt) (x : Int) : Prop := (T 108 0 3 = 200 ∧ x = -5 ∧ T' = T) ∨ (T 108 0 3 < 200 ∧ x = T 108 0 3 ∧ T' 108 0 3 = T 108 0 3 + 1 ∧ T' 564 0 (T 108 0 3) = -1 ∧ ∀ j, j ≠ T 108 0 3 → T' 564 0 j = T 564 0 j)
theorem qp_e {T : Zt} (h : T 108 0 3 < 200) : QP_ T (up_ (up_ T 564 0 (T 108 0 3) (-1)) 108 0 3 (T 108 0 3 + 1)) (T 108 0 3) := by
  refine Or.inr ⟨h, rfl, ?_, ?_, fun j hj => ?_⟩ <;> simp [up_] <;> (intro e; exact absurd e hj)
abbrev po_X8_isRegisteredWithin_e (T : Zt) (p a b : Int) : Zt → Option Zv → Prop := fun T' r => T = T' ∧ ∃ x : Int, r = some (vI x) ∧ ((x = 1 ∧ ¬ FSP_ T p a b 0) ∨ (x = 0 ∧ FSP_ T p a b 0))
set_option maxHeartbeats 4000000 in
theorem ct_X8_isRegisteredWithin_e {T : Zt} {p a b : Int} (h1 : 0 ≤ p ∧ p < 200) (h2 : p < T 108 0 3) (hsp : SPR_ T) : Ct_ yX8_isRegisteredWithin zX8_isRegisteredWithin T [vR 108 0, vI p, vI a, vI b] (po_X8_isRegisteredWithin_e T p a b) := by
  refine ct_of pn_8 rfl rfl (Nat.le_of_ble_eq_true rfl) (fun hT hav => ?_)
  have hr_p : -2147483648 ≤ p ∧ p ≤ 2147483647 := hav (vI p) (by simp)
  have hr_a : -2147483648 ≤ a ∧ a ≤ 2147483647 := hav (vI a) (by simp)
  have hr_b : -2147483648 ≤ b ∧ b ≤ 2147483647 := hav (vI b) (by simp)
  have hz : zX8_isRegisteredWithin.2.2.2.1 = some .boolean → ∀ (T' : Zt) (x : Int), po_X8_isRegisteredWithin_e T p a b T' (some (vI x)) → 0 ≤ x ∧ x ≤ 1 := fun _ T' x h => by obtain ⟨-, y, e, hy⟩ := h; cases e; omega
  have hb_spans : 0 ≤ T 108 0 5 ∧ T 108 0 5 ≤ 300 := bd_f hT 108 5 (by decide +kernel : (tf_ 108)[5]? = some (0, 0, 0, 300)) 0
  show J_ zX8_isRegisteredWithin T (po_X8_isRegisteredWithin_e T p a b) 0 0 0 [some (vR 108 0), some (vI p), some (vI a), some (vI b), none, none] [] T
  have c_11 : ∀ (nn : Nat) (s : Int) (n : Int) (g : Int), ((300 - n).toNat) ≤ nn → (-1 ≤ s ∧ s ≤ 299 ∧ 0 ≤ n ∧ 0 ≤ g ∧ g + n ≤ T 108 0 5) → (lpz_ T p g s) → (FSP_ T p a b g) → J_ zX8_isRegisteredWithin T (po_X8_isRegisteredWithin_e T p a b) 0 0 11 [some (vR 108 0), some (vI p), some (vI a), some (vI b), some (vI s), some (vI n)] [] T := by
    intro nn
    induction nn using Nat.strongRecOn with
    | _ nn ih_11 =>
      intro s n g hm_11 i1 i2 i3
      refine j_blx (F := fX8) tb_X8 (nn_ _) bk_X8_isRegisteredWithin_11 bs_X8_isRegisteredWithin_11 hz (fun K hK => ?_)
      refine And.intro (fun c1 => ?_) (fun c1 => ?_)
      · refine hK 64 _ [] T ?_
        refine j_blx (F := fX8) tb_X8 (nn_ _) bk_X8_isRegisteredWithin_64 bs_X8_isRegisteredWithin_64 hz (fun K hK => ?_)
        refine (show po_X8_isRegisteredWithin_e T p a b T (some (vI 0)) from ?_)
        exact ⟨rfl, _, rfl, by exact Or.inr ⟨rfl, fsp_0 i2 i3 (by omega)⟩⟩
      · have hlt := lpz_lt i2 (by omega)
        refine And.intro (fun c2 => ?_) (fun c2 => ?_)
        · refine hK 64 _ [] T ?_
          refine j_blx (F := fX8) tb_X8 (nn_ _) bk_X8_isRegisteredWithin_64 bs_X8_isRegisteredWithin_64 hz (fun K hK => ?_)
          refine (show po_X8_isRegisteredWithin_e T p a b T (some (vI 0)) from ?_)
          exact ⟨rfl, _, rfl, by exact Or.inr ⟨rfl, fsp_0 i2 i3 (by omega)⟩⟩
        · refine ix_i (by omega) ?_
          intro b3 b3b
          refine And.intro (fun c4 => ?_) (fun c4 => ?_)
          · refine hK 49 _ [] T ?_
            refine j_blx (F := fX8) tb_X8 (nn_ _) bk_X8_isRegisteredWithin_49 bs_X8_isRegisteredWithin_49 hz (fun K hK => ?_)
            refine ix_i (by omega) ?_
            intro b5 b5b
            refine rg_i (by omega) ?_
            refine hK 11 [some (vR 108 0), some (vI p), some (vI a), some (vI b), some (vI (T 569 0 s)), some (vI (n + 1))] [] T ?_
            refine ih_11 _ ?_ (T 569 0 s) (n + 1) s (Nat.le_refl _) ?_ ?_ ?_
            · omega
            · omega
            · exact lpz_n hsp i2 (by omega) (by omega)
            · exact fsp_s i2 i3 (by omega) (by omega)
          · refine ix_i (by omega) ?_
            intro b6 b6b
            refine And.intro (fun c7 => ?_) (fun c7 => ?_)
            · refine hK 49 [some (vR 108 0), some (vI p), some (vI a), some (vI b), some (vI s), some (vI n)] [] T ?_
              refine j_blx (F := fX8) tb_X8 (nn_ _) bk_X8_isRegisteredWithin_49 bs_X8_isRegisteredWithin_49 hz (fun K hK => ?_)
              refine ix_i (by omega) ?_
              intro b8 b8b
              refine rg_i (by omega) ?_
              refine hK 11 [some (vR 108 0), some (vI p), some (vI a), some (vI b), some (vI (T 569 0 s)), some (vI (n + 1))] [] T ?_
              refine ih_11 _ ?_ (T 569 0 s) (n + 1) s (Nat.le_refl _) ?_ ?_ ?_
              · omega
              · omega
              · exact lpz_n hsp i2 (by omega) (by omega)
              · exact fsp_s i2 i3 (by omega) (by omega)
            · refine (show po_X8_isRegisteredWithin_e T p a b T (some (vI 1)) from ?_)
              exact ⟨rfl, _, rfl, by exact Or.inl ⟨rfl, fsp_1 i2 (by omega) (by omega) (by omega) (by omega)⟩⟩
  refine j_blx (F := fX8) tb_X8 (nn_ _) bk_X8_isRegisteredWithin_0 bs_X8_isRegisteredWithin_0 hz (fun K hK => ?_)
  refine ix_i (by omega) ?_
  intro b9 b9b
  refine hK 11 [some (vR 108 0), some (vI p), some (vI a), some (vI b), some (vI (T 564 0 p)), some (vI 0)] [] T ?_
  refine c_11 _ (T 564 0 p) 0 (T 108 0 5) (Nat.le_refl _) ?_ ?_ ?_
  · omega
  · exact hsp.2.2.1 p (by omega) (by omega)
  · exact fsp_z
abbrev po_X8_addSpan_e (T : Zt) (p cl a b : Int) : Zt → Option Zv → Prop := fun T' r => r = none ∧ fr_ [(108, [5]), (566, []), (567, []), (568, []), (569, []), (564, [])] T T' ∧ (AS_ T T' p cl a b)
set_option maxHeartbeats 4000000 in
theorem ct_X8_addSpan_e {T : Zt} {p cl a b : Int} (h1 : 0 ≤ p ∧ p < 200) (h2 : 0 ≤ cl ∧ cl < 12) (h3 : 0 ≤ a ∧ a ≤ 999) (h4 : 0 ≤ b ∧ b ≤ 999) (h5 : T 108 0 5 < 300) : Ct_ yX8_addSpan zX8_addSpan T [vR 108 0, vI p, vI cl, vI a, vI b] (po_X8_addSpan_e T p cl a b) := by
  refine ct_of pn_8 rfl rfl (Nat.le_of_ble_eq_true rfl) (fun hT hav => ?_)
  have hr_p : -2147483648 ≤ p ∧ p ≤ 2147483647 := hav (vI p) (by simp)
  have hr_cl : -2147483648 ≤ cl ∧ cl ≤ 2147483647 := hav (vI cl) (by simp)
  have hr_a : -2147483648 ≤ a ∧ a ≤ 2147483647 := hav (vI a) (by simp)
  have hr_b : -2147483648 ≤ b ∧ b ≤ 2147483647 := hav (vI b) (by simp)
  have hz : zX8_addSpan.2.2.2.1 = some .boolean → ∀ (T' : Zt) (x : Int), po_X8_addSpan_e T p cl a b T' (some (vI x)) → 0 ≤ x ∧ x ≤ 1 := fun h => by cases h
  have hb_spans : 0 ≤ T 108 0 5 ∧ T 108 0 5 ≤ 300 := bd_f hT 108 5 (by decide +kernel : (tf_ 108)[5]? = some (0, 0, 0, 300)) 0
  show J_ zX8_addSpan T (po_X8_addSpan_e T p cl a b) 0 0 0 [some (vR 108 0), some (vI p), some (vI cl), some (vI a), some (vI b)] [] T
  refine j_blx (F := fX8) tb_X8 (nn_ _) bk_X8_addSpan_0 bs_X8_addSpan_0 hz (fun K hK => ?_)
  intro b1 b1b
  refine iy_i (by omega) (by omega) ?_
  refine x_nm (fun U2 hU2 => ?_)
  have e3 := up_f hU2
  intro b4 b4b
  have e5 : U2 108 0 5 = T 108 0 5 := up_k hU2 (by exact Nat.ne_of_beq_eq_false rfl) 0 5
  rw [e5] at b4 b4b ⊢
  refine iy_i (by omega) (by omega) ?_
  refine x_nm (fun U6 hU6 => ?_)
  have e7 := up_f hU6
  intro b8 b8b
  have e9 : U6 108 0 5 = T 108 0 5 := (up_k hU6 (by exact Nat.ne_of_beq_eq_false rfl) 0 5).trans (up_k hU2 (by exact Nat.ne_of_beq_eq_false rfl) 0 5)
  rw [e9] at b8 b8b ⊢
  refine iy_i (by omega) (by omega) ?_
  refine x_nm (fun U10 hU10 => ?_)
  have e11 := up_f hU10
  intro b12 b12b
  have e13 : U10 108 0 5 = T 108 0 5 := (up_k hU10 (by exact Nat.ne_of_beq_eq_false rfl) 0 5).trans ((up_k hU6 (by exact Nat.ne_of_beq_eq_false rfl) 0 5).trans (up_k hU2 (by exact Nat.ne_of_beq_eq_false rfl) 0 5))
  rw [e13] at b12 b12b ⊢
  refine ix_i (by omega) ?_
  intro b14 b14b
  have e15 : U10 564 0 p = T 564 0 p := (up_k hU10 (by exact Nat.ne_of_beq_eq_false rfl) 0 p).trans ((up_k hU6 (by exact Nat.ne_of_beq_eq_false rfl) 0 p).trans (up_k hU2 (by exact Nat.ne_of_beq_eq_false rfl) 0 p))
  rw [e15] at b14 b14b ⊢
  refine iy_i (by omega) (by omega) ?_
  refine x_nm (fun U16 hU16 => ?_)
  have e17 := up_f hU16
  intro b18 b18b
  have e19 : U16 108 0 5 = T 108 0 5 := (up_k hU16 (by exact Nat.ne_of_beq_eq_false rfl) 0 5).trans ((up_k hU10 (by exact Nat.ne_of_beq_eq_false rfl) 0 5).trans ((up_k hU6 (by exact Nat.ne_of_beq_eq_false rfl) 0 5).trans (up_k hU2 (by exact Nat.ne_of_beq_eq_false rfl) 0 5)))
  rw [e19] at b18 b18b ⊢
  refine iy_i (by omega) (by omega) ?_
  refine x_nm (fun U20 hU20 => ?_)
  have e21 := up_f hU20
  intro b22 b22b
  have e23 : U20 108 0 5 = T 108 0 5 := (up_k hU20 (by exact Nat.ne_of_beq_eq_false rfl) 0 5).trans ((up_k hU16 (by exact Nat.ne_of_beq_eq_false rfl) 0 5).trans ((up_k hU10 (by exact Nat.ne_of_beq_eq_false rfl) 0 5).trans ((up_k hU6 (by exact Nat.ne_of_beq_eq_false rfl) 0 5).trans (up_k hU2 (by exact Nat.ne_of_beq_eq_false rfl) 0 5))))
  rw [e23] at b22 b22b ⊢
  refine rg_i (by omega) ?_
  refine bd_i (by omega) ?_
  refine x_nm (fun U24 hU24 => ?_)
  have e25 := up_f hU24
  refine (show po_X8_addSpan_e T p cl a b U24 (none) from ?_)
  exact ⟨rfl, fr_u (fr_u (fr_u (fr_u (fr_u (fr_u (fr_0 _ _) hU2 rfl) hU6 rfl) hU10 rfl) hU16 rfl) hU20 rfl) hU24 rfl, by rw [hU24, hU20, hU16, hU10, hU6, hU2]; exact as_e⟩
abbrev po_X10_register_e (T : Zt) (p cl a b : Int) : Zt → Option Zv → Prop := fun T' r => ∃ x : Int, r = some (vI x) ∧ fr_ [(108, [5]), (566, []), (567, []), (568, []), (569, []), (564, [])] T T' ∧ (QR_ T T' p cl a b x)
set_option maxHeartbeats 4000000 in
theorem ct_X10_register_e {T : Zt} {p cl a b : Int} (hsp : SPR_ T) : Ct_ yX10_register zX10_register T [vR 110 0, vI p, vI cl, vI a, vI b] (po_X10_register_e T p cl a b) := by
  refine ct_of pn_10 rfl rfl (Nat.le_of_ble_eq_true rfl) (fun hT hav => ?_)
  have hr_p : -2147483648 ≤ p ∧ p ≤ 2147483647 := hav (vI p) (by simp)
  have hr_cl : -2147483648 ≤ cl ∧ cl ≤ 2147483647 := hav (vI cl) (by simp)
  have hr_a : -2147483648 ≤ a ∧ a ≤ 2147483647 := hav (vI a) (by simp)
  have hr_b : -2147483648 ≤ b ∧ b ≤ 2147483647 := hav (vI b) (by simp)
  have hz : zX10_register.2.2.2.1 = some .boolean → ∀ (T' : Zt) (x : Int), po_X10_register_e T p cl a b T' (some (vI x)) → 0 ≤ x ∧ x ≤ 1 := fun h => by cases h
  have hb_spans : 0 ≤ T 108 0 5 ∧ T 108 0 5 ≤ 300 := bd_f hT 108 5 (by decide +kernel : (tf_ 108)[5]? = some (0, 0, 0, 300)) 0
  have hb_persons : 0 ≤ T 108 0 3 ∧ T 108 0 3 ≤ 200 := bd_f hT 108 3 (by decide +kernel : (tf_ 108)[3]? = some (0, 0, 0, 200)) 0
  have hb_clubs : 0 ≤ T 108 0 2 ∧ T 108 0 2 ≤ 12 := bd_f hT 108 2 (by decide +kernel : (tf_ 108)[2]? = some (0, 0, 0, 12)) 0
  show J_ zX10_register T (po_X10_register_e T p cl a b) 0 0 0 [some (vR 110 0), some (vI p), some (vI cl), some (vI a), some (vI b)] [] T
  refine j_blx (F := fX10) tb_X10 (nn_ _) bk_X10_register_0 bs_X10_register_0 hz (fun K hK => ?_)
  refine hK 2 _ [vI p, vR 110 0] T ?_
  refine j_callV (y := yX10_isPerson) (Yc := zX10_isPerson) (rest := []) [vI p] (ct_X10_isPerson (T := T)) cl_X10_134 (qd_c (by decide +kernel)) (nn_ _) rfl (rf_of rfl) (Nat.le_of_ble_eq_true rfl) (Nat.le_of_ble_eq_true rfl) (Nat.le_of_ble_eq_true rfl) rfl ?_
  rintro _ _ ⟨rfl, x1, rfl, hx1⟩
  show J_ zX10_register T (po_X10_register_e T p cl a b) 0 0 5 _ [vI x1] T
  refine j_blx (F := fX10) tb_X10 (nn_ _) bk_X10_register_5 bs_X10_register_5 hz (fun K hK => ?_)
  refine And.intro (fun c2 => ?_) (fun c2 => ?_)
  · refine hK 16 _ [] T ?_
    refine j_blx (F := fX10) tb_X10 (nn_ _) bk_X10_register_16 bs_X10_register_16 hz (fun K hK => ?_)
    refine (show po_X10_register_e T p cl a b T (some (vI (-2))) from ?_)
    exact ⟨_, rfl, fr_0 _ _, Or.inl ⟨rfl, by omega, rfl⟩⟩
  · refine hK 10 _ [vI cl, vR 110 0] T ?_
    refine j_callV (y := yX10_isClub) (Yc := zX10_isClub) (rest := []) [vI cl] (ct_X10_isClub (T := T)) cl_X10_137 (qd_c (by decide +kernel)) (nn_ _) rfl (rf_of rfl) (Nat.le_of_ble_eq_true rfl) (Nat.le_of_ble_eq_true rfl) (Nat.le_of_ble_eq_true rfl) rfl ?_
    rintro _ _ ⟨rfl, x3, rfl, hx3⟩
    show J_ zX10_register T (po_X10_register_e T p cl a b) 0 0 13 _ [vI x3] T
    refine j_blx (F := fX10) tb_X10 (nn_ _) bk_X10_register_13 bs_X10_register_13 hz (fun K hK => ?_)
    refine And.intro (fun c4 => ?_) (fun c4 => ?_)
    · refine hK 19 _ [] T ?_
      refine j_blx (F := fX10) tb_X10 (nn_ _) bk_X10_register_19 bs_X10_register_19 hz (fun K hK => ?_)
      refine hK 20 _ [vI a] T ?_
      refine j_callS (y := yX10_isDay) (Yc := zX10_isDay) (rest := []) [vI a] (ct_X10_isDay (T := T)) cl_X10_140 (qd_c (by decide +kernel)) (nn_ _) rfl (rf_of rfl) (Nat.le_of_ble_eq_true rfl) (Nat.le_of_ble_eq_true rfl) (Nat.le_of_ble_eq_true rfl) rfl ?_
      rintro _ _ ⟨rfl, x5, rfl, hx5⟩
      show J_ zX10_register T (po_X10_register_e T p cl a b) 0 0 23 _ [vI x5] T
      refine j_blx (F := fX10) tb_X10 (nn_ _) bk_X10_register_23 bs_X10_register_23 hz (fun K hK => ?_)
      refine And.intro (fun c6 => ?_) (fun c6 => ?_)
      · refine hK 40 _ [] T ?_
        refine j_blx (F := fX10) tb_X10 (nn_ _) bk_X10_register_40 bs_X10_register_40 hz (fun K hK => ?_)
        refine (show po_X10_register_e T p cl a b T (some (vI (-3))) from ?_)
        exact ⟨_, rfl, fr_0 _ _, Or.inr (Or.inl ⟨rfl, by omega, by omega, rfl⟩)⟩
      · refine hK 28 _ [vI b] T ?_
        refine j_callS (y := yX10_isDay) (Yc := zX10_isDay) (rest := []) [vI b] (ct_X10_isDay (T := T)) cl_X10_140 (qd_c (by decide +kernel)) (nn_ _) rfl (rf_of rfl) (Nat.le_of_ble_eq_true rfl) (Nat.le_of_ble_eq_true rfl) (Nat.le_of_ble_eq_true rfl) rfl ?_
        rintro _ _ ⟨rfl, x7, rfl, hx7⟩
        show J_ zX10_register T (po_X10_register_e T p cl a b) 0 0 31 _ [vI x7] T
        refine j_blx (F := fX10) tb_X10 (nn_ _) bk_X10_register_31 bs_X10_register_31 hz (fun K hK => ?_)
        refine And.intro (fun c8 => ?_) (fun c8 => ?_)
        · refine hK 40 _ [] T ?_
          refine j_blx (F := fX10) tb_X10 (nn_ _) bk_X10_register_40 bs_X10_register_40 hz (fun K hK => ?_)
          refine (show po_X10_register_e T p cl a b T (some (vI (-3))) from ?_)
          exact ⟨_, rfl, fr_0 _ _, Or.inr (Or.inl ⟨rfl, by omega, by omega, rfl⟩)⟩
        · refine And.intro (fun c9 => ?_) (fun c9 => ?_)
          · refine hK 43 _ [] T ?_
            refine j_blx (F := fX10) tb_X10 (nn_ _) bk_X10_register_43 bs_X10_register_43 hz (fun K hK => ?_)
            refine hK 51 _ [vI b, vI a, vI p, vR 108 0] T ?_
            refine j_callV (y := yX8_isRegisteredWithin) (Yc := zX8_isRegisteredWithin) (rest := []) [vI p, vI a, vI b] (ct_X8_isRegisteredWithin_e (T := T) (by omega) (by omega) (hsp)) cl_X10_143 (qd_c (by decide +kernel)) (nn_ _) rfl (rf_of rfl) (Nat.le_of_ble_eq_true rfl) (Nat.le_of_ble_eq_true rfl) (Nat.le_of_ble_eq_true rfl) rfl ?_
            rintro _ _ ⟨rfl, x10, rfl, hx10⟩
            show J_ zX10_register T (po_X10_register_e T p cl a b) 0 0 54 _ [vI x10] T
            have hreg := hx10
            refine j_blx (F := fX10) tb_X10 (nn_ _) bk_X10_register_54 bs_X10_register_54 hz (fun K hK => ?_)
            refine And.intro (fun c11 => ?_) (fun c11 => ?_)
            · refine hK 60 _ [] T ?_
              refine j_blx (F := fX10) tb_X10 (nn_ _) bk_X10_register_60 bs_X10_register_60 hz (fun K hK => ?_)
              intro b12 b12b
              refine And.intro (fun c13 => ?_) (fun c13 => ?_)
              · refine hK 76 _ [] T ?_
                refine j_blx (F := fX10) tb_X10 (nn_ _) bk_X10_register_76 bs_X10_register_76 hz (fun K hK => ?_)
                refine hK 85 _ [vI b, vI a, vI cl, vI p, vR 108 0] T ?_
                refine j_callV (y := yX8_addSpan) (Yc := zX8_addSpan) (rest := []) [vI p, vI cl, vI a, vI b] (ct_X8_addSpan_e (T := T) (by omega) (by omega) (by omega) (by omega) (by omega)) cl_X10_150 (qd_c (by decide +kernel)) (nn_ _) rfl (rf_of rfl) (Nat.le_of_ble_eq_true rfl) (Nat.le_of_ble_eq_true rfl) (Nat.le_of_ble_eq_true rfl) rfl ?_
                rintro U14 _ ⟨rfl, fU14, qU14⟩
                show J_ zX10_register T (po_X10_register_e T p cl a b) 0 0 88 _ [] U14
                refine j_blx (F := fX10) tb_X10 (nn_ _) bk_X10_register_88 bs_X10_register_88 hz (fun K hK => ?_)
                intro b15 b15b
                refine (show po_X10_register_e T p cl a b U14 (some (vI (U14 108 0 5))) from ?_)
                exact ⟨_, rfl, fr_t (fr_0 _ _) (fr_s fU14 rfl), Or.inr (Or.inr (Or.inr (Or.inr ⟨qU14.1, by omega, by omega, (hreg.elim (fun h => absurd h.1 (by omega)) (fun h => h.2)), by omega, qU14⟩)))⟩
              · refine (show po_X10_register_e T p cl a b T (some (vI (-5))) from ?_)
                exact ⟨_, rfl, fr_0 _ _, Or.inr (Or.inr (Or.inr (Or.inl ⟨rfl, by omega, by omega, (hreg.elim (fun h => absurd h.1 (by omega)) (fun h => h.2)), by omega, rfl⟩)))⟩
            · refine (show po_X10_register_e T p cl a b T (some (vI (-4))) from ?_)
              exact ⟨_, rfl, fr_0 _ _, Or.inr (Or.inr (Or.inl ⟨rfl, by omega, by omega, (hreg.elim (fun h => h.2) (fun h => absurd h.1 (by omega))), rfl⟩))⟩
          · refine (show po_X10_register_e T p cl a b T (some (vI (-3))) from ?_)
            exact ⟨_, rfl, fr_0 _ _, Or.inr (Or.inl ⟨rfl, by omega, by omega, rfl⟩)⟩
    · refine (show po_X10_register_e T p cl a b T (some (vI (-2))) from ?_)
      exact ⟨_, rfl, fr_0 _ _, Or.inl ⟨rfl, by omega, rfl⟩⟩
abbrev po_X10_person_e (T : Zt) : Zt → Option Zv → Prop := fun T' r => ∃ x : Int, r = some (vI x) ∧ fr_ [(108, [3]), (564, [])] T T' ∧ (QP_ T T' x)
set_option maxHeartbeats 4000000 in
theorem ct_X10_person_e {T : Zt} : Ct_ yX10_person zX10_person T [vR 110 0] (po_X10_person_e T) := by
  refine ct_of pn_10 rfl rfl (Nat.le_of_ble_eq_true rfl) (fun hT hav => ?_)
  have hz : zX10_person.2.2.2.1 = some .boolean → ∀ (T' : Zt) (x : Int), po_X10_person_e T T' (some (vI x)) → 0 ≤ x ∧ x ≤ 1 := fun h => by cases h
  have hb_persons : 0 ≤ T 108 0 3 ∧ T 108 0 3 ≤ 200 := bd_f hT 108 3 (by decide +kernel : (tf_ 108)[3]? = some (0, 0, 0, 200)) 0
  show J_ zX10_person T (po_X10_person_e T) 0 0 0 [some (vR 110 0), none] [] T
  refine j_blx (F := fX10) tb_X10 (nn_ _) bk_X10_person_0 bs_X10_person_0 hz (fun K hK => ?_)
  intro b1 b1b
  refine And.intro (fun c2 => ?_) (fun c2 => ?_)
  · refine hK 16 _ [] T ?_
    refine j_blx (F := fX10) tb_X10 (nn_ _) bk_X10_person_16 bs_X10_person_16 hz (fun K hK => ?_)
    intro b3 b3b
    refine iy_i (by omega) (by omega) ?_
    refine x_nm (fun U4 hU4 => ?_)
    have e5 := up_f hU4
    intro b6 b6b
    have e7 : U4 108 0 3 = T 108 0 3 := up_k hU4 (by exact Nat.ne_of_beq_eq_false rfl) 0 3
    rw [e7] at b6 b6b ⊢
    refine rg_i (by omega) ?_
    refine bd_i (by omega) ?_
    refine x_nm (fun U8 hU8 => ?_)
    have e9 := up_f hU8
    refine (show po_X10_person_e T U8 (some (vI (T 108 0 3))) from ?_)
    exact ⟨_, rfl, fr_u (fr_u (fr_0 _ _) hU4 rfl) hU8 rfl, by rw [hU8, hU4]; exact qp_e (by omega)⟩
  · refine (show po_X10_person_e T T (some (vI (-5))) from ?_)
    exact ⟨_, rfl, fr_0 _ _, Or.inl ⟨by omega, rfl, rfl⟩⟩
abbrev po_X11_register_e (T : Zt) (p c f t : Int) : Zt → Option Zv → Prop := fun T' r => ∃ x : Int, r = some (vI x) ∧ fr_ [(111, [16]), (217, []), (218, []), (219, []), (220, [])] T T' ∧ (QM_ T T' p c f t x)
set_option maxHeartbeats 4000000 in
theorem ct_X11_register_e {T : Zt} {p c f t : Int} : Ct_ yX11_register zX11_register T [vR 111 0, vI p, vI c, vI f, vI t] (po_X11_register_e T p c f t) := by
  refine ct_of pn_11 rfl rfl (Nat.le_of_ble_eq_true rfl) (fun hT hav => ?_)
  have hr_p : -2147483648 ≤ p ∧ p ≤ 2147483647 := hav (vI p) (by simp)
  have hr_c : -2147483648 ≤ c ∧ c ≤ 2147483647 := hav (vI c) (by simp)
  have hr_f : -2147483648 ≤ f ∧ f ≤ 2147483647 := hav (vI f) (by simp)
  have hr_t : -2147483648 ≤ t ∧ t ≤ 2147483647 := hav (vI t) (by simp)
  have hz : zX11_register.2.2.2.1 = some .boolean → ∀ (T' : Zt) (x : Int), po_X11_register_e T p c f t T' (some (vI x)) → 0 ≤ x ∧ x ≤ 1 := fun h => by cases h
  have hb_16 : 0 ≤ T 111 0 16 ∧ T 111 0 16 ≤ 300 := bd_f hT 111 16 (by decide +kernel : (tf_ 111)[16]? = some (0, 0, 0, 300)) 0
  have hb_15 : 0 ≤ T 111 0 15 ∧ T 111 0 15 ≤ 200 := bd_f hT 111 15 (by decide +kernel : (tf_ 111)[15]? = some (0, 0, 0, 200)) 0
  have hb_12 : 0 ≤ T 111 0 12 ∧ T 111 0 12 ≤ 12 := bd_f hT 111 12 (by decide +kernel : (tf_ 111)[12]? = some (0, 0, 0, 12)) 0
  show J_ zX11_register T (po_X11_register_e T p c f t) 0 0 0 [some (vR 111 0), some (vI p), some (vI c), some (vI f), some (vI t), none] [] T
  have c_60 : ∀ (nn : Nat) (s : Int), ((300 - s).toNat) ≤ nn → (0 ≤ s) → (OKP_ p c (T 111 0 15) (T 111 0 12) ∧ OKD_ f t) → (FSR_ T p f t s) → J_ zX11_register T (po_X11_register_e T p c f t) 0 0 60 [some (vR 111 0), some (vI p), some (vI c), some (vI f), some (vI t), some (vI s)] [] T := by
    intro nn
    induction nn using Nat.strongRecOn with
    | _ nn ih_60 =>
      intro s hm_60 i1 i2 i3
      refine j_blx (F := fX11) tb_X11 (nn_ _) bk_X11_register_60 bs_X11_register_60 hz (fun K hK => ?_)
      intro b1 b1b
      refine And.intro (fun c2 => ?_) (fun c2 => ?_)
      · refine hK 112 _ [] T ?_
        refine j_blx (F := fX11) tb_X11 (nn_ _) bk_X11_register_112 bs_X11_register_112 hz (fun K hK => ?_)
        intro b3 b3b
        refine And.intro (fun c4 => ?_) (fun c4 => ?_)
        · refine hK 125 _ [] T ?_
          refine j_blx (F := fX11) tb_X11 (nn_ _) bk_X11_register_125 bs_X11_register_125 hz (fun K hK => ?_)
          intro b5 b5b
          refine iy_i (by omega) (by omega) ?_
          refine x_nm (fun U6 hU6 => ?_)
          have e7 := up_f hU6
          intro b8 b8b
          have e9 : U6 111 0 16 = T 111 0 16 := up_k hU6 (by exact Nat.ne_of_beq_eq_false rfl) 0 16
          rw [e9] at b8 b8b ⊢
          refine iy_i (by omega) (by omega) ?_
          refine x_nm (fun U10 hU10 => ?_)
          have e11 := up_f hU10
          intro b12 b12b
          have e13 : U10 111 0 16 = T 111 0 16 := (up_k hU10 (by exact Nat.ne_of_beq_eq_false rfl) 0 16).trans (up_k hU6 (by exact Nat.ne_of_beq_eq_false rfl) 0 16)
          rw [e13] at b12 b12b ⊢
          refine iy_i (by omega) (by omega) ?_
          refine x_nm (fun U14 hU14 => ?_)
          have e15 := up_f hU14
          intro b16 b16b
          have e17 : U14 111 0 16 = T 111 0 16 := (up_k hU14 (by exact Nat.ne_of_beq_eq_false rfl) 0 16).trans ((up_k hU10 (by exact Nat.ne_of_beq_eq_false rfl) 0 16).trans (up_k hU6 (by exact Nat.ne_of_beq_eq_false rfl) 0 16))
          rw [e17] at b16 b16b ⊢
          refine iy_i (by omega) (by omega) ?_
          refine x_nm (fun U18 hU18 => ?_)
          have e19 := up_f hU18
          intro b20 b20b
          have e21 : U18 111 0 16 = T 111 0 16 := (up_k hU18 (by exact Nat.ne_of_beq_eq_false rfl) 0 16).trans ((up_k hU14 (by exact Nat.ne_of_beq_eq_false rfl) 0 16).trans ((up_k hU10 (by exact Nat.ne_of_beq_eq_false rfl) 0 16).trans (up_k hU6 (by exact Nat.ne_of_beq_eq_false rfl) 0 16)))
          rw [e21] at b20 b20b ⊢
          refine rg_i (by omega) ?_
          refine bd_i (by omega) ?_
          refine x_nm (fun U22 hU22 => ?_)
          have e23 := up_f hU22
          intro b24 b24b
          have e25 : U22 111 0 16 = (T 111 0 16) + 1 := up_f hU22
          rw [e25] at b24 b24b ⊢
          refine (show po_X11_register_e T p c f t U22 (some (vI ((T 111 0 16) + 1))) from ?_)
          exact ⟨_, rfl, fr_u (fr_u (fr_u (fr_u (fr_u (fr_0 _ _) hU6 rfl) hU10 rfl) hU14 rfl) hU18 rfl) hU22 rfl, Or.inr (Or.inr (Or.inr (Or.inr ⟨by omega, by omega, by omega, fsr_m i3 (by omega), by omega, by rw [hU22, hU18, hU14, hU10, hU6]; exact am_e⟩)))⟩
        · refine (show po_X11_register_e T p c f t T (some (vI (-5))) from ?_)
          exact ⟨_, rfl, fr_0 _ _, Or.inr (Or.inr (Or.inr (Or.inl ⟨rfl, by omega, by omega, fsr_m i3 (by omega), by omega, rfl⟩)))⟩
      · refine ix_i (by omega) ?_
        intro b26 b26b
        refine And.intro (fun c27 => ?_) (fun c27 => ?_)
        · refine hK 106 _ [] T ?_
          refine j_blx (F := fX11) tb_X11 (nn_ _) bk_X11_register_106 bs_X11_register_106 hz (fun K hK => ?_)
          refine rg_i (by omega) ?_
          refine hK 60 [some (vR 111 0), some (vI p), some (vI c), some (vI f), some (vI t), some (vI (s + 1))] [] T ?_
          refine ih_60 _ ?_ (s + 1) (Nat.le_refl _) ?_ ?_ ?_
          · omega
          · omega
          · omega
          · exact fsr_s i3 (by omega)
        · refine ix_i (by omega) ?_
          intro b28 b28b
          refine And.intro (fun c29 => ?_) (fun c29 => ?_)
          · refine hK 106 [some (vR 111 0), some (vI p), some (vI c), some (vI f), some (vI t), some (vI s)] [] T ?_
            refine j_blx (F := fX11) tb_X11 (nn_ _) bk_X11_register_106 bs_X11_register_106 hz (fun K hK => ?_)
            refine rg_i (by omega) ?_
            refine hK 60 [some (vR 111 0), some (vI p), some (vI c), some (vI f), some (vI t), some (vI (s + 1))] [] T ?_
            refine ih_60 _ ?_ (s + 1) (Nat.le_refl _) ?_ ?_ ?_
            · omega
            · omega
            · omega
            · exact fsr_s i3 (by omega)
          · refine ix_i (by omega) ?_
            intro b30 b30b
            refine And.intro (fun c31 => ?_) (fun c31 => ?_)
            · refine hK 106 [some (vR 111 0), some (vI p), some (vI c), some (vI f), some (vI t), some (vI s)] [] T ?_
              refine j_blx (F := fX11) tb_X11 (nn_ _) bk_X11_register_106 bs_X11_register_106 hz (fun K hK => ?_)
              refine rg_i (by omega) ?_
              refine hK 60 [some (vR 111 0), some (vI p), some (vI c), some (vI f), some (vI t), some (vI (s + 1))] [] T ?_
              refine ih_60 _ ?_ (s + 1) (Nat.le_refl _) ?_ ?_ ?_
              · omega
              · omega
              · omega
              · exact fsr_s i3 (by omega)
            · refine (show po_X11_register_e T p c f t T (some (vI (-4))) from ?_)
              exact ⟨_, rfl, fr_0 _ _, Or.inr (Or.inr (Or.inl ⟨rfl, by omega, by omega, fsr_w (s := s) (by omega) (by omega) (by omega) (by omega) (by omega), rfl⟩))⟩
  refine j_blx (F := fX11) tb_X11 (nn_ _) bk_X11_register_0 bs_X11_register_0 hz (fun K hK => ?_)
  intro b32 b32b
  refine hK 5 _ [vI (T 111 0 15), vI p] T ?_
  refine j_callS (y := yX11_isOf) (Yc := zX11_isOf) (rest := []) [vI p, vI (T 111 0 15)] (ct_X11_isOf (T := T) (by omega)) cl_X11_317 (qd_c (by decide +kernel)) (nn_ _) rfl (rf_of rfl) (Nat.le_of_ble_eq_true rfl) (Nat.le_of_ble_eq_true rfl) (Nat.le_of_ble_eq_true rfl) rfl ?_
  rintro _ _ ⟨rfl, x33, rfl, hx33⟩
  show J_ zX11_register T (po_X11_register_e T p c f t) 0 0 8 _ [vI x33] T
  refine j_blx (F := fX11) tb_X11 (nn_ _) bk_X11_register_8 bs_X11_register_8 hz (fun K hK => ?_)
  refine And.intro (fun c34 => ?_) (fun c34 => ?_)
  · refine hK 22 _ [] T ?_
    refine j_blx (F := fX11) tb_X11 (nn_ _) bk_X11_register_22 bs_X11_register_22 hz (fun K hK => ?_)
    refine (show po_X11_register_e T p c f t T (some (vI (-2))) from ?_)
    exact ⟨_, rfl, fr_0 _ _, Or.inl ⟨rfl, by omega, rfl⟩⟩
  · intro b35 b35b
    refine hK 16 _ [vI (T 111 0 12), vI c] T ?_
    refine j_callS (y := yX11_isOf) (Yc := zX11_isOf) (rest := []) [vI c, vI (T 111 0 12)] (ct_X11_isOf (T := T) (by omega)) cl_X11_317 (qd_c (by decide +kernel)) (nn_ _) rfl (rf_of rfl) (Nat.le_of_ble_eq_true rfl) (Nat.le_of_ble_eq_true rfl) (Nat.le_of_ble_eq_true rfl) rfl ?_
    rintro _ _ ⟨rfl, x36, rfl, hx36⟩
    show J_ zX11_register T (po_X11_register_e T p c f t) 0 0 19 _ [vI x36] T
    refine j_blx (F := fX11) tb_X11 (nn_ _) bk_X11_register_19 bs_X11_register_19 hz (fun K hK => ?_)
    refine And.intro (fun c37 => ?_) (fun c37 => ?_)
    · refine hK 25 _ [] T ?_
      refine j_blx (F := fX11) tb_X11 (nn_ _) bk_X11_register_25 bs_X11_register_25 hz (fun K hK => ?_)
      refine hK 30 _ [vI 999, vI 0, vI f] T ?_
      refine j_callS (y := yX11_in) (Yc := zX11_in) (rest := []) [vI f, vI 0, vI 999] (ct_X11_in (T := T)) cl_X11_255 (qd_c (by decide +kernel)) (nn_ _) rfl (rf_of rfl) (Nat.le_of_ble_eq_true rfl) (Nat.le_of_ble_eq_true rfl) (Nat.le_of_ble_eq_true rfl) rfl ?_
      rintro _ _ ⟨rfl, x38, rfl, hx38⟩
      show J_ zX11_register T (po_X11_register_e T p c f t) 0 0 33 _ [vI x38] T
      refine j_blx (F := fX11) tb_X11 (nn_ _) bk_X11_register_33 bs_X11_register_33 hz (fun K hK => ?_)
      refine And.intro (fun c39 => ?_) (fun c39 => ?_)
      · refine hK 54 _ [] T ?_
        refine j_blx (F := fX11) tb_X11 (nn_ _) bk_X11_register_54 bs_X11_register_54 hz (fun K hK => ?_)
        refine (show po_X11_register_e T p c f t T (some (vI (-3))) from ?_)
        exact ⟨_, rfl, fr_0 _ _, Or.inr (Or.inl ⟨rfl, by omega, by omega, rfl⟩)⟩
      · refine hK 42 _ [vI 999, vI 0, vI t] T ?_
        refine j_callS (y := yX11_in) (Yc := zX11_in) (rest := []) [vI t, vI 0, vI 999] (ct_X11_in (T := T)) cl_X11_255 (qd_c (by decide +kernel)) (nn_ _) rfl (rf_of rfl) (Nat.le_of_ble_eq_true rfl) (Nat.le_of_ble_eq_true rfl) (Nat.le_of_ble_eq_true rfl) rfl ?_
        rintro _ _ ⟨rfl, x40, rfl, hx40⟩
        show J_ zX11_register T (po_X11_register_e T p c f t) 0 0 45 _ [vI x40] T
        refine j_blx (F := fX11) tb_X11 (nn_ _) bk_X11_register_45 bs_X11_register_45 hz (fun K hK => ?_)
        refine And.intro (fun c41 => ?_) (fun c41 => ?_)
        · refine hK 54 _ [] T ?_
          refine j_blx (F := fX11) tb_X11 (nn_ _) bk_X11_register_54 bs_X11_register_54 hz (fun K hK => ?_)
          refine (show po_X11_register_e T p c f t T (some (vI (-3))) from ?_)
          exact ⟨_, rfl, fr_0 _ _, Or.inr (Or.inl ⟨rfl, by omega, by omega, rfl⟩)⟩
        · refine And.intro (fun c42 => ?_) (fun c42 => ?_)
          · refine hK 57 _ [] T ?_
            refine j_blx (F := fX11) tb_X11 (nn_ _) bk_X11_register_57 bs_X11_register_57 hz (fun K hK => ?_)
            refine hK 60 [some (vR 111 0), some (vI p), some (vI c), some (vI f), some (vI t), some (vI 0)] [] T ?_
            refine c_60 _ 0 (Nat.le_refl _) ?_ ?_ ?_
            · omega
            · omega
            · exact fun j a b => by omega
          · refine (show po_X11_register_e T p c f t T (some (vI (-3))) from ?_)
            exact ⟨_, rfl, fr_0 _ _, Or.inr (Or.inl ⟨rfl, by omega, by omega, rfl⟩)⟩
    · refine (show po_X11_register_e T p c f t T (some (vI (-2))) from ?_)
      exact ⟨_, rfl, fr_0 _ _, Or.inl ⟨rfl, by omega, rfl⟩⟩
-- spans: what keeps them alike
def krc_ (T T' : Zt) : Prop := T' 108 0 5 = T 108 0 5 ∧ (∀ j, T' 566 0 j = T 566 0 j) ∧ (∀ j, T' 567 0 j = T 567 0 j) ∧ (∀ j, T' 568 0 j = T 568 0 j) ∧ (∀ j, T' 569 0 j = T 569 0 j)
def kfs_ (T T' : Zt) : Prop := ∀ j, T' 564 0 j = T 564 0 j
def krm_ (T T' : Zt) : Prop := T' 111 0 16 = T 111 0 16 ∧ (∀ j, T' 217 0 j = T 217 0 j) ∧ (∀ j, T' 218 0 j = T 218 0 j) ∧ (∀ j, T' 219 0 j = T 219 0 j) ∧ (∀ j, T' 220 0 j = T 220 0 j)
theorem krc_r {T : Zt} : krc_ T T := ⟨rfl, fun _ => rfl, fun _ => rfl, fun _ => rfl, fun _ => rfl⟩
theorem kfs_r {T : Zt} : kfs_ T T := fun _ => rfl
theorem krm_r {T : Zt} : krm_ T T := ⟨rfl, fun _ => rfl, fun _ => rfl, fun _ => rfl, fun _ => rfl⟩
theorem krc_t {T T1 T2 : Zt} (a : krc_ T T1) (b : krc_ T1 T2) : krc_ T T2 := ⟨b.1.trans a.1, fun j => (b.2.1 j).trans (a.2.1 j), fun j => (b.2.2.1 j).trans (a.2.2.1 j), fun j => (b.2.2.2.1 j).trans (a.2.2.2.1 j), fun j => (b.2.2.2.2 j).trans (a.2.2.2.2 j)⟩
theorem kfs_t {T T1 T2 : Zt} (a : kfs_ T T1) (b : kfs_ T1 T2) : kfs_ T T2 := fun j => (b j).trans (a j)
theorem krm_t {T T1 T2 : Zt} (a : krm_ T T1) (b : krm_ T1 T2) : krm_ T T2 := ⟨b.1.trans a.1, fun j => (b.2.1 j).trans (a.2.1 j), fun j => (b.2.2.1 j).trans (a.2.2.1 j), fun j => (b.2.2.2.1 j).trans (a.2.2.2.1 j), fun j => (b.2.2.2.2 j).trans (a.2.2.2.2 j)⟩
theorem lpz_c {T T' : Zt} {p m v : Int} (h : lpz_ T p m v) (e : ∀ j, 0 ≤ j → j < m → T' 217 0 j = T 217 0 j) : lpz_ T' p m v := by
  rcases h with ⟨h1, h2⟩ | ⟨h1, h2, h3, h4⟩
  · exact Or.inl ⟨h1, fun j a b => by rw [e j a b]; exact h2 j a b⟩
  · exact Or.inr ⟨h1, h2, by rw [e v h1 h2]; exact h3, fun j a b => by rw [e j (by omega) b]; exact h4 j a b⟩
theorem spr_k {T T' : Zt} (h : SPR_ T) (e : T' 108 0 3 = T 108 0 3) (k : krc_ T T') (f : kfs_ T T') (m : krm_ T T') : SPR_ T' := by
  obtain ⟨h1, h2, h3, h4, h5⟩ := h
  obtain ⟨c0, c1, c2, c3, c4⟩ := k
  obtain ⟨m0, m1, m2, m3, m4⟩ := m
  refine ⟨by omega, fun s a b => ?_, fun p a b => ?_, fun s a b => ?_, fun s a b => ?_⟩
  · rw [c1, c2, c3, m2, m3, m4]
    exact h2 s a (by omega)
  · rw [c0, f p]
    exact lpz_c (h3 p a (by omega)) (fun j _ _ => m1 j)
  · rw [m1 s, c4 s]
    exact lpz_c (h4 s a (by omega)) (fun j _ _ => m1 j)
  · rw [m1 s, e]
    exact h5 s a (by omega)
/-- a person more on the house's side, then on the reference's -/
theorem spr_p {T T1 T2 : Zt} {x : Int} (h : SPR_ T) (q : QP_ T T1 x) (k : krc_ T T1) (m : krm_ T T1) (e2 : T2 108 0 3 = T1 108 0 3) (k2 : krc_ T1 T2) (f2 : kfs_ T1 T2) (m2 : krm_ T1 T2) : SPR_ T2 := by
  refine spr_k (T := T1) ?_ e2 k2 f2 m2
  rcases q with ⟨-, -, rfl⟩ | ⟨q1, q2, q3, q4, q5⟩
  · exact h
  · obtain ⟨h1, h2, h3, h4, h5⟩ := h
    obtain ⟨c0, c1, c2, c3, c4⟩ := k
    obtain ⟨n0, n1, n2, n3, n4⟩ := m
    refine ⟨by omega, fun s a b => ?_, fun p a b => ?_, fun s a b => ?_, fun s a b => ?_⟩
    · rw [c1, c2, c3, n2, n3, n4]
      exact h2 s a (by omega)
    · by_cases ep : p = T 108 0 3
      · subst ep
        rw [q4]
        refine Or.inl ⟨rfl, fun j u v => ?_⟩
        rw [n1 j]
        have := (h5 j u (by omega)).2
        omega
      · rw [c0, q5 p ep]
        exact lpz_c (h3 p a (by omega)) (fun j _ _ => n1 j)
    · rw [n1 s, c4 s]
      exact lpz_c (h4 s a (by omega)) (fun j _ _ => n1 j)
    · rw [n1 s, q3]
      have := h5 s a (by omega)
      omega
/-- a span more on both sides -/
theorem spr_a {T T1 T2 : Zt} {p cl a b : Int} (h : SPR_ T) (hp : 0 ≤ p ∧ p < T 108 0 3) (hn : 0 ≤ T 108 0 5) (A : AS_ T T1 p cl a b) (m : krm_ T T1) (e1 : T1 108 0 3 = T 108 0 3) (B : AM_ T1 T2 p cl a b) (k : krc_ T1 T2) (f : kfs_ T1 T2) (e2 : T2 108 0 3 = T1 108 0 3) : SPR_ T2 := by
  obtain ⟨h1, h2, h3, h4, h5⟩ := h
  obtain ⟨a0, ⟨a1, a2, a3, a4, a5⟩, a6, a7⟩ := A
  obtain ⟨m0, m1, m2, m3, m4⟩ := m
  obtain ⟨c0, c1, c2, c3, c4⟩ := k
  obtain ⟨b0, ⟨b1, b2, b3, b4⟩, b5⟩ := B
  have en : T1 111 0 16 = T 108 0 5 := by omega
  rw [en] at b0 b1 b2 b3 b4 b5
  have r1 : ∀ j, j ≠ T 108 0 5 → T2 217 0 j = T 217 0 j := fun j hj => ((b5 j hj).1).trans (m1 j)
  have lo : ∀ s, s < T 108 0 5 → s ≠ T 108 0 5 := fun s hs => by omega
  refine ⟨by omega, fun s u v => ?_, fun q u v => ?_, fun s u v => ?_, fun s u v => ?_⟩
  · by_cases es : s = T 108 0 5
    · subst es
      rw [c1, c2, c3, a1, a2, a3, b2, b3, b4]
      exact ⟨rfl, rfl, rfl⟩
    · obtain ⟨g1, g2, g3, -⟩ := a6 s es
      obtain ⟨-, g5, g6, g7⟩ := b5 s es
      rw [c1, c2, c3, g1, g2, g3, g5, g6, g7, m2, m3, m4]
      exact h2 s u (by omega)
  · rw [c0, a0, f q]
    by_cases eq : q = p
    · subst eq
      rw [a5]
      exact Or.inr ⟨hn, by omega, b1, fun j x y => by omega⟩
    · rw [a7 q eq]
      rcases h3 q u (by omega) with ⟨g1, g2⟩ | ⟨g1, g2, g3, g4⟩
      · refine Or.inl ⟨g1, fun j x y => ?_⟩
        by_cases ej : j = T 108 0 5
        · rw [ej, b1]
          exact fun z => eq z.symm
        · rw [r1 j ej]
          exact g2 j x (by omega)
      · refine Or.inr ⟨g1, by omega, by rw [r1 _ (lo _ g2)]; exact g3, fun j x y => ?_⟩
        by_cases ej : j = T 108 0 5
        · rw [ej, b1]
          exact fun z => eq z.symm
        · rw [r1 j ej]
          exact g4 j x (by omega)
  · by_cases es : s = T 108 0 5
    · subst es
      rw [b1, c4, a4]
      exact lpz_c (h3 p hp.1 hp.2) (fun j _ y => r1 j (lo j y))
    · rw [r1 s es, c4 s, (a6 s es).2.2.2]
      exact lpz_c (h4 s u (by omega)) (fun j _ y => r1 j (by omega))
  · by_cases es : s = T 108 0 5
    · subst es
      rw [b1]
      omega
    · rw [r1 s es]
      have := h5 s u (by omega)
      omega
/-- register on both sides: the same answer, and the spans stay alike -/
theorem spr_r {T T1 T2 : Zt} {p cl a b x1 x2 : Int} (h : SPR_ T) (hn : 0 ≤ T 108 0 5) (ep : T 108 0 3 = T 111 0 15) (ec : T 108 0 2 = T 111 0 12) (A : QR_ T T1 p cl a b x1) (m : krm_ T T1) (e1 : T1 108 0 3 = T 108 0 3) (e3 : T1 111 0 15 = T 111 0 15) (e4 : T1 111 0 12 = T 111 0 12) (B : QM_ T1 T2 p cl a b x2) (k : krc_ T1 T2) (f : kfs_ T1 T2) (e2 : T2 108 0 3 = T1 108 0 3) : x1 = x2 ∧ SPR_ T2 := by
  have hf := fs_eq (p := p) (a := a) (b := b) h
  have hm : FSR_ T1 p a b (T1 111 0 16) ↔ FSR_ T p a b (T 111 0 16) := by
    obtain ⟨m0, m1, m2, m3, m4⟩ := m
    unfold FSR_
    rw [m0]
    simp only [m1, m3, m4]
  have es := h.1
  have em := m.1
  have keepB : T1 = T → (x2 = -2 ∨ x2 = -3 ∨ x2 = -4 ∨ x2 = -5) → T2 = T1 → SPR_ T2 := fun z _ y => by
    rw [y, z]
    exact h
  rcases A with ⟨A1, A2, rfl⟩ | ⟨A1, A2, A3, rfl⟩ | ⟨A1, A2, A3, A4, rfl⟩ | ⟨A1, A2, A3, A4, A5, rfl⟩ | ⟨A1, A2, A3, A4, A5, A6⟩
  · rcases B with ⟨B1, B2, B3⟩ | ⟨B1, B2, B3⟩ | ⟨B1, B2, B3⟩ | ⟨B1, B2, B3⟩ | ⟨B1, B2, B3⟩
    · exact ⟨by omega, by rw [B3]; exact h⟩
    all_goals exact absurd (show OKP_ p cl (T1 108 0 3) (T1 108 0 2) by rw [ep, ec]; exact B2) A2
  · rcases B with ⟨B1, B2, B3⟩ | ⟨B1, B2, B3, B4⟩ | ⟨B1, B2, B3, B4⟩ | ⟨B1, B2, B3, B4⟩ | ⟨B1, B2, B3, B4⟩
    · exact absurd (show OKP_ p cl (T1 111 0 15) (T1 111 0 12) by rw [← ep, ← ec]; exact A2) B2
    · exact ⟨by omega, by rw [B4]; exact h⟩
    all_goals exact absurd B3 A3
  · rcases B with ⟨B1, B2, B3⟩ | ⟨B1, B2, B3, B4⟩ | ⟨B1, B2, B3, B4, B5⟩ | ⟨B1, B2, B3, B4, B5⟩ | ⟨B1, B2, B3, B4, B5⟩
    · exact absurd (show OKP_ p cl (T1 111 0 15) (T1 111 0 12) by rw [← ep, ← ec]; exact A2) B2
    · exact absurd A3 B3
    · exact ⟨by omega, by rw [B5]; exact h⟩
    all_goals exact absurd (hf.mpr B4) A4
  · rcases B with ⟨B1, B2, B3⟩ | ⟨B1, B2, B3, B4⟩ | ⟨B1, B2, B3, B4, B5⟩ | ⟨B1, B2, B3, B4, B5, B6⟩ | ⟨B1, B2, B3, B4, B5, B6⟩
    · exact absurd (show OKP_ p cl (T1 111 0 15) (T1 111 0 12) by rw [← ep, ← ec]; exact A2) B2
    · exact absurd A3 B3
    · exact absurd (hf.mp A4) B4
    · exact ⟨by omega, by rw [B6]; exact h⟩
    · omega
  · have q1 : OKP_ p cl (T1 111 0 15) (T1 111 0 12) := by
      rw [e3, e4, ← ep, ← ec]
      exact A2
    rcases B with ⟨B1, B2, B3⟩ | ⟨B1, B2, B3, B4⟩ | ⟨B1, B2, B3, B4, B5⟩ | ⟨B1, B2, B3, B4, B5, B6⟩ | ⟨B1, B2, B3, B4, B5, B6⟩
    · exact absurd q1 B2
    · exact absurd A3 B3
    · exact absurd (hm.mpr (hf.mp A4)) B4
    · omega
    · exact ⟨by omega, spr_a h ⟨A2.1, A2.2.1⟩ hn A6 m e1 B6 k f e2⟩
-- each call of the law: what holds between the calls is kept by both sides
def LCla_ : List (Nat × List Int) := [(100, []), (101, []), (102, []), (103, []), (104, []), (105, []), (106, []), (107, []), (108, []), (109, []), (110, []), (150, []), (152, []), (153, []), (190, []), (191, []), (400, []), (401, []), (402, []), (403, []), (404, []), (405, []), (406, []), (407, []), (408, []), (409, []), (410, []), (411, []), (412, []), (413, []), (414, []), (415, []), (416, []), (417, []), (418, []), (419, []), (420, []), (421, []), (422, []), (423, []), (424, []), (425, []), (426, []), (427, []), (428, []), (429, []), (430, []), (431, []), (432, []), (433, []), (434, []), (435, []), (436, []), (437, []), (438, []), (439, []), (440, []), (441, []), (442, []), (443, []), (444, []), (445, []), (446, []), (447, []), (448, []), (449, []), (450, []), (451, []), (452, []), (453, []), (454, []), (455, []), (456, []), (457, []), (458, []), (459, []), (460, []), (461, []), (462, []), (463, []), (464, []), (465, []), (466, []), (467, []), (468, []), (469, []), (470, []), (471, []), (472, []), (473, []), (474, []), (475, []), (476, []), (477, []), (478, []), (479, []), (480, []), (481, []), (482, []), (483, []), (484, []), (485, []), (486, []), (487, []), (488, []), (489, []), (490, []), (491, []), (492, []), (493, []), (494, []), (495, []), (496, []), (497, []), (498, []), (499, []), (500, []), (501, []), (502, []), (503, []), (504, []), (505, []), (506, []), (507, []), (508, []), (509, []), (510, []), (511, []), (512, []), (513, []), (514, []), (515, []), (516, []), (517, []), (518, []), (519, []), (520, []), (521, []), (522, []), (523, []), (524, []), (525, []), (526, []), (527, []), (528, []), (529, []), (530, []), (531, []), (532, []), (533, []), (534, []), (535, []), (536, []), (537, []), (538, []), (539, []), (540, []), (541, []), (542, []), (543, []), (544, []), (545, []), (546, []), (547, []), (548, []), (549, []), (550, []), (551, []), (552, []), (553, []), (554, []), (555, []), (556, []), (557, []), (558, []), (559, []), (560, []), (561, []), (562, []), (563, []), (564, []), (565, []), (566, []), (567, []), (568, []), (569, []), (570, []), (571, []), (572, []), (573, []), (574, []), (575, []), (576, []), (577, []), (578, []), (579, []), (580, []), (581, []), (582, []), (583, []), (584, []), (585, []), (586, []), (587, []), (588, []), (589, []), (590, []), (591, []), (592, []), (593, []), (594, []), (595, []), (596, []), (597, []), (598, []), (599, [])]
def LRef_ : List (Nat × List Int) := [(111, []), (200, []), (201, []), (202, []), (203, []), (204, []), (205, []), (206, []), (207, []), (208, []), (209, []), (210, []), (211, []), (212, []), (213, []), (214, []), (215, []), (216, []), (217, []), (218, []), (219, []), (220, []), (221, []), (222, []), (223, []), (224, []), (225, []), (226, []), (227, []), (228, []), (229, []), (230, []), (231, []), (232, []), (233, []), (234, []), (235, []), (236, []), (237, []), (238, []), (239, []), (240, []), (241, []), (242, []), (243, []), (244, []), (245, []), (246, []), (247, []), (248, []), (249, []), (250, []), (251, []), (252, []), (253, []), (254, []), (255, []), (256, []), (257, []), (258, []), (259, []), (260, []), (261, []), (262, []), (263, []), (264, []), (265, []), (266, []), (267, []), (268, []), (269, []), (270, []), (271, []), (272, []), (273, []), (274, []), (275, []), (276, []), (277, []), (278, []), (279, []), (280, []), (281, []), (282, []), (283, []), (284, []), (285, []), (286, []), (287, []), (288, []), (289, []), (290, []), (291, []), (292, []), (293, []), (294, []), (295, []), (296, []), (297, []), (298, []), (299, []), (300, []), (301, []), (302, []), (303, []), (304, []), (305, []), (306, []), (307, []), (308, []), (309, []), (310, []), (311, []), (312, []), (313, [])]
set_option maxRecDepth 100000 in
set_option maxHeartbeats 4000000 in
theorem ir_g {T T' : Zt} (h : IR_ T) (f : fr_ LCla_ T T') : IR_ T' := by
  exact ⟨CW_f h.1 f ⟨fun _ => rfl, fun _ => rfl, fun _ => rfl, fun _ => rfl, fun _ => rfl⟩, RI__f h.2.1 f ⟨fun _ => rfl, rfl, trivial⟩, RW__f h.2.2.1 f ⟨fun _ => rfl, rfl, trivial⟩, EN__f h.2.2.2.1 f ⟨fun _ => rfl, fun _ => rfl, rfl, trivial⟩, ML__f h.2.2.2.2.1 f ⟨fun _ => rfl, fun _ => rfl, rfl, trivial⟩, MC__f h.2.2.2.2.2.1 f ⟨fun _ => rfl, rfl, rfl, trivial⟩, SH__f h.2.2.2.2.2.2.1 f ⟨fun _ => rfl, fun _ => rfl, fun _ => rfl, rfl, trivial⟩, FM__f h.2.2.2.2.2.2.2.1 f ⟨fun _ => rfl, fun _ => rfl, trivial⟩, rx_f h.2.2.2.2.2.2.2.2.1 (f 111 0 29 rfl) (f 111 0 47 rfl) (fun k j h => f k 0 j (by rcases h with rfl | rfl | rfl | rfl | rfl <;> rfl)), rz_f h.2.2.2.2.2.2.2.2.2.1 (f 111 0 29 rfl) (fun j => f 254 0 j rfl) (fun j => f 256 0 j rfl), ZS__f h.2.2.2.2.2.2.2.2.2.2.1 f ⟨fun _ => rfl, fun _ => rfl, trivial⟩, gx_f (x := -1) (y := -1) h.2.2.2.2.2.2.2.2.2.2.2 f ⟨fun _ => rfl, fun _ => rfl, fun _ => rfl⟩ (fun j _ => f 254 0 j rfl) (Or.inl rfl)⟩
theorem ic_h {N : Int} {ws : List (Nat × List Int)} {T T' : Zt} (h : IC_ N T) (f : fr_ ws T T') (w : wt8_ ws) (w2 : fw_ ws 102 5 = false ∧ fw_ ws 102 6 = false) (wn : wn_ ws) (wl : wl_ ws) (w9 : fw_ ws 109 15 = false ∧ fw_ ws 190 (-2) = false ∧ fw_ ws 191 0 = false) : IC_ N T' := by
  obtain ⟨k, d, n, l, s, b1, b2⟩ := h
  have e9 := f 191 0 0 w9.2.2
  refine ⟨ic_t k f w, DD__f d f ⟨w.2.2.1.1, w.2.2.1.2.2.1, w2.1, w2.2, w.2.1.2, trivial⟩, NA_f n f wn, LP_f l (by omega) (lh_f lh_r f w9.2.1 w9.2.2) f wl, ?_, by omega, by omega⟩
  rw [f 109 0 15 w9.1, f 190 _ _ w9.2.1]
  exact s
set_option maxRecDepth 100000 in
set_option maxHeartbeats 4000000 in
theorem ic_g {N : Int} {T T' : Zt} (h : IC_ N T) (f : fr_ LRef_ T T') : IC_ N T' := ic_h h f ⟨⟨fun _ => rfl, fun _ => rfl, fun _ => rfl, fun _ => rfl, fun _ => rfl⟩, ⟨rfl, rfl⟩, ⟨rfl, rfl, rfl, rfl⟩, rfl, rfl, rfl, rfl⟩ ⟨rfl, rfl⟩ ⟨rfl, rfl, rfl, rfl, rfl, rfl, rfl, rfl, rfl⟩ ⟨rfl, rfl, rfl, rfl, rfl, rfl, rfl, rfl, rfl, rfl, rfl⟩ ⟨rfl, rfl, rfl⟩
/-- what is alike on both sides -/
def RE_ (T : Zt) : Prop := T 108 0 2 = T 111 0 12 ∧ T 108 0 3 = T 111 0 15 ∧ T 108 0 12 = T 111 0 21 ∧ T 108 0 13 = T 111 0 3 ∧ SPR_ T
/-- the counters stay -/
def kq_ (T T' : Zt) : Prop := T' 108 0 2 = T 108 0 2 ∧ T' 108 0 3 = T 108 0 3 ∧ T' 108 0 12 = T 108 0 12 ∧ T' 108 0 13 = T 108 0 13 ∧ T' 111 0 12 = T 111 0 12 ∧ T' 111 0 15 = T 111 0 15 ∧ T' 111 0 21 = T 111 0 21 ∧ T' 111 0 3 = T 111 0 3 ∧ krc_ T T' ∧ kfs_ T T' ∧ krm_ T T'
def fq_ (ws : List (Nat × List Int)) : Prop := fw_ ws 108 2 = false ∧ fw_ ws 108 3 = false ∧ fw_ ws 108 12 = false ∧ fw_ ws 108 13 = false ∧ fw_ ws 111 12 = false ∧ fw_ ws 111 15 = false ∧ fw_ ws 111 21 = false ∧ fw_ ws 111 3 = false ∧ fw_ ws 108 5 = false ∧ fw_ ws 111 16 = false ∧ (∀ j, fw_ ws 566 j = false) ∧ (∀ j, fw_ ws 567 j = false) ∧ (∀ j, fw_ ws 568 j = false) ∧ (∀ j, fw_ ws 569 j = false) ∧ (∀ j, fw_ ws 564 j = false) ∧ (∀ j, fw_ ws 217 j = false) ∧ (∀ j, fw_ ws 218 j = false) ∧ (∀ j, fw_ ws 219 j = false) ∧ (∀ j, fw_ ws 220 j = false)
theorem fq_s {ws : List (Nat × List Int)} {T T' : Zt} (f : fr_ ws T T') (w : fq_ ws) : kq_ T T' := by
  obtain ⟨w0, w1, w2, w3, w4, w5, w6, w7, s1, s2, s3, s4, s5, s6, s7, s8, s9, s10, s11⟩ := w
  exact ⟨f 108 0 2 w0, f 108 0 3 w1, f 108 0 12 w2, f 108 0 13 w3, f 111 0 12 w4, f 111 0 15 w5, f 111 0 21 w6, f 111 0 3 w7, ⟨f 108 0 5 s1, fun j => f 566 0 j (s3 j), fun j => f 567 0 j (s4 j), fun j => f 568 0 j (s5 j), fun j => f 569 0 j (s6 j)⟩, fun j => f 564 0 j (s7 j), ⟨f 111 0 16 s2, fun j => f 217 0 j (s8 j), fun j => f 218 0 j (s9 j), fun j => f 219 0 j (s10 j), fun j => f 220 0 j (s11 j)⟩⟩
/-- both answers are there -/
def LBo_ (N : Int) (T : Zt) (r1 r2 : Option Zv) : Prop := ∃ x1 x2 : Int, r1 = some (vI x1) ∧ r2 = some (vI x2) ∧ IC_ (N + 1) T ∧ IR_ T ∧ RE_ T
/-- both answers are the same -/
def LQo_ (N : Int) (T : Zt) (r1 r2 : Option Zv) : Prop := ∃ x : Int, r1 = some (vI x) ∧ r2 = some (vI x) ∧ IC_ (N + 1) T ∧ IR_ T ∧ RE_ T
theorem lq_b {N : Int} {T : Zt} {r1 r2 : Option Zv} (h : LQo_ N T r1 r2) : LBo_ N T r1 r2 := by
  obtain ⟨x, h1, h2, h3⟩ := h
  exact ⟨x, x, h1, h2, h3⟩
/-- what a call of the house leaves -/
def PX_ (N : Int) (T T' : Zt) (r : Option Zv) : Prop := ∃ x : Int, r = some (vI x) ∧ IC_ (N + 1) T' ∧ IR_ T' ∧ kq_ T T'
/-- what a call of the reference leaves -/
def PM_ (N : Int) (T T' : Zt) (r : Option Zv) : Prop := ∃ x : Int, r = some (vI x) ∧ IC_ N T' ∧ IR_ T' ∧ kq_ T T'
theorem re_g {N : Int} {T T1 T2 : Zt} {r1 r2 : Option Zv} (h : RE_ T) (a : PX_ N T T1 r1) (b : PM_ (N + 1) T1 T2 r2) : LBo_ N T2 r1 r2 := by
  obtain ⟨x1, e1, -, -, g1⟩ := a
  obtain ⟨x2, e2, i2, j2, g2⟩ := b
  refine ⟨x1, x2, e1, e2, i2, j2, ?_⟩
  obtain ⟨h0, h1, h2, h3, hs⟩ := h
  obtain ⟨a0, a1, a2, a3, a4, a5, a6, a7, kc1, kf1, km1⟩ := g1
  obtain ⟨b0, b1, b2, b3, b4, b5, b6, b7, kc2, kf2, km2⟩ := g2
  exact ⟨by omega, by omega, by omega, by omega, spr_k hs (by omega) (krc_t kc1 kc2) (kfs_t kf1 kf2) (krm_t km1 km2)⟩
theorem qm_o {T T' : Zt} {p c f t : Int} {r : Option Zv} (h : po_X11_register_e T p c f t T' r) : po_X11_register T p c f t T' r := by
  obtain ⟨x, e, g, q⟩ := h
  refine ⟨x, e, g, ?_⟩
  rcases q with q | q | q | q | q
  · exact Or.inl q.1
  · exact Or.inr (Or.inl q.1)
  · exact Or.inr (Or.inr (Or.inl q.1))
  · exact Or.inr (Or.inr (Or.inr (Or.inl q.1)))
  · exact Or.inr (Or.inr (Or.inr (Or.inr (by rw [q.1, q.2.2.2.2.2.1]))))
/-- a contract whose post gives P -/
def Cw_ (y : MethodName) (Y : Zm) (T : Zt) (avs : List Zv) (P : Zt → Option Zv → Prop) : Prop := ∃ Qp : Zt → Option Zv → Prop, Ct_ y Y T avs Qp ∧ ∀ T' r, Qp T' r → P T' r
theorem px_f {N x : Int} {ws : List (Nat × List Int)} {T T' : Zt} (hI : IC_ (N + 1) T') (hR : IR_ T) (f : fr_ ws T T') (w : fs_ ws LCla_ = true) (w3 : fq_ ws) : PX_ N T T' (some (vI x)) := ⟨x, rfl, hI, ir_g hR (fr_s f w), fq_s f w3⟩
theorem kq_r {T : Zt} : kq_ T T := ⟨rfl, rfl, rfl, rfl, rfl, rfl, rfl, rfl, krc_r, kfs_r, krm_r⟩
theorem px_e {N x : Int} {T : Zt} (hI : IC_ N T) (hR : IR_ T) : PX_ N T T (some (vI x)) := ⟨x, rfl, ic_e hI, hR, kq_r⟩
theorem pm_f {N x : Int} {ws : List (Nat × List Int)} {T T' : Zt} (hI : IC_ N T) (hR : IR_ T') (f : fr_ ws T T') (w : fs_ ws LRef_ = true) (w3 : fq_ ws) : PM_ N T T' (some (vI x)) := ⟨x, rfl, ic_g hI (fr_s f w), hR, fq_s f w3⟩
theorem pm_e {N x : Int} {T : Zt} (hI : IC_ N T) (hR : IR_ T) : PM_ N T T (some (vI x)) := ⟨x, rfl, hI, hR, kq_r⟩
set_option maxRecDepth 100000 in
theorem cx_sign {N : Int} {T : Zt} {c9 : Int} (hT : ok_T T) (ha : al_ T 109 0) (hI : IC_ N T) (hN : 0 ≤ N ∧ N ≤ 511) (hR : IR_ T) (hE : RE_ T) : Cw_ yX10_sign zX10_sign T [vR 110 0, vI c9] (PX_ N T) := by
  refine ⟨_, ct_X10_sign , fun T1 r q => ?_⟩
  have g := (ic_sign hI q)
  obtain ⟨x, rfl, f, -⟩ := q
  exact px_f g hR f (by decide +kernel) ⟨rfl, rfl, rfl, rfl, rfl, rfl, rfl, rfl, rfl, rfl, fun _ => rfl, fun _ => rfl, fun _ => rfl, fun _ => rfl, fun _ => rfl, fun _ => rfl, fun _ => rfl, fun _ => rfl, fun _ => rfl⟩
set_option maxRecDepth 100000 in
theorem cx_wipe {N : Int} {T : Zt} (hT : ok_T T) (ha : al_ T 109 0) (hI : IC_ N T) (hN : 0 ≤ N ∧ N ≤ 511) (hR : IR_ T) (hE : RE_ T) : Cw_ yX10_wipe zX10_wipe T [vR 110 0] (PX_ N T) := by
  refine ⟨_, ct_X10_wipe , fun T1 r q => ?_⟩
  have g := (ic_wipe hI q)
  obtain ⟨x, rfl, f, -⟩ := q
  exact px_f g hR f (by decide +kernel) ⟨rfl, rfl, rfl, rfl, rfl, rfl, rfl, rfl, rfl, rfl, fun _ => rfl, fun _ => rfl, fun _ => rfl, fun _ => rfl, fun _ => rfl, fun _ => rfl, fun _ => rfl, fun _ => rfl, fun _ => rfl⟩
set_option maxRecDepth 100000 in
theorem cx_competition {N : Int} {T : Zt} (hT : ok_T T) (ha : al_ T 109 0) (hI : IC_ N T) (hN : 0 ≤ N ∧ N ≤ 511) (hR : IR_ T) (hE : RE_ T) : Cw_ yX10_competition zX10_competition T [vR 110 0] (PX_ N T) := by
  refine ⟨_, ct_X10_competition hI.2.2.1, fun T1 r q => ?_⟩
  have g := (ic_competition hT hI q)
  obtain ⟨x, rfl, q | q⟩ := q
  · exact px_f g hR q (by decide +kernel) ⟨rfl, rfl, rfl, rfl, rfl, rfl, rfl, rfl, rfl, rfl, fun _ => rfl, fun _ => rfl, fun _ => rfl, fun _ => rfl, fun _ => rfl, fun _ => rfl, fun _ => rfl, fun _ => rfl, fun _ => rfl⟩
  · exact px_f g hR q.1 (by decide +kernel) ⟨rfl, rfl, rfl, rfl, rfl, rfl, rfl, rfl, rfl, rfl, fun _ => rfl, fun _ => rfl, fun _ => rfl, fun _ => rfl, fun _ => rfl, fun _ => rfl, fun _ => rfl, fun _ => rfl, fun _ => rfl⟩
set_option maxRecDepth 100000 in
theorem cx_fault {N : Int} {T : Zt} (hT : ok_T T) (ha : al_ T 109 0) (hI : IC_ N T) (hN : 0 ≤ N ∧ N ≤ 511) (hR : IR_ T) (hE : RE_ T) : Cw_ yX10_fault zX10_fault T [vR 110 0] (PX_ N T) := by
  refine ⟨_, ct_X10_fault , fun T1 r q => ?_⟩
  obtain ⟨e, x, rfl, -⟩ := q
  subst e
  exact px_e hI hR
set_option maxRecDepth 100000 in
theorem cx_rule {N : Int} {T : Zt} {c9 w9 : Int} (hT : ok_T T) (ha : al_ T 109 0) (hI : IC_ N T) (hN : 0 ≤ N ∧ N ≤ 511) (hR : IR_ T) (hE : RE_ T) : Cw_ yX10_rule zX10_rule T [vR 110 0, vI c9, vI w9] (PX_ N T) := by
  refine ⟨_, ct_X10_rule hI.1.1, fun T1 r q => ?_⟩
  obtain ⟨e, x, rfl, -⟩ := q
  subst e
  exact px_e hI hR
def qx_club (N : Int) (T : Zt) (s9 c9 : Int) (T' : Zt) (r : Option Zv) : Prop := ∃ x : Int, r = some (vI x) ∧ IC_ (N + 1) T' ∧ IR_ T' ∧ (T' 108 0 3 = T 108 0 3 ∧ T' 108 0 12 = T 108 0 12 ∧ T' 108 0 13 = T 108 0 13 ∧ T' 111 0 12 = T 111 0 12 ∧ T' 111 0 15 = T 111 0 15 ∧ T' 111 0 21 = T 111 0 21 ∧ T' 111 0 3 = T 111 0 3 ∧ krc_ T T' ∧ kfs_ T T' ∧ krm_ T T') ∧ (((x = -3 ∧ ¬ (0 ≤ s9 ∧ s9 ≤ 11 ∧ 0 ≤ c9 ∧ c9 ≤ 7) ∧ T' 108 0 2 = T 108 0 2) ∨ ((0 ≤ s9 ∧ s9 ≤ 11 ∧ 0 ≤ c9 ∧ c9 ≤ 7) ∧ T 108 0 2 = 12 ∧ x = -5 ∧ T' 108 0 2 = T 108 0 2) ∨ ((0 ≤ s9 ∧ s9 ≤ 11 ∧ 0 ≤ c9 ∧ c9 ≤ 7) ∧ T 108 0 2 < 12 ∧ x = T 108 0 2 ∧ T' 108 0 2 = T 108 0 2 + 1)))
set_option maxRecDepth 100000 in
theorem cx_club {N : Int} {T : Zt} {s9 c9 : Int} (hT : ok_T T) (ha : al_ T 109 0) (hI : IC_ N T) (hN : 0 ≤ N ∧ N ≤ 511) (hR : IR_ T) (hE : RE_ T) : Cw_ yX10_club zX10_club T [vR 110 0, vI s9, vI c9] (qx_club N T s9 c9) := by
  refine ⟨_, ct_X10_club , fun T1 r q => ?_⟩
  have g := (ic_club hI q)
  obtain ⟨x, rfl, f, h⟩ := q
  exact ⟨x, rfl, g, ir_g hR (fr_s f (by decide +kernel)), ⟨f 108 0 3 rfl, f 108 0 12 rfl, f 108 0 13 rfl, f 111 0 12 rfl, f 111 0 15 rfl, f 111 0 21 rfl, f 111 0 3 rfl, ⟨f 108 0 5 rfl, fun j => f 566 0 j rfl, fun j => f 567 0 j rfl, fun j => f 568 0 j rfl, fun j => f 569 0 j rfl⟩, fun j => f 564 0 j rfl, ⟨f 111 0 16 rfl, fun j => f 217 0 j rfl, fun j => f 218 0 j rfl, fun j => f 219 0 j rfl, fun j => f 220 0 j rfl⟩⟩, h⟩
def qx_person (N : Int) (T : Zt) (T' : Zt) (r : Option Zv) : Prop := ∃ x : Int, r = some (vI x) ∧ IC_ (N + 1) T' ∧ IR_ T' ∧ (T' 108 0 2 = T 108 0 2 ∧ T' 108 0 12 = T 108 0 12 ∧ T' 108 0 13 = T 108 0 13 ∧ T' 111 0 12 = T 111 0 12 ∧ T' 111 0 15 = T 111 0 15 ∧ T' 111 0 21 = T 111 0 21 ∧ T' 111 0 3 = T 111 0 3 ∧ krc_ T T' ∧ krm_ T T') ∧ ((QP_ T T' x))
set_option maxRecDepth 100000 in
theorem cx_person {N : Int} {T : Zt} (hT : ok_T T) (ha : al_ T 109 0) (hI : IC_ N T) (hN : 0 ≤ N ∧ N ≤ 511) (hR : IR_ T) (hE : RE_ T) : Cw_ yX10_person zX10_person T [vR 110 0] (qx_person N T) := by
  refine ⟨_, ct_X10_person_e , fun T1 r q => ?_⟩
  obtain ⟨x, rfl, f, h⟩ := q
  have g := (ic_person hI ⟨x, rfl, f, h.elim (fun z => Or.inr (Or.inl ⟨rfl, z.1, z.2.1, by rw [z.2.2]⟩)) (fun z => Or.inr (Or.inr ⟨rfl, z.1, z.2.1, z.2.2.1⟩))⟩)
  exact ⟨x, rfl, g, ir_g hR (fr_s f (by decide +kernel)), ⟨f 108 0 2 rfl, f 108 0 12 rfl, f 108 0 13 rfl, f 111 0 12 rfl, f 111 0 15 rfl, f 111 0 21 rfl, f 111 0 3 rfl, ⟨f 108 0 5 rfl, fun j => f 566 0 j rfl, fun j => f 567 0 j rfl, fun j => f 568 0 j rfl, fun j => f 569 0 j rfl⟩, ⟨f 111 0 16 rfl, fun j => f 217 0 j rfl, fun j => f 218 0 j rfl, fun j => f 219 0 j rfl, fun j => f 220 0 j rfl⟩⟩, h⟩
def qx_register (N : Int) (T : Zt) (p9 cl9 a9 b9 : Int) (T' : Zt) (r : Option Zv) : Prop := ∃ x : Int, r = some (vI x) ∧ IC_ (N + 1) T' ∧ IR_ T' ∧ (T' 108 0 2 = T 108 0 2 ∧ T' 108 0 3 = T 108 0 3 ∧ T' 108 0 12 = T 108 0 12 ∧ T' 108 0 13 = T 108 0 13 ∧ T' 111 0 12 = T 111 0 12 ∧ T' 111 0 15 = T 111 0 15 ∧ T' 111 0 21 = T 111 0 21 ∧ T' 111 0 3 = T 111 0 3 ∧ krm_ T T') ∧ ((QR_ T T' p9 cl9 a9 b9 x))
set_option maxRecDepth 100000 in
theorem cx_register {N : Int} {T : Zt} {p9 cl9 a9 b9 : Int} (hT : ok_T T) (ha : al_ T 109 0) (hI : IC_ N T) (hN : 0 ≤ N ∧ N ≤ 511) (hR : IR_ T) (hE : RE_ T) : Cw_ yX10_register zX10_register T [vR 110 0, vI p9, vI cl9, vI a9, vI b9] (qx_register N T p9 cl9 a9 b9) := by
  refine ⟨_, ct_X10_register_e hE.2.2.2.2, fun T1 r q => ?_⟩
  obtain ⟨x, rfl, f, h⟩ := q
  have g := (ic_register (p := p9) (cl := cl9) (a := a9) (b := b9) hI ⟨x, rfl, f, rfl⟩)
  exact ⟨x, rfl, g, ir_g hR (fr_s f (by decide +kernel)), ⟨f 108 0 2 rfl, f 108 0 3 rfl, f 108 0 12 rfl, f 108 0 13 rfl, f 111 0 12 rfl, f 111 0 15 rfl, f 111 0 21 rfl, f 111 0 3 rfl, ⟨f 111 0 16 rfl, fun j => f 217 0 j rfl, fun j => f 218 0 j rfl, fun j => f 219 0 j rfl, fun j => f 220 0 j rfl⟩⟩, h⟩
def qx_official (N : Int) (T : Zt) (s9 c9 : Int) (T' : Zt) (r : Option Zv) : Prop := ∃ x : Int, r = some (vI x) ∧ IC_ (N + 1) T' ∧ IR_ T' ∧ (T' 108 0 2 = T 108 0 2 ∧ T' 108 0 3 = T 108 0 3 ∧ T' 108 0 13 = T 108 0 13 ∧ T' 111 0 12 = T 111 0 12 ∧ T' 111 0 15 = T 111 0 15 ∧ T' 111 0 21 = T 111 0 21 ∧ T' 111 0 3 = T 111 0 3 ∧ krc_ T T' ∧ kfs_ T T' ∧ krm_ T T') ∧ (((x = -3 ∧ ¬ (0 ≤ s9 ∧ s9 ≤ 11 ∧ 0 ≤ c9 ∧ c9 ≤ 7) ∧ T' 108 0 12 = T 108 0 12) ∨ ((0 ≤ s9 ∧ s9 ≤ 11 ∧ 0 ≤ c9 ∧ c9 ≤ 7) ∧ T 108 0 12 = 8 ∧ x = -5 ∧ T' 108 0 12 = T 108 0 12) ∨ ((0 ≤ s9 ∧ s9 ≤ 11 ∧ 0 ≤ c9 ∧ c9 ≤ 7) ∧ T 108 0 12 < 8 ∧ x = T 108 0 12 ∧ T' 108 0 12 = T 108 0 12 + 1)))
set_option maxRecDepth 100000 in
theorem cx_official {N : Int} {T : Zt} {s9 c9 : Int} (hT : ok_T T) (ha : al_ T 109 0) (hI : IC_ N T) (hN : 0 ≤ N ∧ N ≤ 511) (hR : IR_ T) (hE : RE_ T) : Cw_ yX10_official zX10_official T [vR 110 0, vI s9, vI c9] (qx_official N T s9 c9) := by
  refine ⟨_, ct_X10_official , fun T1 r q => ?_⟩
  have g := (ic_official hI q)
  obtain ⟨x, rfl, f, h⟩ := q
  exact ⟨x, rfl, g, ir_g hR (fr_s f (by decide +kernel)), ⟨f 108 0 2 rfl, f 108 0 3 rfl, f 108 0 13 rfl, f 111 0 12 rfl, f 111 0 15 rfl, f 111 0 21 rfl, f 111 0 3 rfl, ⟨f 108 0 5 rfl, fun j => f 566 0 j rfl, fun j => f 567 0 j rfl, fun j => f 568 0 j rfl, fun j => f 569 0 j rfl⟩, fun j => f 564 0 j rfl, ⟨f 111 0 16 rfl, fun j => f 217 0 j rfl, fun j => f 218 0 j rfl, fun j => f 219 0 j rfl, fun j => f 220 0 j rfl⟩⟩, h⟩
def qx_day (N : Int) (T : Zt) (d9 : Int) (T' : Zt) (r : Option Zv) : Prop := ∃ x : Int, r = some (vI x) ∧ IC_ (N + 1) T' ∧ IR_ T' ∧ (T' 108 0 2 = T 108 0 2 ∧ T' 108 0 3 = T 108 0 3 ∧ T' 108 0 12 = T 108 0 12 ∧ T' 111 0 12 = T 111 0 12 ∧ T' 111 0 15 = T 111 0 15 ∧ T' 111 0 21 = T 111 0 21 ∧ T' 111 0 3 = T 111 0 3 ∧ krc_ T T' ∧ kfs_ T T' ∧ krm_ T T') ∧ (((x = -3 ∧ ¬ (T 108 0 13 < d9 ∧ d9 ≤ 999) ∧ T' 108 0 13 = T 108 0 13) ∨ (T 108 0 13 < d9 ∧ d9 ≤ 999 ∧ x = T 108 0 13 ∧ T' 108 0 13 = d9)))
set_option maxRecDepth 100000 in
theorem cx_day {N : Int} {T : Zt} {d9 : Int} (hT : ok_T T) (ha : al_ T 109 0) (hI : IC_ N T) (hN : 0 ≤ N ∧ N ≤ 511) (hR : IR_ T) (hE : RE_ T) : Cw_ yX10_day zX10_day T [vR 110 0, vI d9] (qx_day N T d9) := by
  refine ⟨_, ct_X10_day , fun T1 r q => ?_⟩
  have g := (ic_day hI q)
  obtain ⟨x, rfl, f, h⟩ := q
  exact ⟨x, rfl, g, ir_g hR (fr_s f (by decide +kernel)), ⟨f 108 0 2 rfl, f 108 0 3 rfl, f 108 0 12 rfl, f 111 0 12 rfl, f 111 0 15 rfl, f 111 0 21 rfl, f 111 0 3 rfl, ⟨f 108 0 5 rfl, fun j => f 566 0 j rfl, fun j => f 567 0 j rfl, fun j => f 568 0 j rfl, fun j => f 569 0 j rfl⟩, fun j => f 564 0 j rfl, ⟨f 111 0 16 rfl, fun j => f 217 0 j rfl, fun j => f 218 0 j rfl, fun j => f 219 0 j rfl, fun j => f 220 0 j rfl⟩⟩, h⟩
set_option maxRecDepth 100000 in
theorem cx_enter {N : Int} {T : Zt} {c9 b9 : Int} (hT : ok_T T) (ha : al_ T 109 0) (hI : IC_ N T) (hN : 0 ≤ N ∧ N ≤ 511) (hR : IR_ T) (hE : RE_ T) : Cw_ yX10_enter zX10_enter T [vR 110 0, vI c9, vI b9] (PX_ N T) := by
  refine ⟨_, ct_X10_enter_k hI.1.1 hI.1.2.2.2.2.2.2.1, fun T1 r q => ?_⟩
  have g := (ic_enter hI q)
  obtain ⟨x, rfl, f, -⟩ := q
  exact px_f g hR f (by decide +kernel) ⟨rfl, rfl, rfl, rfl, rfl, rfl, rfl, rfl, rfl, rfl, fun _ => rfl, fun _ => rfl, fun _ => rfl, fun _ => rfl, fun _ => rfl, fun _ => rfl, fun _ => rfl, fun _ => rfl, fun _ => rfl⟩
set_option maxRecDepth 100000 in
theorem cx_plan {N : Int} {T : Zt} {c9 b9 : Int} (hT : ok_T T) (ha : al_ T 109 0) (hI : IC_ N T) (hN : 0 ≤ N ∧ N ≤ 511) (hR : IR_ T) (hE : RE_ T) : Cw_ yX10_plan zX10_plan T [vR 110 0, vI c9, vI b9] (PX_ N T) := by
  refine ⟨_, ct_X10_plan hI.1.1 hI.1.2.2.2.2.2.2.1 hI.1.2.2.2.2.2.2.2.1 hI.2.2.1, fun T1 r q => ?_⟩
  have g := (ic_plan hT hI q)
  obtain ⟨x, rfl, q | q⟩ := q
  · subst q; exact px_e hI hR
  · exact px_f g hR q.2.1 (by decide +kernel) ⟨rfl, rfl, rfl, rfl, rfl, rfl, rfl, rfl, rfl, rfl, fun _ => rfl, fun _ => rfl, fun _ => rfl, fun _ => rfl, fun _ => rfl, fun _ => rfl, fun _ => rfl, fun _ => rfl, fun _ => rfl⟩
set_option maxRecDepth 100000 in
theorem cx_match {N : Int} {T : Zt} {m9 w9 : Int} (hT : ok_T T) (ha : al_ T 109 0) (hI : IC_ N T) (hN : 0 ≤ N ∧ N ≤ 511) (hR : IR_ T) (hE : RE_ T) : Cw_ yX10_match zX10_match T [vR 110 0, vI m9, vI w9] (PX_ N T) := by
  refine ⟨_, ct_X10_match hI.1.1, fun T1 r q => ?_⟩
  obtain ⟨e, x, rfl, -⟩ := q
  subst e
  exact px_e hI hR
set_option maxRecDepth 100000 in
theorem cx_breaks {N : Int} {T : Zt} {c9 cl9 : Int} (hT : ok_T T) (ha : al_ T 109 0) (hI : IC_ N T) (hN : 0 ≤ N ∧ N ≤ 511) (hR : IR_ T) (hE : RE_ T) : Cw_ yX10_breaks zX10_breaks T [vR 110 0, vI c9, vI cl9] (PX_ N T) := by
  refine ⟨_, ct_X10_breaks hI.1.1 hI.1.2.2.1, fun T1 r q => ?_⟩
  obtain ⟨e, x, rfl, -⟩ := q
  subst e
  exact px_e hI hR
set_option maxRecDepth 100000 in
theorem cx_postpone {N : Int} {T : Zt} {m9 d9 : Int} (hT : ok_T T) (ha : al_ T 109 0) (hI : IC_ N T) (hN : 0 ≤ N ∧ N ≤ 511) (hR : IR_ T) (hE : RE_ T) : Cw_ yX10_postpone zX10_postpone T [vR 110 0, vI m9, vI d9] (PX_ N T) := by
  refine ⟨_, ct_X10_postpone_k hI.1.1 hI.1.2.1 hI.2.1, fun T1 r q => ?_⟩
  have g := (ic_postpone hI q)
  obtain ⟨x, rfl, f, -⟩ := q
  exact px_f g hR f (by decide +kernel) ⟨rfl, rfl, rfl, rfl, rfl, rfl, rfl, rfl, rfl, rfl, fun _ => rfl, fun _ => rfl, fun _ => rfl, fun _ => rfl, fun _ => rfl, fun _ => rfl, fun _ => rfl, fun _ => rfl, fun _ => rfl⟩
set_option maxRecDepth 100000 in
theorem cx_moved {N : Int} {T : Zt} {k9 : Int} (hT : ok_T T) (ha : al_ T 109 0) (hI : IC_ N T) (hN : 0 ≤ N ∧ N ≤ 511) (hR : IR_ T) (hE : RE_ T) : Cw_ yX10_moved zX10_moved T [vR 110 0, vI k9] (PX_ N T) := by
  refine ⟨_, ct_X10_moved , fun T1 r q => ?_⟩
  obtain ⟨e, x, rfl, -⟩ := q
  subst e
  exact px_e hI hR
set_option maxRecDepth 100000 in
theorem cx_deduct {N : Int} {T : Zt} {c9 cl9 p9 : Int} (hT : ok_T T) (ha : al_ T 109 0) (hI : IC_ N T) (hN : 0 ≤ N ∧ N ≤ 511) (hR : IR_ T) (hE : RE_ T) : Cw_ yX10_deduct zX10_deduct T [vR 110 0, vI c9, vI cl9, vI p9] (PX_ N T) := by
  refine ⟨_, ct_X10_deduct hI.1.1, fun T1 r q => ?_⟩
  have g := (ic_deduct hI q)
  obtain ⟨x, rfl, f, -⟩ := q
  exact px_f g hR f (by decide +kernel) ⟨rfl, rfl, rfl, rfl, rfl, rfl, rfl, rfl, rfl, rfl, fun _ => rfl, fun _ => rfl, fun _ => rfl, fun _ => rfl, fun _ => rfl, fun _ => rfl, fun _ => rfl, fun _ => rfl, fun _ => rfl⟩
set_option maxRecDepth 100000 in
theorem cx_eligible {N : Int} {T : Zt} {q9 m9 d9 : Int} (hT : ok_T T) (ha : al_ T 109 0) (hI : IC_ N T) (hN : 0 ≤ N ∧ N ≤ 511) (hR : IR_ T) (hE : RE_ T) : Cw_ yX10_eligible zX10_eligible T [vR 110 0, vI q9, vI m9, vI d9] (PX_ N T) := by
  refine ⟨_, ct_X10_eligible hI.1.1 hI.1.2.1 hI.1.2.2.1, fun T1 r q => ?_⟩
  have g := (ic_eligible hI q)
  obtain ⟨x, rfl, f, -⟩ := q
  exact px_f g hR f (by decide +kernel) ⟨rfl, rfl, rfl, rfl, rfl, rfl, rfl, rfl, rfl, rfl, fun _ => rfl, fun _ => rfl, fun _ => rfl, fun _ => rfl, fun _ => rfl, fun _ => rfl, fun _ => rfl, fun _ => rfl, fun _ => rfl⟩
set_option maxRecDepth 100000 in
theorem cx_lineUp {N : Int} {T : Zt} {q9 b9 s9 : Int} (hT : ok_T T) (ha : al_ T 109 0) (hI : IC_ N T) (hN : 0 ≤ N ∧ N ≤ 511) (hR : IR_ T) (hE : RE_ T) : Cw_ yX10_lineUp zX10_lineUp T [vR 110 0, vI q9, vI b9, vI s9] (PX_ N T) := by
  refine ⟨_, ct_X10_lineUp hI.1.1 hI.1.2.1 hI.1.2.2.1 hI.1.2.2.2.1, fun T1 r q => ?_⟩
  have g := (ic_lineUp hI q)
  obtain ⟨x, rfl, f, -⟩ := q
  exact px_f g hR f (by decide +kernel) ⟨rfl, rfl, rfl, rfl, rfl, rfl, rfl, rfl, rfl, rfl, fun _ => rfl, fun _ => rfl, fun _ => rfl, fun _ => rfl, fun _ => rfl, fun _ => rfl, fun _ => rfl, fun _ => rfl, fun _ => rfl⟩
set_option maxRecDepth 100000 in
theorem cx_start {N : Int} {T : Zt} {m9 : Int} (hT : ok_T T) (ha : al_ T 109 0) (hI : IC_ N T) (hN : 0 ≤ N ∧ N ≤ 511) (hR : IR_ T) (hE : RE_ T) : Cw_ yX10_start zX10_start T [vR 110 0, vI m9] (PX_ N T) := by
  have h9 : 0 ≤ T 191 0 0 ∧ T 191 0 0 ≤ 900000000 := ⟨hI.2.2.2.2.2.1, by have := hI.2.2.2.2.2.2; omega⟩
  refine ⟨_, ct_X10_start hI.1.1 hI.1.2.1 hI.1.2.2.2.1 hI.2.2.2.1 hN h9 hI.2.2.1, fun T1 r q => ?_⟩
  have g := (ic_start hT ha hI q)
  obtain ⟨x, rfl, f, -⟩ := q
  exact px_f g hR f (by decide +kernel) ⟨rfl, rfl, rfl, rfl, rfl, rfl, rfl, rfl, rfl, rfl, fun _ => rfl, fun _ => rfl, fun _ => rfl, fun _ => rfl, fun _ => rfl, fun _ => rfl, fun _ => rfl, fun _ => rfl, fun _ => rfl⟩
set_option maxRecDepth 100000 in
theorem cx_walkOver {N : Int} {T : Zt} {m9 d9 : Int} (hT : ok_T T) (ha : al_ T 109 0) (hI : IC_ N T) (hN : 0 ≤ N ∧ N ≤ 511) (hR : IR_ T) (hE : RE_ T) : Cw_ yX10_walkOver zX10_walkOver T [vR 110 0, vI m9, vI d9] (PX_ N T) := by
  refine ⟨_, ct_X10_walkOver_k hI.1.1, fun T1 r q => ?_⟩
  have g := (ic_walkOver hI q)
  obtain ⟨x, rfl, f, -⟩ := q
  exact px_f g hR f (by decide +kernel) ⟨rfl, rfl, rfl, rfl, rfl, rfl, rfl, rfl, rfl, rfl, fun _ => rfl, fun _ => rfl, fun _ => rfl, fun _ => rfl, fun _ => rfl, fun _ => rfl, fun _ => rfl, fun _ => rfl, fun _ => rfl⟩
set_option maxRecDepth 100000 in
theorem cx_event {N : Int} {T : Zt} {m9 k9 s9 a9 b9 : Int} (hT : ok_T T) (ha : al_ T 109 0) (hI : IC_ N T) (hN : 0 ≤ N ∧ N ≤ 511) (hR : IR_ T) (hE : RE_ T) : Cw_ yX10_event zX10_event T [vR 110 0, vI m9, vI k9, vI s9, vI a9, vI b9] (PX_ N T) := by
  have h9 : 0 ≤ T 191 0 0 ∧ T 191 0 0 ≤ 900000000 := ⟨hI.2.2.2.2.2.1, by have := hI.2.2.2.2.2.2; omega⟩
  refine ⟨_, ct_X10_event hI.1.1 hI.1.2.1 hI.1.2.2.2.1 hI.2.2.2.1 hN h9, fun T1 r q => ?_⟩
  have g := (ic_event hT ha hI q)
  obtain ⟨x, rfl, f, -⟩ := q
  exact px_f g hR f (by decide +kernel) ⟨rfl, rfl, rfl, rfl, rfl, rfl, rfl, rfl, rfl, rfl, fun _ => rfl, fun _ => rfl, fun _ => rfl, fun _ => rfl, fun _ => rfl, fun _ => rfl, fun _ => rfl, fun _ => rfl, fun _ => rfl⟩
set_option maxRecDepth 100000 in
theorem cx_review {N : Int} {T : Zt} {m9 i9 k9 s9 a9 b9 : Int} (hT : ok_T T) (ha : al_ T 109 0) (hI : IC_ N T) (hN : 0 ≤ N ∧ N ≤ 511) (hR : IR_ T) (hE : RE_ T) : Cw_ yX10_review zX10_review T [vR 110 0, vI m9, vI i9, vI k9, vI s9, vI a9, vI b9] (PX_ N T) := by
  have h9 : 0 ≤ T 191 0 0 ∧ T 191 0 0 ≤ 900000000 := ⟨hI.2.2.2.2.2.1, by have := hI.2.2.2.2.2.2; omega⟩
  refine ⟨_, ct_X10_review hI.1.1 hI.1.2.1 hI.1.2.2.2.1 hI.2.2.2.1 hN h9, fun T1 r q => ?_⟩
  have g := (ic_review hT ha hI q)
  obtain ⟨x, rfl, f, -⟩ := q
  exact px_f g hR f (by decide +kernel) ⟨rfl, rfl, rfl, rfl, rfl, rfl, rfl, rfl, rfl, rfl, fun _ => rfl, fun _ => rfl, fun _ => rfl, fun _ => rfl, fun _ => rfl, fun _ => rfl, fun _ => rfl, fun _ => rfl, fun _ => rfl⟩
set_option maxRecDepth 100000 in
theorem cx_rows {N : Int} {T : Zt} {m9 w9 : Int} (hT : ok_T T) (ha : al_ T 109 0) (hI : IC_ N T) (hN : 0 ≤ N ∧ N ≤ 511) (hR : IR_ T) (hE : RE_ T) : Cw_ yX10_rows zX10_rows T [vR 110 0, vI m9, vI w9] (PX_ N T) := by
  refine ⟨_, ct_X10_rows hI.1.1, fun T1 r q => ?_⟩
  obtain ⟨e, x, rfl, -⟩ := q
  subst e
  exact px_e hI hR
set_option maxRecDepth 100000 in
theorem cx_row {N : Int} {T : Zt} {m9 i9 w9 : Int} (hT : ok_T T) (ha : al_ T 109 0) (hI : IC_ N T) (hN : 0 ≤ N ∧ N ≤ 511) (hR : IR_ T) (hE : RE_ T) : Cw_ yX10_row zX10_row T [vR 110 0, vI m9, vI i9, vI w9] (PX_ N T) := by
  have h9 : 0 ≤ T 191 0 0 ∧ T 191 0 0 ≤ 900000000 := ⟨hI.2.2.2.2.2.1, by have := hI.2.2.2.2.2.2; omega⟩
  refine ⟨_, ct_X10_row hI.1.1 hI.1.2.1 hI.1.2.2.2.1 hI.2.2.2.1 hN h9, fun T1 r q => ?_⟩
  obtain ⟨e, x, rfl, -⟩ := q
  subst e
  exact px_e hI hR
set_option maxRecDepth 100000 in
theorem cx_state {N : Int} {T : Zt} {m9 w9 : Int} (hT : ok_T T) (ha : al_ T 109 0) (hI : IC_ N T) (hN : 0 ≤ N ∧ N ≤ 511) (hR : IR_ T) (hE : RE_ T) : Cw_ yX10_state zX10_state T [vR 110 0, vI m9, vI w9] (PX_ N T) := by
  refine ⟨_, ct_X10_state hI.1.1, fun T1 r q => ?_⟩
  obtain ⟨e, x, rfl, -⟩ := q
  subst e
  exact px_e hI hR
set_option maxRecDepth 100000 in
theorem cx_onField {N : Int} {T : Zt} {m9 d9 k9 : Int} (hT : ok_T T) (ha : al_ T 109 0) (hI : IC_ N T) (hN : 0 ≤ N ∧ N ≤ 511) (hR : IR_ T) (hE : RE_ T) : Cw_ yX10_onField zX10_onField T [vR 110 0, vI m9, vI d9, vI k9] (PX_ N T) := by
  refine ⟨_, ct_X10_onField hI.1.1, fun T1 r q => ?_⟩
  obtain ⟨e, x, rfl, -⟩ := q
  subst e
  exact px_e hI hR
set_option maxRecDepth 100000 in
theorem cx_table {N : Int} {T : Zt} {c9 d9 b9 w9 : Int} (hT : ok_T T) (ha : al_ T 109 0) (hI : IC_ N T) (hN : 0 ≤ N ∧ N ≤ 511) (hR : IR_ T) (hE : RE_ T) : Cw_ yX10_table zX10_table T [vR 110 0, vI c9, vI d9, vI b9, vI w9] (PX_ N T) := by
  refine ⟨_, ct_X10_table hI.1.1 hI.1.2.1 hI.1.2.2.1 hI.1.2.2.2.2.2.1, fun T1 r q => ?_⟩
  have g := (ic_table hI q)
  obtain ⟨x, rfl, f, -⟩ := q
  exact px_f g hR f (by decide +kernel) ⟨rfl, rfl, rfl, rfl, rfl, rfl, rfl, rfl, rfl, rfl, fun _ => rfl, fun _ => rfl, fun _ => rfl, fun _ => rfl, fun _ => rfl, fun _ => rfl, fun _ => rfl, fun _ => rfl, fun _ => rfl⟩
set_option maxRecDepth 100000 in
theorem cx_standing {N : Int} {T : Zt} {c9 d9 k9 : Int} (hT : ok_T T) (ha : al_ T 109 0) (hI : IC_ N T) (hN : 0 ≤ N ∧ N ≤ 511) (hR : IR_ T) (hE : RE_ T) : Cw_ yX10_standing zX10_standing T [vR 110 0, vI c9, vI d9, vI k9] (PX_ N T) := by
  refine ⟨_, ct_X10_standing hI.1.1 hI.1.2.1 hI.1.2.2.1 hI.1.2.2.2.2.2.1, fun T1 r q => ?_⟩
  have g := (ic_standing hI q)
  obtain ⟨x, rfl, f, -⟩ := q
  exact px_f g hR f (by decide +kernel) ⟨rfl, rfl, rfl, rfl, rfl, rfl, rfl, rfl, rfl, rfl, fun _ => rfl, fun _ => rfl, fun _ => rfl, fun _ => rfl, fun _ => rfl, fun _ => rfl, fun _ => rfl, fun _ => rfl, fun _ => rfl⟩
set_option maxRecDepth 100000 in
theorem cx_parted {N : Int} {T : Zt} {c9 d9 k9 : Int} (hT : ok_T T) (ha : al_ T 109 0) (hI : IC_ N T) (hN : 0 ≤ N ∧ N ≤ 511) (hR : IR_ T) (hE : RE_ T) : Cw_ yX10_parted zX10_parted T [vR 110 0, vI c9, vI d9, vI k9] (PX_ N T) := by
  refine ⟨_, ct_X10_parted hI.1.1 hI.1.2.1 hI.1.2.2.1 hI.1.2.2.2.2.2.1, fun T1 r q => ?_⟩
  have g := (ic_parted hI q)
  obtain ⟨x, rfl, f, -⟩ := q
  exact px_f g hR f (by decide +kernel) ⟨rfl, rfl, rfl, rfl, rfl, rfl, rfl, rfl, rfl, rfl, fun _ => rfl, fun _ => rfl, fun _ => rfl, fun _ => rfl, fun _ => rfl, fun _ => rfl, fun _ => rfl, fun _ => rfl, fun _ => rfl⟩
set_option maxRecDepth 100000 in
theorem cx_can {N : Int} {T : Zt} {c9 b9 : Int} (hT : ok_T T) (ha : al_ T 109 0) (hI : IC_ N T) (hN : 0 ≤ N ∧ N ≤ 511) (hR : IR_ T) (hE : RE_ T) : Cw_ yX10_can zX10_can T [vR 110 0, vI c9, vI b9] (PX_ N T) := by
  have h9 : 0 ≤ T 191 0 0 ∧ T 191 0 0 ≤ 900000000 := ⟨hI.2.2.2.2.2.1, by have := hI.2.2.2.2.2.2; omega⟩
  refine ⟨_, ct_X10_can hI.1.1 hI.1.2.1 hI.1.2.2.1 hI.1.2.2.2.2.1 hI.1.2.2.2.2.2.2.1 hI.1.2.2.2.2.2.2.2.2.2 hI.2.2.2.2.1 h9, fun T1 r q => ?_⟩
  have g := (ic_can hT ha hI q)
  obtain ⟨x, rfl, f, -⟩ := q
  exact px_f g hR f (by decide +kernel) ⟨rfl, rfl, rfl, rfl, rfl, rfl, rfl, rfl, rfl, rfl, fun _ => rfl, fun _ => rfl, fun _ => rfl, fun _ => rfl, fun _ => rfl, fun _ => rfl, fun _ => rfl, fun _ => rfl, fun _ => rfl⟩
set_option maxRecDepth 100000 in
theorem cx_witness {N : Int} {T : Zt} {m9 : Int} (hT : ok_T T) (ha : al_ T 109 0) (hI : IC_ N T) (hN : 0 ≤ N ∧ N ≤ 511) (hR : IR_ T) (hE : RE_ T) : Cw_ yX10_witness zX10_witness T [vR 110 0, vI m9] (PX_ N T) := by
  refine ⟨_, ct_X10_witness , fun T1 r q => ?_⟩
  obtain ⟨e, x, rfl, -⟩ := q
  subst e
  exact px_e hI hR
set_option maxRecDepth 100000 in
theorem cx_cut {N : Int} {T : Zt} (hT : ok_T T) (ha : al_ T 109 0) (hI : IC_ N T) (hN : 0 ≤ N ∧ N ≤ 511) (hR : IR_ T) (hE : RE_ T) : Cw_ yX10_cut zX10_cut T [vR 110 0] (PX_ N T) := by
  refine ⟨_, ct_X10_cut , fun T1 r q => ?_⟩
  obtain ⟨e, x, rfl, -⟩ := q
  subst e
  exact px_e hI hR
set_option maxRecDepth 100000 in
theorem cx_firsts {N : Int} {T : Zt} {c9 b9 : Int} (hT : ok_T T) (ha : al_ T 109 0) (hI : IC_ N T) (hN : 0 ≤ N ∧ N ≤ 511) (hR : IR_ T) (hE : RE_ T) : Cw_ yX10_firsts zX10_firsts T [vR 110 0, vI c9, vI b9] (PX_ N T) := by
  refine ⟨_, ct_X10_firsts hI.1.1 hI.1.2.1 hI.1.2.2.1 hI.1.2.2.2.2.2.1, fun T1 r q => ?_⟩
  have g := (ic_firsts hI q)
  obtain ⟨x, rfl, f, -⟩ := q
  exact px_f g hR f (by decide +kernel) ⟨rfl, rfl, rfl, rfl, rfl, rfl, rfl, rfl, rfl, rfl, fun _ => rfl, fun _ => rfl, fun _ => rfl, fun _ => rfl, fun _ => rfl, fun _ => rfl, fun _ => rfl, fun _ => rfl, fun _ => rfl⟩
def qx_drawing (N : Int) (T : Zt) (g9 l9 : Int) (T' : Zt) (r : Option Zv) : Prop := ∃ x : Int, r = some (vI x) ∧ IC_ (N + 1) T' ∧ IR_ T' ∧ (T' 108 0 2 = T 108 0 2 ∧ T' 108 0 3 = T 108 0 3 ∧ T' 108 0 12 = T 108 0 12 ∧ T' 108 0 13 = T 108 0 13 ∧ T' 111 0 12 = T 111 0 12 ∧ T' 111 0 15 = T 111 0 15 ∧ T' 111 0 21 = T 111 0 21 ∧ T' 111 0 3 = T 111 0 3 ∧ krc_ T T' ∧ kfs_ T T' ∧ krm_ T T') ∧ (((x = -3 ∧ ¬ (1 ≤ g9 ∧ g9 ≤ 4 ∧ 1 ≤ l9 ∧ l9 ≤ 3)) ∨ (x = 1 ∧ 1 ≤ g9 ∧ g9 ≤ 4 ∧ 1 ≤ l9 ∧ l9 ≤ 3)))
set_option maxRecDepth 100000 in
theorem cx_drawing {N : Int} {T : Zt} {g9 l9 : Int} (hT : ok_T T) (ha : al_ T 109 0) (hI : IC_ N T) (hN : 0 ≤ N ∧ N ≤ 511) (hR : IR_ T) (hE : RE_ T) : Cw_ yX10_drawing zX10_drawing T [vR 110 0, vI g9, vI l9] (qx_drawing N T g9 l9) := by
  refine ⟨_, ct_X10_drawing , fun T1 r q => ?_⟩
  have g := (ic_drawing hI q)
  obtain ⟨x, rfl, f, h⟩ := q
  exact ⟨x, rfl, g, ir_g hR (fr_s f (by decide +kernel)), ⟨f 108 0 2 rfl, f 108 0 3 rfl, f 108 0 12 rfl, f 108 0 13 rfl, f 111 0 12 rfl, f 111 0 15 rfl, f 111 0 21 rfl, f 111 0 3 rfl, ⟨f 108 0 5 rfl, fun j => f 566 0 j rfl, fun j => f 567 0 j rfl, fun j => f 568 0 j rfl, fun j => f 569 0 j rfl⟩, fun j => f 564 0 j rfl, ⟨f 111 0 16 rfl, fun j => f 217 0 j rfl, fun j => f 218 0 j rfl, fun j => f 219 0 j rfl, fun j => f 220 0 j rfl⟩⟩, h⟩
set_option maxRecDepth 100000 in
theorem cx_pot {N : Int} {T : Zt} {c9 k9 : Int} (hT : ok_T T) (ha : al_ T 109 0) (hI : IC_ N T) (hN : 0 ≤ N ∧ N ≤ 511) (hR : IR_ T) (hE : RE_ T) : Cw_ yX10_pot zX10_pot T [vR 110 0, vI c9, vI k9] (PX_ N T) := by
  refine ⟨_, ct_X10_pot , fun T1 r q => ?_⟩
  have g := (ic_pot hI q)
  obtain ⟨x, rfl, f, -⟩ := q
  exact px_f g hR f (by decide +kernel) ⟨rfl, rfl, rfl, rfl, rfl, rfl, rfl, rfl, rfl, rfl, fun _ => rfl, fun _ => rfl, fun _ => rfl, fun _ => rfl, fun _ => rfl, fun _ => rfl, fun _ => rfl, fun _ => rfl, fun _ => rfl⟩
set_option maxRecDepth 100000 in
theorem cx_ways {N : Int} {T : Zt} (hT : ok_T T) (ha : al_ T 109 0) (hI : IC_ N T) (hN : 0 ≤ N ∧ N ≤ 511) (hR : IR_ T) (hE : RE_ T) : Cw_ yX10_ways zX10_ways T [vR 110 0] (PX_ N T) := by
  refine ⟨_, ct_X10_ways , fun T1 r q => ?_⟩
  have g := (ic_ways hI q)
  obtain ⟨x, rfl, f, -⟩ := q
  exact px_f g hR f (by decide +kernel) ⟨rfl, rfl, rfl, rfl, rfl, rfl, rfl, rfl, rfl, rfl, fun _ => rfl, fun _ => rfl, fun _ => rfl, fun _ => rfl, fun _ => rfl, fun _ => rfl, fun _ => rfl, fun _ => rfl, fun _ => rfl⟩
set_option maxRecDepth 100000 in
theorem cx_chance {N : Int} {T : Zt} {c9 g9 : Int} (hT : ok_T T) (ha : al_ T 109 0) (hI : IC_ N T) (hN : 0 ≤ N ∧ N ≤ 511) (hR : IR_ T) (hE : RE_ T) : Cw_ yX10_chance zX10_chance T [vR 110 0, vI c9, vI g9] (PX_ N T) := by
  refine ⟨_, ct_X10_chance , fun T1 r q => ?_⟩
  have g := (ic_chance hI q)
  obtain ⟨x, rfl, f, -⟩ := q
  exact px_f g hR f (by decide +kernel) ⟨rfl, rfl, rfl, rfl, rfl, rfl, rfl, rfl, rfl, rfl, fun _ => rfl, fun _ => rfl, fun _ => rfl, fun _ => rfl, fun _ => rfl, fun _ => rfl, fun _ => rfl, fun _ => rfl, fun _ => rfl⟩
set_option maxRecDepth 100000 in
theorem cx_ball {N : Int} {T : Zt} {s9 b9 : Int} (hT : ok_T T) (ha : al_ T 109 0) (hI : IC_ N T) (hN : 0 ≤ N ∧ N ≤ 511) (hR : IR_ T) (hE : RE_ T) : Cw_ yX10_ball zX10_ball T [vR 110 0, vI s9, vI b9] (PX_ N T) := by
  refine ⟨_, ct_X10_ball , fun T1 r q => ?_⟩
  have g := (ic_ball hI q)
  obtain ⟨x, rfl, f, -⟩ := q
  exact px_f g hR f (by decide +kernel) ⟨rfl, rfl, rfl, rfl, rfl, rfl, rfl, rfl, rfl, rfl, fun _ => rfl, fun _ => rfl, fun _ => rfl, fun _ => rfl, fun _ => rfl, fun _ => rfl, fun _ => rfl, fun _ => rfl, fun _ => rfl⟩
set_option maxRecDepth 100000 in
theorem cx_drawn {N : Int} {T : Zt} {c9 : Int} (hT : ok_T T) (ha : al_ T 109 0) (hI : IC_ N T) (hN : 0 ≤ N ∧ N ≤ 511) (hR : IR_ T) (hE : RE_ T) : Cw_ yX10_drawn zX10_drawn T [vR 110 0, vI c9] (PX_ N T) := by
  refine ⟨_, ct_X10_drawn , fun T1 r q => ?_⟩
  obtain ⟨e, x, rfl, -⟩ := q
  subst e
  exact px_e hI hR
set_option maxRecDepth 100000 in
theorem cx_assign {N : Int} {T : Zt} {d9 : Int} (hT : ok_T T) (ha : al_ T 109 0) (hI : IC_ N T) (hN : 0 ≤ N ∧ N ≤ 511) (hR : IR_ T) (hE : RE_ T) : Cw_ yX10_assign zX10_assign T [vR 110 0, vI d9] (PX_ N T) := by
  have h9 : 0 ≤ T 191 0 0 ∧ T 191 0 0 ≤ 900000000 := ⟨hI.2.2.2.2.2.1, by have := hI.2.2.2.2.2.2; omega⟩
  refine ⟨_, ct_X10_assign hI.1.1 hI.1.2.1 hI.2.1 h9, fun T1 r q => ?_⟩
  have g := (ic_assign hT ha hI q)
  obtain ⟨x, rfl, f, -⟩ := q
  exact px_f g hR f (by decide +kernel) ⟨rfl, rfl, rfl, rfl, rfl, rfl, rfl, rfl, rfl, rfl, fun _ => rfl, fun _ => rfl, fun _ => rfl, fun _ => rfl, fun _ => rfl, fun _ => rfl, fun _ => rfl, fun _ => rfl, fun _ => rfl⟩
set_option maxRecDepth 100000 in
theorem cx_officialOf {N : Int} {T : Zt} {m9 : Int} (hT : ok_T T) (ha : al_ T 109 0) (hI : IC_ N T) (hN : 0 ≤ N ∧ N ≤ 511) (hR : IR_ T) (hE : RE_ T) : Cw_ yX10_officialOf zX10_officialOf T [vR 110 0, vI m9] (PX_ N T) := by
  refine ⟨_, ct_X10_officialOf hI.1.1, fun T1 r q => ?_⟩
  obtain ⟨e, x, rfl, -⟩ := q
  subst e
  exact px_e hI hR
set_option maxRecDepth 100000 in
theorem cx_count {N : Int} {T : Zt} {w9 : Int} (hT : ok_T T) (ha : al_ T 109 0) (hI : IC_ N T) (hN : 0 ≤ N ∧ N ≤ 511) (hR : IR_ T) (hE : RE_ T) : Cw_ yX10_count zX10_count T [vR 110 0, vI w9] (PX_ N T) := by
  refine ⟨_, ct_X10_count , fun T1 r q => ?_⟩
  obtain ⟨e, x, rfl, -⟩ := q
  subst e
  exact px_e hI hR
set_option maxRecDepth 100000 in
theorem cm_sign {N : Int} {T : Zt} {c9 : Int} (hT : ok_T T) (hI : IC_ N T) (hR : IR_ T) : Cw_ yX11_sign zX11_sign T [vR 111 0, vI c9] (PM_ N T) := by
  refine ⟨_, ct_X11_sign , fun T1 r q => ?_⟩
  have g := (ir_sign hR q)
  obtain ⟨x, rfl, f, -⟩ := q
  exact pm_f hI g f (by decide +kernel) ⟨rfl, rfl, rfl, rfl, rfl, rfl, rfl, rfl, rfl, rfl, fun _ => rfl, fun _ => rfl, fun _ => rfl, fun _ => rfl, fun _ => rfl, fun _ => rfl, fun _ => rfl, fun _ => rfl, fun _ => rfl⟩
set_option maxRecDepth 100000 in
theorem cm_wipe {N : Int} {T : Zt} (hT : ok_T T) (hI : IC_ N T) (hR : IR_ T) : Cw_ yX11_wipe zX11_wipe T [vR 111 0] (PM_ N T) := by
  refine ⟨_, ct_X11_wipe , fun T1 r q => ?_⟩
  have g := (ir_wipe hR q)
  obtain ⟨x, rfl, f, -⟩ := q
  exact pm_f hI g f (by decide +kernel) ⟨rfl, rfl, rfl, rfl, rfl, rfl, rfl, rfl, rfl, rfl, fun _ => rfl, fun _ => rfl, fun _ => rfl, fun _ => rfl, fun _ => rfl, fun _ => rfl, fun _ => rfl, fun _ => rfl, fun _ => rfl⟩
set_option maxRecDepth 100000 in
theorem cm_competition {N : Int} {T : Zt} (hT : ok_T T) (hI : IC_ N T) (hR : IR_ T) : Cw_ yX11_competition zX11_competition T [vR 111 0] (PM_ N T) := by
  refine ⟨_, ct_X11_competition_k hR.1 hR.2.1 hR.2.2.1, fun T1 r q => ?_⟩
  have g := (ir_competition hT hR q)
  obtain ⟨x, rfl, f, -⟩ := q
  exact pm_f hI g f (by decide +kernel) ⟨rfl, rfl, rfl, rfl, rfl, rfl, rfl, rfl, rfl, rfl, fun _ => rfl, fun _ => rfl, fun _ => rfl, fun _ => rfl, fun _ => rfl, fun _ => rfl, fun _ => rfl, fun _ => rfl, fun _ => rfl⟩
set_option maxRecDepth 100000 in
theorem cm_fault {N : Int} {T : Zt} (hT : ok_T T) (hI : IC_ N T) (hR : IR_ T) : Cw_ yX11_fault zX11_fault T [vR 111 0] (PM_ N T) := by
  refine ⟨_, ct_X11_fault , fun T1 r q => ?_⟩
  obtain ⟨e, x, rfl, -⟩ := q
  subst e
  exact pm_e hI hR
set_option maxRecDepth 100000 in
theorem cm_rule {N : Int} {T : Zt} {c9 w9 : Int} (hT : ok_T T) (hI : IC_ N T) (hR : IR_ T) : Cw_ yX11_rule zX11_rule T [vR 111 0, vI c9, vI w9] (PM_ N T) := by
  refine ⟨_, ct_X11_rule , fun T1 r q => ?_⟩
  obtain ⟨e, x, rfl, -⟩ := q
  subst e
  exact pm_e hI hR
def qm_club (N : Int) (T : Zt) (s9 c9 : Int) (T' : Zt) (r : Option Zv) : Prop := ∃ x : Int, r = some (vI x) ∧ IC_ N T' ∧ IR_ T' ∧ (T' 108 0 2 = T 108 0 2 ∧ T' 108 0 3 = T 108 0 3 ∧ T' 108 0 12 = T 108 0 12 ∧ T' 108 0 13 = T 108 0 13 ∧ T' 111 0 15 = T 111 0 15 ∧ T' 111 0 21 = T 111 0 21 ∧ T' 111 0 3 = T 111 0 3 ∧ krc_ T T' ∧ kfs_ T T' ∧ krm_ T T') ∧ (((x = -3 ∧ ¬ (0 ≤ s9 ∧ s9 ≤ 11 ∧ 0 ≤ c9 ∧ c9 ≤ 7) ∧ T' 111 0 12 = T 111 0 12) ∨ ((0 ≤ s9 ∧ s9 ≤ 11 ∧ 0 ≤ c9 ∧ c9 ≤ 7) ∧ T 111 0 12 = 12 ∧ x = -5 ∧ T' 111 0 12 = T 111 0 12) ∨ ((0 ≤ s9 ∧ s9 ≤ 11 ∧ 0 ≤ c9 ∧ c9 ≤ 7) ∧ T 111 0 12 < 12 ∧ x = T 111 0 12 ∧ T' 111 0 12 = T 111 0 12 + 1)))
set_option maxRecDepth 100000 in
theorem cm_club {N : Int} {T : Zt} {s9 c9 : Int} (hT : ok_T T) (hI : IC_ N T) (hR : IR_ T) : Cw_ yX11_club zX11_club T [vR 111 0, vI s9, vI c9] (qm_club N T s9 c9) := by
  refine ⟨_, ct_X11_club , fun T1 r q => ?_⟩
  have g := (ir_club hR q)
  obtain ⟨x, rfl, f, h⟩ := q
  exact ⟨x, rfl, ic_g hI (fr_s f (by decide +kernel)), g, ⟨f 108 0 2 rfl, f 108 0 3 rfl, f 108 0 12 rfl, f 108 0 13 rfl, f 111 0 15 rfl, f 111 0 21 rfl, f 111 0 3 rfl, ⟨f 108 0 5 rfl, fun j => f 566 0 j rfl, fun j => f 567 0 j rfl, fun j => f 568 0 j rfl, fun j => f 569 0 j rfl⟩, fun j => f 564 0 j rfl, ⟨f 111 0 16 rfl, fun j => f 217 0 j rfl, fun j => f 218 0 j rfl, fun j => f 219 0 j rfl, fun j => f 220 0 j rfl⟩⟩, h⟩
def qm_person (N : Int) (T : Zt) (T' : Zt) (r : Option Zv) : Prop := ∃ x : Int, r = some (vI x) ∧ IC_ N T' ∧ IR_ T' ∧ (T' 108 0 2 = T 108 0 2 ∧ T' 108 0 3 = T 108 0 3 ∧ T' 108 0 12 = T 108 0 12 ∧ T' 108 0 13 = T 108 0 13 ∧ T' 111 0 12 = T 111 0 12 ∧ T' 111 0 21 = T 111 0 21 ∧ T' 111 0 3 = T 111 0 3 ∧ krc_ T T' ∧ kfs_ T T' ∧ krm_ T T') ∧ (((x = -3 ∧ ¬ (0 = (0 : Int)) ∧ T' 111 0 15 = T 111 0 15) ∨ ((0 = (0 : Int)) ∧ T 111 0 15 = 200 ∧ x = -5 ∧ T' 111 0 15 = T 111 0 15) ∨ ((0 = (0 : Int)) ∧ T 111 0 15 < 200 ∧ x = T 111 0 15 ∧ T' 111 0 15 = T 111 0 15 + 1)))
set_option maxRecDepth 100000 in
theorem cm_person {N : Int} {T : Zt} (hT : ok_T T) (hI : IC_ N T) (hR : IR_ T) : Cw_ yX11_person zX11_person T [vR 111 0] (qm_person N T) := by
  refine ⟨_, ct_X11_person , fun T1 r q => ?_⟩
  have g := (ir_person hR q)
  obtain ⟨x, rfl, f, h⟩ := q
  exact ⟨x, rfl, ic_g hI (fr_s f (by decide +kernel)), g, ⟨f 108 0 2 rfl, f 108 0 3 rfl, f 108 0 12 rfl, f 108 0 13 rfl, f 111 0 12 rfl, f 111 0 21 rfl, f 111 0 3 rfl, ⟨f 108 0 5 rfl, fun j => f 566 0 j rfl, fun j => f 567 0 j rfl, fun j => f 568 0 j rfl, fun j => f 569 0 j rfl⟩, fun j => f 564 0 j rfl, ⟨f 111 0 16 rfl, fun j => f 217 0 j rfl, fun j => f 218 0 j rfl, fun j => f 219 0 j rfl, fun j => f 220 0 j rfl⟩⟩, h⟩
def qm_register (N : Int) (T : Zt) (p9 c9 f9 t9 : Int) (T' : Zt) (r : Option Zv) : Prop := ∃ x : Int, r = some (vI x) ∧ IC_ N T' ∧ IR_ T' ∧ (T' 108 0 2 = T 108 0 2 ∧ T' 108 0 3 = T 108 0 3 ∧ T' 108 0 12 = T 108 0 12 ∧ T' 108 0 13 = T 108 0 13 ∧ T' 111 0 12 = T 111 0 12 ∧ T' 111 0 15 = T 111 0 15 ∧ T' 111 0 21 = T 111 0 21 ∧ T' 111 0 3 = T 111 0 3 ∧ krc_ T T' ∧ kfs_ T T') ∧ ((QM_ T T' p9 c9 f9 t9 x))
set_option maxRecDepth 100000 in
theorem cm_register {N : Int} {T : Zt} {p9 c9 f9 t9 : Int} (hT : ok_T T) (hI : IC_ N T) (hR : IR_ T) : Cw_ yX11_register zX11_register T [vR 111 0, vI p9, vI c9, vI f9, vI t9] (qm_register N T p9 c9 f9 t9) := by
  refine ⟨_, ct_X11_register_e , fun T1 r q => ?_⟩
  have g := (ir_register hR (qm_o q))
  obtain ⟨x, rfl, f, h⟩ := q
  exact ⟨x, rfl, ic_g hI (fr_s f (by decide +kernel)), g, ⟨f 108 0 2 rfl, f 108 0 3 rfl, f 108 0 12 rfl, f 108 0 13 rfl, f 111 0 12 rfl, f 111 0 15 rfl, f 111 0 21 rfl, f 111 0 3 rfl, ⟨f 108 0 5 rfl, fun j => f 566 0 j rfl, fun j => f 567 0 j rfl, fun j => f 568 0 j rfl, fun j => f 569 0 j rfl⟩, fun j => f 564 0 j rfl⟩, h⟩
def qm_official (N : Int) (T : Zt) (s9 c9 : Int) (T' : Zt) (r : Option Zv) : Prop := ∃ x : Int, r = some (vI x) ∧ IC_ N T' ∧ IR_ T' ∧ (T' 108 0 2 = T 108 0 2 ∧ T' 108 0 3 = T 108 0 3 ∧ T' 108 0 12 = T 108 0 12 ∧ T' 108 0 13 = T 108 0 13 ∧ T' 111 0 12 = T 111 0 12 ∧ T' 111 0 15 = T 111 0 15 ∧ T' 111 0 3 = T 111 0 3 ∧ krc_ T T' ∧ kfs_ T T' ∧ krm_ T T') ∧ (((x = -3 ∧ ¬ (0 ≤ s9 ∧ s9 ≤ 11 ∧ 0 ≤ c9 ∧ c9 ≤ 7) ∧ T' 111 0 21 = T 111 0 21) ∨ ((0 ≤ s9 ∧ s9 ≤ 11 ∧ 0 ≤ c9 ∧ c9 ≤ 7) ∧ T 111 0 21 = 8 ∧ x = -5 ∧ T' 111 0 21 = T 111 0 21) ∨ ((0 ≤ s9 ∧ s9 ≤ 11 ∧ 0 ≤ c9 ∧ c9 ≤ 7) ∧ T 111 0 21 < 8 ∧ x = T 111 0 21 ∧ T' 111 0 21 = T 111 0 21 + 1)))
set_option maxRecDepth 100000 in
theorem cm_official {N : Int} {T : Zt} {s9 c9 : Int} (hT : ok_T T) (hI : IC_ N T) (hR : IR_ T) : Cw_ yX11_official zX11_official T [vR 111 0, vI s9, vI c9] (qm_official N T s9 c9) := by
  refine ⟨_, ct_X11_official , fun T1 r q => ?_⟩
  have g := (ir_official hR q)
  obtain ⟨x, rfl, f, h⟩ := q
  exact ⟨x, rfl, ic_g hI (fr_s f (by decide +kernel)), g, ⟨f 108 0 2 rfl, f 108 0 3 rfl, f 108 0 12 rfl, f 108 0 13 rfl, f 111 0 12 rfl, f 111 0 15 rfl, f 111 0 3 rfl, ⟨f 108 0 5 rfl, fun j => f 566 0 j rfl, fun j => f 567 0 j rfl, fun j => f 568 0 j rfl, fun j => f 569 0 j rfl⟩, fun j => f 564 0 j rfl, ⟨f 111 0 16 rfl, fun j => f 217 0 j rfl, fun j => f 218 0 j rfl, fun j => f 219 0 j rfl, fun j => f 220 0 j rfl⟩⟩, h⟩
def qm_day (N : Int) (T : Zt) (d9 : Int) (T' : Zt) (r : Option Zv) : Prop := ∃ x : Int, r = some (vI x) ∧ IC_ N T' ∧ IR_ T' ∧ (T' 108 0 2 = T 108 0 2 ∧ T' 108 0 3 = T 108 0 3 ∧ T' 108 0 12 = T 108 0 12 ∧ T' 108 0 13 = T 108 0 13 ∧ T' 111 0 12 = T 111 0 12 ∧ T' 111 0 15 = T 111 0 15 ∧ T' 111 0 21 = T 111 0 21 ∧ krc_ T T' ∧ kfs_ T T' ∧ krm_ T T') ∧ (((x = -3 ∧ ¬ (T 111 0 3 < d9 ∧ d9 ≤ 999) ∧ T' 111 0 3 = T 111 0 3) ∨ (T 111 0 3 < d9 ∧ d9 ≤ 999 ∧ x = T 111 0 3 ∧ T' 111 0 3 = d9)))
set_option maxRecDepth 100000 in
theorem cm_day {N : Int} {T : Zt} {d9 : Int} (hT : ok_T T) (hI : IC_ N T) (hR : IR_ T) : Cw_ yX11_day zX11_day T [vR 111 0, vI d9] (qm_day N T d9) := by
  refine ⟨_, ct_X11_day , fun T1 r q => ?_⟩
  have g := (ir_day hR q)
  obtain ⟨x, rfl, f, h⟩ := q
  exact ⟨x, rfl, ic_g hI (fr_s f (by decide +kernel)), g, ⟨f 108 0 2 rfl, f 108 0 3 rfl, f 108 0 12 rfl, f 108 0 13 rfl, f 111 0 12 rfl, f 111 0 15 rfl, f 111 0 21 rfl, ⟨f 108 0 5 rfl, fun j => f 566 0 j rfl, fun j => f 567 0 j rfl, fun j => f 568 0 j rfl, fun j => f 569 0 j rfl⟩, fun j => f 564 0 j rfl, ⟨f 111 0 16 rfl, fun j => f 217 0 j rfl, fun j => f 218 0 j rfl, fun j => f 219 0 j rfl, fun j => f 220 0 j rfl⟩⟩, h⟩
set_option maxRecDepth 100000 in
theorem cm_enter {N : Int} {T : Zt} {c9 cl9 : Int} (hT : ok_T T) (hI : IC_ N T) (hR : IR_ T) : Cw_ yX11_enter zX11_enter T [vR 111 0, vI c9, vI cl9] (PM_ N T) := by
  refine ⟨_, ct_X11_enter hR.2.2.2.1, fun T1 r q => ?_⟩
  have g := (ir_enter hR q)
  obtain ⟨x, rfl, f, -⟩ := q
  exact pm_f hI g f (by decide +kernel) ⟨rfl, rfl, rfl, rfl, rfl, rfl, rfl, rfl, rfl, rfl, fun _ => rfl, fun _ => rfl, fun _ => rfl, fun _ => rfl, fun _ => rfl, fun _ => rfl, fun _ => rfl, fun _ => rfl, fun _ => rfl⟩
set_option maxRecDepth 100000 in
theorem cm_plan {N : Int} {T : Zt} {c9 f9 : Int} (hT : ok_T T) (hI : IC_ N T) (hR : IR_ T) : Cw_ yX11_plan zX11_plan T [vR 111 0, vI c9, vI f9] (PM_ N T) := by
  refine ⟨_, ct_X11_plan_k hR.2.1, fun T1 r q => ?_⟩
  have g := (ir_plan hT hR q)
  obtain ⟨x, rfl, f, -⟩ := q
  exact pm_f hI g f (by decide +kernel) ⟨rfl, rfl, rfl, rfl, rfl, rfl, rfl, rfl, rfl, rfl, fun _ => rfl, fun _ => rfl, fun _ => rfl, fun _ => rfl, fun _ => rfl, fun _ => rfl, fun _ => rfl, fun _ => rfl, fun _ => rfl⟩
set_option maxRecDepth 100000 in
theorem cm_match {N : Int} {T : Zt} {m9 w9 : Int} (hT : ok_T T) (hI : IC_ N T) (hR : IR_ T) : Cw_ yX11_match zX11_match T [vR 111 0, vI m9, vI w9] (PM_ N T) := by
  refine ⟨_, ct_X11_match , fun T1 r q => ?_⟩
  obtain ⟨e, x, rfl, -⟩ := q
  subst e
  exact pm_e hI hR
set_option maxRecDepth 100000 in
theorem cm_breaks {N : Int} {T : Zt} {c9 cl9 : Int} (hT : ok_T T) (hI : IC_ N T) (hR : IR_ T) : Cw_ yX11_breaks zX11_breaks T [vR 111 0, vI c9, vI cl9] (PM_ N T) := by
  refine ⟨_, ct_X11_breaks hR.2.2.2.2.1, fun T1 r q => ?_⟩
  obtain ⟨e, x, rfl, -⟩ := q
  subst e
  exact pm_e hI hR
set_option maxRecDepth 100000 in
theorem cm_postpone {N : Int} {T : Zt} {m9 d9 : Int} (hT : ok_T T) (hI : IC_ N T) (hR : IR_ T) : Cw_ yX11_postpone zX11_postpone T [vR 111 0, vI m9, vI d9] (PM_ N T) := by
  refine ⟨_, ct_X11_postpone , fun T1 r q => ?_⟩
  have g := (ir_postpone hR q)
  obtain ⟨x, rfl, f, -⟩ := q
  exact pm_f hI g f (by decide +kernel) ⟨rfl, rfl, rfl, rfl, rfl, rfl, rfl, rfl, rfl, rfl, fun _ => rfl, fun _ => rfl, fun _ => rfl, fun _ => rfl, fun _ => rfl, fun _ => rfl, fun _ => rfl, fun _ => rfl, fun _ => rfl⟩
set_option maxRecDepth 100000 in
theorem cm_moved {N : Int} {T : Zt} {k9 : Int} (hT : ok_T T) (hI : IC_ N T) (hR : IR_ T) : Cw_ yX11_moved zX11_moved T [vR 111 0, vI k9] (PM_ N T) := by
  refine ⟨_, ct_X11_moved , fun T1 r q => ?_⟩
  obtain ⟨e, x, rfl, -⟩ := q
  subst e
  exact pm_e hI hR
set_option maxRecDepth 100000 in
theorem cm_deduct {N : Int} {T : Zt} {c9 cl9 p9 : Int} (hT : ok_T T) (hI : IC_ N T) (hR : IR_ T) : Cw_ yX11_deduct zX11_deduct T [vR 111 0, vI c9, vI cl9, vI p9] (PM_ N T) := by
  refine ⟨_, ct_X11_deduct , fun T1 r q => ?_⟩
  have g := (ir_deduct hR q)
  obtain ⟨x, rfl, f, -⟩ := q
  exact pm_f hI g f (by decide +kernel) ⟨rfl, rfl, rfl, rfl, rfl, rfl, rfl, rfl, rfl, rfl, fun _ => rfl, fun _ => rfl, fun _ => rfl, fun _ => rfl, fun _ => rfl, fun _ => rfl, fun _ => rfl, fun _ => rfl, fun _ => rfl⟩
set_option maxRecDepth 100000 in
theorem cm_eligible {N : Int} {T : Zt} {p9 m9 sd9 : Int} (hT : ok_T T) (hI : IC_ N T) (hR : IR_ T) : Cw_ yX11_eligible zX11_eligible T [vR 111 0, vI p9, vI m9, vI sd9] (PM_ N T) := by
  refine ⟨_, ct_X11_eligible hR.2.2.2.2.1 hR.2.2.2.2.2.1 hR.2.1, fun T1 r q => ?_⟩
  obtain ⟨e, x, rfl, -⟩ := q
  subst e
  exact pm_e hI hR
set_option maxRecDepth 100000 in
theorem cm_lineUp {N : Int} {T : Zt} {p9 m9 sd9 : Int} (hT : ok_T T) (hI : IC_ N T) (hR : IR_ T) : Cw_ yX11_lineUp zX11_lineUp T [vR 111 0, vI p9, vI m9, vI sd9] (PM_ N T) := by
  refine ⟨_, ct_X11_lineUp_k hR.2.2.2.2.1 hR.2.2.2.2.2.1 hR.2.1 hR.2.2.2.2.2.2.1, fun T1 r q => ?_⟩
  have g := (ir_lineUp hR q)
  obtain ⟨x, rfl, f, -⟩ := q
  exact pm_f hI g f (by decide +kernel) ⟨rfl, rfl, rfl, rfl, rfl, rfl, rfl, rfl, rfl, rfl, fun _ => rfl, fun _ => rfl, fun _ => rfl, fun _ => rfl, fun _ => rfl, fun _ => rfl, fun _ => rfl, fun _ => rfl, fun _ => rfl⟩
set_option maxRecDepth 100000 in
theorem cm_start {N : Int} {T : Zt} {m9 : Int} (hT : ok_T T) (hI : IC_ N T) (hR : IR_ T) : Cw_ yX11_start zX11_start T [vR 111 0, vI m9] (PM_ N T) := by
  refine ⟨_, ct_X11_start hR.2.2.2.2.2.1 hR.2.1 hR.2.2.2.2.2.2.2.1 hR.2.2.2.2.2.2.2.2.2.2.1 hR.2.2.2.2.2.2.2.2.2.2.2, fun T1 r q => ?_⟩
  have g := (ir_start hR q)
  obtain ⟨x, rfl, f, -⟩ := q
  exact pm_f hI g f (by decide +kernel) ⟨rfl, rfl, rfl, rfl, rfl, rfl, rfl, rfl, rfl, rfl, fun _ => rfl, fun _ => rfl, fun _ => rfl, fun _ => rfl, fun _ => rfl, fun _ => rfl, fun _ => rfl, fun _ => rfl, fun _ => rfl⟩
set_option maxRecDepth 100000 in
theorem cm_walkOver {N : Int} {T : Zt} {m9 s9 : Int} (hT : ok_T T) (hI : IC_ N T) (hR : IR_ T) : Cw_ yX11_walkOver zX11_walkOver T [vR 111 0, vI m9, vI s9] (PM_ N T) := by
  refine ⟨_, ct_X11_walkOver hR.2.2.2.2.2.1 hR.2.1 hR.2.2.2.2.2.2.2.1 hR.2.2.2.2.2.2.2.2.2.2.1 hR.2.2.2.2.2.2.2.2.2.2.2, fun T1 r q => ?_⟩
  have g := (ir_walkOver hR q)
  obtain ⟨x, rfl, f, -⟩ := q
  exact pm_f hI g f (by decide +kernel) ⟨rfl, rfl, rfl, rfl, rfl, rfl, rfl, rfl, rfl, rfl, fun _ => rfl, fun _ => rfl, fun _ => rfl, fun _ => rfl, fun _ => rfl, fun _ => rfl, fun _ => rfl, fun _ => rfl, fun _ => rfl⟩
set_option maxRecDepth 100000 in
theorem cm_event {N : Int} {T : Zt} {m9 k9 s9 p9 q9 : Int} (hT : ok_T T) (hI : IC_ N T) (hR : IR_ T) : Cw_ yX11_event zX11_event T [vR 111 0, vI m9, vI k9, vI s9, vI p9, vI q9] (PM_ N T) := by
  refine ⟨_, ct_X11_event hR.2.2.2.2.2.1 hR.2.1 hR.2.2.2.2.2.2.2.1 hR.2.2.2.2.2.2.2.2.1 hR.2.2.2.2.2.2.2.2.2.2.1 hR.2.2.2.2.2.2.2.2.2.2.2, fun T1 r q => ?_⟩
  have g := (ir_event hR q)
  obtain ⟨x, rfl, f, -⟩ := q
  exact pm_f hI g f (by decide +kernel) ⟨rfl, rfl, rfl, rfl, rfl, rfl, rfl, rfl, rfl, rfl, fun _ => rfl, fun _ => rfl, fun _ => rfl, fun _ => rfl, fun _ => rfl, fun _ => rfl, fun _ => rfl, fun _ => rfl, fun _ => rfl⟩
set_option maxRecDepth 100000 in
theorem cm_review {N : Int} {T : Zt} {m9 i9 k9 s9 p9 q9 : Int} (hT : ok_T T) (hI : IC_ N T) (hR : IR_ T) : Cw_ yX11_review zX11_review T [vR 111 0, vI m9, vI i9, vI k9, vI s9, vI p9, vI q9] (PM_ N T) := by
  refine ⟨_, ct_X11_review hR.2.2.2.2.2.1 hR.2.1 hR.2.2.2.2.2.2.2.1 hR.2.2.2.2.2.2.2.2.1 hR.2.2.2.2.2.2.2.2.2.2.1 hR.2.2.2.2.2.2.2.2.2.2.2, fun T1 r q => ?_⟩
  have g := (ir_review hR q)
  obtain ⟨x, rfl, f, -⟩ := q
  exact pm_f hI g f (by decide +kernel) ⟨rfl, rfl, rfl, rfl, rfl, rfl, rfl, rfl, rfl, rfl, fun _ => rfl, fun _ => rfl, fun _ => rfl, fun _ => rfl, fun _ => rfl, fun _ => rfl, fun _ => rfl, fun _ => rfl, fun _ => rfl⟩
set_option maxRecDepth 100000 in
theorem cm_rows {N : Int} {T : Zt} {m9 w9 : Int} (hT : ok_T T) (hI : IC_ N T) (hR : IR_ T) : Cw_ yX11_rows zX11_rows T [vR 111 0, vI m9, vI w9] (PM_ N T) := by
  refine ⟨_, ct_X11_rows , fun T1 r q => ?_⟩
  obtain ⟨e, x, rfl, -⟩ := q
  subst e
  exact pm_e hI hR
set_option maxRecDepth 100000 in
theorem cm_row {N : Int} {T : Zt} {m9 i9 w9 : Int} (hT : ok_T T) (hI : IC_ N T) (hR : IR_ T) : Cw_ yX11_row zX11_row T [vR 111 0, vI m9, vI i9, vI w9] (PM_ N T) := by
  refine ⟨_, ct_X11_row hR.2.2.2.2.2.2.2.2.1, fun T1 r q => ?_⟩
  obtain ⟨e, x, rfl, -⟩ := q
  subst e
  exact pm_e hI hR
set_option maxRecDepth 100000 in
theorem cm_state {N : Int} {T : Zt} {m9 w9 : Int} (hT : ok_T T) (hI : IC_ N T) (hR : IR_ T) : Cw_ yX11_state zX11_state T [vR 111 0, vI m9, vI w9] (PM_ N T) := by
  refine ⟨_, ct_X11_state , fun T1 r q => ?_⟩
  obtain ⟨e, x, rfl, -⟩ := q
  subst e
  exact pm_e hI hR
set_option maxRecDepth 100000 in
theorem cm_onField {N : Int} {T : Zt} {m9 s9 i9 : Int} (hT : ok_T T) (hI : IC_ N T) (hR : IR_ T) : Cw_ yX11_onField zX11_onField T [vR 111 0, vI m9, vI s9, vI i9] (PM_ N T) := by
  refine ⟨_, ct_X11_onField , fun T1 r q => ?_⟩
  obtain ⟨e, x, rfl, -⟩ := q
  subst e
  exact pm_e hI hR
set_option maxRecDepth 100000 in
theorem cm_table {N : Int} {T : Zt} {c9 d9 cl9 w9 : Int} (hT : ok_T T) (hI : IC_ N T) (hR : IR_ T) : Cw_ yX11_table zX11_table T [vR 111 0, vI c9, vI d9, vI cl9, vI w9] (PM_ N T) := by
  have hr4 : ∀ m, 0 ≤ m → m < 400 → T 254 0 m ≤ 3000 := fun m a _ => (bd_a hT 254 (by decide +kernel : ta_ 254 = some (1, some 400, 0, 3000)) 0 a).2
  refine ⟨_, ct_X11_table hR.2.1 hR.2.2.2.2.1 (sc_g hR.2.2.2.2.2.2.2.2.2.2.2 hr4) (yb_g hR.2.2.2.2.2.2.2.2.2.2.2 hr4), fun T1 r q => ?_⟩
  have g := (ir_table hR q)
  obtain ⟨x, rfl, f, -⟩ := q
  exact pm_f hI g f (by decide +kernel) ⟨rfl, rfl, rfl, rfl, rfl, rfl, rfl, rfl, rfl, rfl, fun _ => rfl, fun _ => rfl, fun _ => rfl, fun _ => rfl, fun _ => rfl, fun _ => rfl, fun _ => rfl, fun _ => rfl, fun _ => rfl⟩
set_option maxRecDepth 100000 in
theorem cm_standing {N : Int} {T : Zt} {c9 d9 k9 : Int} (hT : ok_T T) (hI : IC_ N T) (hR : IR_ T) : Cw_ yX11_standing zX11_standing T [vR 111 0, vI c9, vI d9, vI k9] (PM_ N T) := by
  have hr4 : ∀ m, 0 ≤ m → m < 400 → T 254 0 m ≤ 3000 := fun m a _ => (bd_a hT 254 (by decide +kernel : ta_ 254 = some (1, some 400, 0, 3000)) 0 a).2
  refine ⟨_, ct_X11_standing hR.2.1 hR.2.2.2.2.1 (sc_g hR.2.2.2.2.2.2.2.2.2.2.2 hr4) (yb_g hR.2.2.2.2.2.2.2.2.2.2.2 hr4), fun T1 r q => ?_⟩
  have g := (ir_standing hR q)
  obtain ⟨x, rfl, f, -⟩ := q
  exact pm_f hI g f (by decide +kernel) ⟨rfl, rfl, rfl, rfl, rfl, rfl, rfl, rfl, rfl, rfl, fun _ => rfl, fun _ => rfl, fun _ => rfl, fun _ => rfl, fun _ => rfl, fun _ => rfl, fun _ => rfl, fun _ => rfl, fun _ => rfl⟩
set_option maxRecDepth 100000 in
theorem cm_parted {N : Int} {T : Zt} {c9 d9 k9 : Int} (hT : ok_T T) (hI : IC_ N T) (hR : IR_ T) : Cw_ yX11_parted zX11_parted T [vR 111 0, vI c9, vI d9, vI k9] (PM_ N T) := by
  have hr4 : ∀ m, 0 ≤ m → m < 400 → T 254 0 m ≤ 3000 := fun m a _ => (bd_a hT 254 (by decide +kernel : ta_ 254 = some (1, some 400, 0, 3000)) 0 a).2
  refine ⟨_, ct_X11_parted hR.2.1 hR.2.2.2.2.1 (sc_g hR.2.2.2.2.2.2.2.2.2.2.2 hr4) (yb_g hR.2.2.2.2.2.2.2.2.2.2.2 hr4), fun T1 r q => ?_⟩
  have g := (ir_parted hR q)
  obtain ⟨x, rfl, f, -⟩ := q
  exact pm_f hI g f (by decide +kernel) ⟨rfl, rfl, rfl, rfl, rfl, rfl, rfl, rfl, rfl, rfl, fun _ => rfl, fun _ => rfl, fun _ => rfl, fun _ => rfl, fun _ => rfl, fun _ => rfl, fun _ => rfl, fun _ => rfl, fun _ => rfl⟩
set_option maxRecDepth 100000 in
theorem cm_can {N : Int} {T : Zt} {c9 cl9 : Int} (hT : ok_T T) (hI : IC_ N T) (hR : IR_ T) : Cw_ yX11_can zX11_can T [vR 111 0, vI c9, vI cl9] (PM_ N T) := by
  have hr4 : ∀ m, 0 ≤ m → m < 400 → T 254 0 m ≤ 3000 := fun m a _ => (bd_a hT 254 (by decide +kernel : ta_ 254 = some (1, some 400, 0, 3000)) 0 a).2
  refine ⟨_, ct_X11_can hR.2.1 hR.2.2.1 hR.2.2.2.2.1 (sc_g hR.2.2.2.2.2.2.2.2.2.2.2 hr4) (yb_g hR.2.2.2.2.2.2.2.2.2.2.2 hr4), fun T1 r q => ?_⟩
  have g := (ir_can hR q)
  obtain ⟨x, rfl, f, -⟩ := q
  exact pm_f hI g f (by decide +kernel) ⟨rfl, rfl, rfl, rfl, rfl, rfl, rfl, rfl, rfl, rfl, fun _ => rfl, fun _ => rfl, fun _ => rfl, fun _ => rfl, fun _ => rfl, fun _ => rfl, fun _ => rfl, fun _ => rfl, fun _ => rfl⟩
set_option maxRecDepth 100000 in
theorem cm_witness {N : Int} {T : Zt} {m9 : Int} (hT : ok_T T) (hI : IC_ N T) (hR : IR_ T) : Cw_ yX11_witness zX11_witness T [vR 111 0, vI m9] (PM_ N T) := by
  refine ⟨_, ct_X11_witness , fun T1 r q => ?_⟩
  obtain ⟨e, x, rfl, -⟩ := q
  subst e
  exact pm_e hI hR
set_option maxRecDepth 100000 in
theorem cm_cut {N : Int} {T : Zt} (hT : ok_T T) (hI : IC_ N T) (hR : IR_ T) : Cw_ yX11_cut zX11_cut T [vR 111 0] (PM_ N T) := by
  refine ⟨_, ct_X11_cut , fun T1 r q => ?_⟩
  obtain ⟨e, x, rfl, -⟩ := q
  subst e
  exact pm_e hI hR
set_option maxRecDepth 100000 in
theorem cm_firsts {N : Int} {T : Zt} {c9 cl9 : Int} (hT : ok_T T) (hI : IC_ N T) (hR : IR_ T) : Cw_ yX11_firsts zX11_firsts T [vR 111 0, vI c9, vI cl9] (PM_ N T) := by
  have hr4 : ∀ m, 0 ≤ m → m < 400 → T 254 0 m ≤ 3000 := fun m a _ => (bd_a hT 254 (by decide +kernel : ta_ 254 = some (1, some 400, 0, 3000)) 0 a).2
  refine ⟨_, ct_X11_firsts hR.2.1 hR.2.2.2.2.1 (sc_g hR.2.2.2.2.2.2.2.2.2.2.2 hr4) (yb_g hR.2.2.2.2.2.2.2.2.2.2.2 hr4), fun T1 r q => ?_⟩
  have g := (ir_firsts hR q)
  obtain ⟨x, rfl, f, -⟩ := q
  exact pm_f hI g f (by decide +kernel) ⟨rfl, rfl, rfl, rfl, rfl, rfl, rfl, rfl, rfl, rfl, fun _ => rfl, fun _ => rfl, fun _ => rfl, fun _ => rfl, fun _ => rfl, fun _ => rfl, fun _ => rfl, fun _ => rfl, fun _ => rfl⟩
def qm_drawing (N : Int) (T : Zt) (g9 l9 : Int) (T' : Zt) (r : Option Zv) : Prop := ∃ x : Int, r = some (vI x) ∧ IC_ N T' ∧ IR_ T' ∧ (T' 108 0 2 = T 108 0 2 ∧ T' 108 0 3 = T 108 0 3 ∧ T' 108 0 12 = T 108 0 12 ∧ T' 108 0 13 = T 108 0 13 ∧ T' 111 0 12 = T 111 0 12 ∧ T' 111 0 15 = T 111 0 15 ∧ T' 111 0 21 = T 111 0 21 ∧ T' 111 0 3 = T 111 0 3 ∧ krc_ T T' ∧ kfs_ T T' ∧ krm_ T T') ∧ (((x = -3 ∧ ¬ (1 ≤ g9 ∧ g9 ≤ 4 ∧ 1 ≤ l9 ∧ l9 ≤ 3)) ∨ (x = 1 ∧ 1 ≤ g9 ∧ g9 ≤ 4 ∧ 1 ≤ l9 ∧ l9 ≤ 3)))
set_option maxRecDepth 100000 in
theorem cm_drawing {N : Int} {T : Zt} {g9 l9 : Int} (hT : ok_T T) (hI : IC_ N T) (hR : IR_ T) : Cw_ yX11_drawing zX11_drawing T [vR 111 0, vI g9, vI l9] (qm_drawing N T g9 l9) := by
  refine ⟨_, ct_X11_drawing , fun T1 r q => ?_⟩
  have g := (ir_drawing hR q)
  obtain ⟨x, rfl, f, h⟩ := q
  exact ⟨x, rfl, ic_g hI (fr_s f (by decide +kernel)), g, ⟨f 108 0 2 rfl, f 108 0 3 rfl, f 108 0 12 rfl, f 108 0 13 rfl, f 111 0 12 rfl, f 111 0 15 rfl, f 111 0 21 rfl, f 111 0 3 rfl, ⟨f 108 0 5 rfl, fun j => f 566 0 j rfl, fun j => f 567 0 j rfl, fun j => f 568 0 j rfl, fun j => f 569 0 j rfl⟩, fun j => f 564 0 j rfl, ⟨f 111 0 16 rfl, fun j => f 217 0 j rfl, fun j => f 218 0 j rfl, fun j => f 219 0 j rfl, fun j => f 220 0 j rfl⟩⟩, h⟩
set_option maxRecDepth 100000 in
theorem cm_pot {N : Int} {T : Zt} {cl9 p9 : Int} (hT : ok_T T) (hI : IC_ N T) (hR : IR_ T) : Cw_ yX11_pot zX11_pot T [vR 111 0, vI cl9, vI p9] (PM_ N T) := by
  refine ⟨_, ct_X11_pot , fun T1 r q => ?_⟩
  have g := (ir_pot hR q)
  obtain ⟨x, rfl, f, -⟩ := q
  exact pm_f hI g f (by decide +kernel) ⟨rfl, rfl, rfl, rfl, rfl, rfl, rfl, rfl, rfl, rfl, fun _ => rfl, fun _ => rfl, fun _ => rfl, fun _ => rfl, fun _ => rfl, fun _ => rfl, fun _ => rfl, fun _ => rfl, fun _ => rfl⟩
set_option maxRecDepth 100000 in
theorem cm_ways {N : Int} {T : Zt} (hT : ok_T T) (hI : IC_ N T) (hR : IR_ T) : Cw_ yX11_ways zX11_ways T [vR 111 0] (PM_ N T) := by
  refine ⟨_, ct_X11_ways , fun T1 r q => ?_⟩
  have g := (ir_ways hR q)
  obtain ⟨x, rfl, f, -⟩ := q
  exact pm_f hI g f (by decide +kernel) ⟨rfl, rfl, rfl, rfl, rfl, rfl, rfl, rfl, rfl, rfl, fun _ => rfl, fun _ => rfl, fun _ => rfl, fun _ => rfl, fun _ => rfl, fun _ => rfl, fun _ => rfl, fun _ => rfl, fun _ => rfl⟩
set_option maxRecDepth 100000 in
theorem cm_chance {N : Int} {T : Zt} {cl9 g9 : Int} (hT : ok_T T) (hI : IC_ N T) (hR : IR_ T) : Cw_ yX11_chance zX11_chance T [vR 111 0, vI cl9, vI g9] (PM_ N T) := by
  refine ⟨_, ct_X11_chance , fun T1 r q => ?_⟩
  have g := (ir_chance hR q)
  obtain ⟨x, rfl, f, -⟩ := q
  exact pm_f hI g f (by decide +kernel) ⟨rfl, rfl, rfl, rfl, rfl, rfl, rfl, rfl, rfl, rfl, fun _ => rfl, fun _ => rfl, fun _ => rfl, fun _ => rfl, fun _ => rfl, fun _ => rfl, fun _ => rfl, fun _ => rfl, fun _ => rfl⟩
set_option maxRecDepth 100000 in
theorem cm_ball {N : Int} {T : Zt} {ta9 fi9 : Int} (hT : ok_T T) (hI : IC_ N T) (hR : IR_ T) : Cw_ yX11_ball zX11_ball T [vR 111 0, vI ta9, vI fi9] (PM_ N T) := by
  refine ⟨_, ct_X11_ball , fun T1 r q => ?_⟩
  have g := (ir_ball hR q)
  obtain ⟨x, rfl, f, -⟩ := q
  exact pm_f hI g f (by decide +kernel) ⟨rfl, rfl, rfl, rfl, rfl, rfl, rfl, rfl, rfl, rfl, fun _ => rfl, fun _ => rfl, fun _ => rfl, fun _ => rfl, fun _ => rfl, fun _ => rfl, fun _ => rfl, fun _ => rfl, fun _ => rfl⟩
set_option maxRecDepth 100000 in
theorem cm_drawn {N : Int} {T : Zt} {c9 : Int} (hT : ok_T T) (hI : IC_ N T) (hR : IR_ T) : Cw_ yX11_drawn zX11_drawn T [vR 111 0, vI c9] (PM_ N T) := by
  refine ⟨_, ct_X11_drawn , fun T1 r q => ?_⟩
  obtain ⟨e, x, rfl, -⟩ := q
  subst e
  exact pm_e hI hR
set_option maxRecDepth 100000 in
theorem cm_assign {N : Int} {T : Zt} {d9 : Int} (hT : ok_T T) (hI : IC_ N T) (hR : IR_ T) : Cw_ yX11_assign zX11_assign T [vR 111 0, vI d9] (PM_ N T) := by
  refine ⟨_, ct_X11_assign , fun T1 r q => ?_⟩
  have g := (ir_assign hR q)
  obtain ⟨x, rfl, f, -⟩ := q
  exact pm_f hI g f (by decide +kernel) ⟨rfl, rfl, rfl, rfl, rfl, rfl, rfl, rfl, rfl, rfl, fun _ => rfl, fun _ => rfl, fun _ => rfl, fun _ => rfl, fun _ => rfl, fun _ => rfl, fun _ => rfl, fun _ => rfl, fun _ => rfl⟩
set_option maxRecDepth 100000 in
theorem cm_officialOf {N : Int} {T : Zt} {m9 : Int} (hT : ok_T T) (hI : IC_ N T) (hR : IR_ T) : Cw_ yX11_officialOf zX11_officialOf T [vR 111 0, vI m9] (PM_ N T) := by
  refine ⟨_, ct_X11_officialOf , fun T1 r q => ?_⟩
  obtain ⟨e, x, rfl, -⟩ := q
  subst e
  exact pm_e hI hR
set_option maxRecDepth 100000 in
theorem cm_count {N : Int} {T : Zt} {w9 : Int} (hT : ok_T T) (hI : IC_ N T) (hR : IR_ T) : Cw_ yX11_count zX11_count T [vR 111 0, vI w9] (PM_ N T) := by
  refine ⟨_, ct_X11_count , fun T1 r q => ?_⟩
  obtain ⟨e, x, rfl, -⟩ := q
  subst e
  exact pm_e hI hR
theorem re_club {N : Int} {T T1 T2 : Zt} {s9 c9 : Int} {r1 r2 : Option Zv} (h : RE_ T) (hb : 0 ≤ T 108 0 5) (a : qx_club N T s9 c9 T1 r1) (b : qm_club (N + 1) T1 s9 c9 T2 r2) : LQo_ N T2 r1 r2 := by
  obtain ⟨x1, e1, -, -, ⟨a1, a2, a3, a4, a5, a6, a7, akrc, akfs, akrm⟩, d1⟩ := a
  obtain ⟨x2, e2, i2, j2, ⟨b0, b1, b2, b3, b5, b6, b7, bkrc, bkfs, bkrm⟩, d2⟩ := b
  obtain ⟨h0, h1, h2, h3, hs⟩ := h
  obtain rfl : x1 = x2 := by omega
  exact ⟨_, e1, e2, i2, j2, by omega, by omega, by omega, by omega, spr_k hs (by omega) (krc_t akrc bkrc) (kfs_t akfs bkfs) (krm_t akrm bkrm)⟩
theorem re_person {N : Int} {T T1 T2 : Zt} {r1 r2 : Option Zv} (h : RE_ T) (hb : 0 ≤ T 108 0 5) (a : qx_person N T T1 r1) (b : qm_person (N + 1) T1 T2 r2) : LQo_ N T2 r1 r2 := by
  obtain ⟨x1, e1, -, -, ⟨a0, a2, a3, a4, a5, a6, a7, akrc, akrm⟩, d1⟩ := a
  obtain ⟨x2, e2, i2, j2, ⟨b0, b1, b2, b3, b4, b6, b7, bkrc, bkfs, bkrm⟩, d2⟩ := b
  obtain ⟨h0, h1, h2, h3, hs⟩ := h
  have hs2 := spr_p hs d1 akrc akrm b1 bkrc bkfs bkrm
  have d1 : (T 108 0 3 = 200 ∧ x1 = -5 ∧ T1 108 0 3 = T 108 0 3) ∨ (T 108 0 3 < 200 ∧ x1 = T 108 0 3 ∧ T1 108 0 3 = T 108 0 3 + 1) := d1.elim (fun z => Or.inl ⟨z.1, z.2.1, by rw [z.2.2]⟩) (fun z => Or.inr ⟨z.1, z.2.1, z.2.2.1⟩)
  obtain rfl : x1 = x2 := by omega
  exact ⟨_, e1, e2, i2, j2, by omega, by omega, by omega, by omega, hs2⟩
theorem re_register {N : Int} {T T1 T2 : Zt} {p9 cl9 a9 b9 : Int} {r1 r2 : Option Zv} (h : RE_ T) (hb : 0 ≤ T 108 0 5) (a : qx_register N T p9 cl9 a9 b9 T1 r1) (b : qm_register (N + 1) T1 p9 cl9 a9 b9 T2 r2) : LQo_ N T2 r1 r2 := by
  obtain ⟨x1, e1, -, -, ⟨a0, a1, a2, a3, a4, a5, a6, a7, akrm⟩, d1⟩ := a
  obtain ⟨x2, e2, i2, j2, ⟨b0, b1, b2, b3, b4, b5, b6, b7, bkrc, bkfs⟩, d2⟩ := b
  obtain ⟨h0, h1, h2, h3, hs⟩ := h
  obtain ⟨ex, hs2⟩ := spr_r hs hb h1 h0 d1 akrm a1 a5 a4 d2 bkrc bkfs b1
  subst ex
  exact ⟨_, e1, e2, i2, j2, by omega, by omega, by omega, by omega, hs2⟩
theorem re_official {N : Int} {T T1 T2 : Zt} {s9 c9 : Int} {r1 r2 : Option Zv} (h : RE_ T) (hb : 0 ≤ T 108 0 5) (a : qx_official N T s9 c9 T1 r1) (b : qm_official (N + 1) T1 s9 c9 T2 r2) : LQo_ N T2 r1 r2 := by
  obtain ⟨x1, e1, -, -, ⟨a0, a1, a3, a4, a5, a6, a7, akrc, akfs, akrm⟩, d1⟩ := a
  obtain ⟨x2, e2, i2, j2, ⟨b0, b1, b2, b3, b4, b5, b7, bkrc, bkfs, bkrm⟩, d2⟩ := b
  obtain ⟨h0, h1, h2, h3, hs⟩ := h
  obtain rfl : x1 = x2 := by omega
  exact ⟨_, e1, e2, i2, j2, by omega, by omega, by omega, by omega, spr_k hs (by omega) (krc_t akrc bkrc) (kfs_t akfs bkfs) (krm_t akrm bkrm)⟩
theorem re_day {N : Int} {T T1 T2 : Zt} {d9 : Int} {r1 r2 : Option Zv} (h : RE_ T) (hb : 0 ≤ T 108 0 5) (a : qx_day N T d9 T1 r1) (b : qm_day (N + 1) T1 d9 T2 r2) : LQo_ N T2 r1 r2 := by
  obtain ⟨x1, e1, -, -, ⟨a0, a1, a2, a4, a5, a6, a7, akrc, akfs, akrm⟩, d1⟩ := a
  obtain ⟨x2, e2, i2, j2, ⟨b0, b1, b2, b3, b4, b5, b6, bkrc, bkfs, bkrm⟩, d2⟩ := b
  obtain ⟨h0, h1, h2, h3, hs⟩ := h
  obtain rfl : x1 = x2 := by omega
  exact ⟨_, e1, e2, i2, j2, by omega, by omega, by omega, by omega, spr_k hs (by omega) (krc_t akrc bkrc) (kfs_t akfs bkfs) (krm_t akrm bkrm)⟩
theorem re_drawing {N : Int} {T T1 T2 : Zt} {g9 l9 : Int} {r1 r2 : Option Zv} (h : RE_ T) (hb : 0 ≤ T 108 0 5) (a : qx_drawing N T g9 l9 T1 r1) (b : qm_drawing (N + 1) T1 g9 l9 T2 r2) : LQo_ N T2 r1 r2 := by
  obtain ⟨x1, e1, -, -, ⟨a0, a1, a2, a3, a4, a5, a6, a7, akrc, akfs, akrm⟩, d1⟩ := a
  obtain ⟨x2, e2, i2, j2, ⟨b0, b1, b2, b3, b4, b5, b6, b7, bkrc, bkfs, bkrm⟩, d2⟩ := b
  obtain ⟨h0, h1, h2, h3, hs⟩ := h
  obtain rfl : x1 = x2 := by omega
  exact ⟨_, e1, e2, i2, j2, by omega, by omega, by omega, by omega, spr_k hs (by omega) (krc_t akrc bkrc) (kfs_t akfs bkfs) (krm_t akrm bkrm)⟩
