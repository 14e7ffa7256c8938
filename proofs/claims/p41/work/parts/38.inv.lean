/-- matches of c are added; behind them nothing is changed -/
def am2_ (T T' : Zt) (c : Int) : Prop := T 111 0 29 ≤ T' 111 0 29 ∧ (∀ j, j < T 111 0 29 → T' 230 0 j = T 230 0 j ∧ T' 231 0 j = T 231 0 j ∧ T' 232 0 j = T 232 0 j ∧ T' 233 0 j = T 233 0 j ∧ T' 234 0 j = T 234 0 j ∧ T' 235 0 j = T 235 0 j ∧ T' 238 0 j = T 238 0 j ∧ T' 253 0 j = T 253 0 j ∧ T' 255 0 j = T 255 0 j) ∧ (∀ j, T 111 0 29 ≤ j → j < T' 111 0 29 → T' 230 0 j = c ∧ T' 235 0 j = 0 ∧ T' 253 0 j = -1 ∧ T' 255 0 j = -1) ∧ ∀ j, T' 111 0 29 ≤ j → T' 235 0 j = T 235 0 j
theorem am2_s {T T1 T2 : Zt} {c : Int} (h : am2_ T T1 c) (g : am1_ T1 T2 c) : am2_ T T2 c := by
  obtain ⟨h1, h2, h3, h4⟩ := h
  have k := am_s ⟨h1, h2, h3⟩ g
  refine ⟨k.1, k.2.1, k.2.2, fun j a => ?_⟩
  obtain ⟨g1, g2, -⟩ := g
  exact (g2 j (by omega)).2.2.2.2.2.1.trans (h4 j (by omega))
abbrev po_X11_competition_k (T : Zt) : Zt → Option Zv → Prop := fun T' r => ∃ x : Int, r = some (vI x) ∧ fr_ [(111, [1, 2, 6, 57, 58, 59, 60, 61, 62, 63]), (204, []), (269, []), (270, []), (205, [])] T T' ∧ ((x < 0 ∧ T' 111 0 6 = T 111 0 6 ∨ x = T 111 0 6 ∧ T' 111 0 6 = x + 1) ∧ RI_ T' ∧ RW_ T' ∧ ∀ j, j < 23 * T 111 0 6 → T' 205 0 j = T 205 0 j)
abbrev po_X11_plan_k (T : Zt) (c f : Int) : Zt → Option Zv → Prop := fun T' r => ∃ x : Int, r = some (vI x) ∧ fr_ [(230, []), (231, []), (232, []), (233, []), (234, []), (235, []), (238, []), (253, []), (255, []), (111, [29]), (209, []), (210, []), (211, [])] T T' ∧ ((x < 0 ∧ T = T') ∨ (0 ≤ c ∧ c < T 111 0 6 ∧ am2_ T T' c ∧ T' 111 0 29 ≤ 400 ∧ T' 210 0 c = T 111 0 29 ∧ T' 211 0 c = T' 111 0 29 - T 111 0 29 ∧ (∀ z, z ≠ c → T' 210 0 z = T 210 0 z ∧ T' 211 0 z = T 211 0 z ∧ T' 209 0 z = T 209 0 z)))
abbrev po_X11_lineUp_k (T : Zt) (p m sd : Int) : Zt → Option Zv → Prop := fun T' r => ∃ x : Int, r = some (vI x) ∧ fr_ [(239, []), (240, [])] T T' ∧ (SH_ T' ∧ ∀ z, T 239 0 z ≤ T' 239 0 z)
set_option maxHeartbeats 4000000 in
theorem ct_X11_lineUp_k {T : Zt} {p m sd : Int} (hml : ML_ T) (hmc : MC_ T) (hri : RI_ T) (hsh : SH_ T) : Ct_ yX11_lineUp zX11_lineUp T [vR 111 0, vI p, vI m, vI sd] (po_X11_lineUp_k T p m sd) := by
  refine ct_of (by decide) rfl rfl (Nat.le_of_ble_eq_true rfl) (fun hT hav => ?_)
  have hr_p : -2147483648 ≤ p ∧ p ≤ 2147483647 := hav (vI p) (by simp)
  have hr_m : -2147483648 ≤ m ∧ m ≤ 2147483647 := hav (vI m) (by simp)
  have hr_sd : -2147483648 ≤ sd ∧ sd ≤ 2147483647 := hav (vI sd) (by simp)
  have hz : zX11_lineUp.2.2.2.1 = some .boolean → ∀ (T' : Zt) (x : Int), po_X11_lineUp_k T p m sd T' (some (vI x)) → 0 ≤ x ∧ x ≤ 1 := fun h => by cases h
  have hb_29 : 0 ≤ T 111 0 29 ∧ T 111 0 29 ≤ 400 := bd_f hT 111 29 (by decide +kernel : (tf_ 111)[29]? = some (0, 0, 0, 400)) 0
  have hb_15 : 0 ≤ T 111 0 15 ∧ T 111 0 15 ≤ 200 := bd_f hT 111 15 (by decide +kernel : (tf_ 111)[15]? = some (0, 0, 0, 200)) 0
  have hb_6 : 0 ≤ T 111 0 6 ∧ T 111 0 6 ≤ 4 := bd_f hT 111 6 (by decide +kernel : (tf_ 111)[6]? = some (0, 0, 0, 4)) 0
  show J_ zX11_lineUp T (po_X11_lineUp_k T p m sd) 0 0 0 [some (vR 111 0), some (vI p), some (vI m), some (vI sd), none, none] [] T
  refine j_blx (F := fX11) tb_X11 (by decide) bk_X11_lineUp_0 bs_X11_lineUp_0 hz (fun K hK => ?_)
  intro b1 b1b
  refine hK 5 [some (vR 111 0), some (vI p), some (vI m), some (vI sd), none, none] [vI (T 111 0 15), vI p] T ?_
  refine j_callS (y := yX11_isOf) (Yc := zX11_isOf) (rest := []) [vI p, vI (T 111 0 15)] (ct_X11_isOf (T := T) (by omega)) cl_X11_317 (qd_c (by decide +kernel)) (by decide) rfl (by decide +kernel) (Nat.le_of_ble_eq_true rfl) (by decide) (by decide) rfl ?_
  rintro _ _ ⟨rfl, x2, rfl, hx2⟩
  show J_ zX11_lineUp T (po_X11_lineUp_k T p m sd) 0 0 8 [some (vR 111 0), some (vI p), some (vI m), some (vI sd), none, none] [vI x2] T
  refine j_blx (F := fX11) tb_X11 (by decide) bk_X11_lineUp_8 bs_X11_lineUp_8 hz (fun K hK => ?_)
  refine And.intro (fun c3 => ?_) (fun c3 => ?_)
  · refine hK 22 [some (vR 111 0), some (vI p), some (vI m), some (vI sd), none, none] [] T ?_
    refine j_blx (F := fX11) tb_X11 (by decide) bk_X11_lineUp_22 bs_X11_lineUp_22 hz (fun K hK => ?_)
    refine (show po_X11_lineUp_k T p m sd T (some (vI (-2))) from ?_)
    exact ⟨_, rfl, fr_0 _ _, hsh, fun _ => Int.le_refl _⟩
  · intro b4 b4b
    refine hK 16 [some (vR 111 0), some (vI p), some (vI m), some (vI sd), none, none] [vI (T 111 0 29), vI m] T ?_
    refine j_callS (y := yX11_isOf) (Yc := zX11_isOf) (rest := []) [vI m, vI (T 111 0 29)] (ct_X11_isOf (T := T) (by omega)) cl_X11_317 (qd_c (by decide +kernel)) (by decide) rfl (by decide +kernel) (Nat.le_of_ble_eq_true rfl) (by decide) (by decide) rfl ?_
    rintro _ _ ⟨rfl, x5, rfl, hx5⟩
    show J_ zX11_lineUp T (po_X11_lineUp_k T p m sd) 0 0 19 [some (vR 111 0), some (vI p), some (vI m), some (vI sd), none, none] [vI x5] T
    refine j_blx (F := fX11) tb_X11 (by decide) bk_X11_lineUp_19 bs_X11_lineUp_19 hz (fun K hK => ?_)
    refine And.intro (fun c6 => ?_) (fun c6 => ?_)
    · refine hK 25 [some (vR 111 0), some (vI p), some (vI m), some (vI sd), none, none] [] T ?_
      refine j_blx (F := fX11) tb_X11 (by decide) bk_X11_lineUp_25 bs_X11_lineUp_25 hz (fun K hK => ?_)
      refine hK 28 [some (vR 111 0), some (vI p), some (vI m), some (vI sd), none, none] [vI 1, vI 0, vI sd] T ?_
      refine j_callS (y := yX11_in) (Yc := zX11_in) (rest := []) [vI sd, vI 0, vI 1] (ct_X11_in (T := T)) cl_X11_255 (qd_c (by decide +kernel)) (by decide) rfl (by decide +kernel) (Nat.le_of_ble_eq_true rfl) (by decide) (by decide) rfl ?_
      rintro _ _ ⟨rfl, x7, rfl, hx7⟩
      show J_ zX11_lineUp T (po_X11_lineUp_k T p m sd) 0 0 31 [some (vR 111 0), some (vI p), some (vI m), some (vI sd), none, none] [vI x7] T
      refine j_blx (F := fX11) tb_X11 (by decide) bk_X11_lineUp_31 bs_X11_lineUp_31 hz (fun K hK => ?_)
      refine And.intro (fun c8 => ?_) (fun c8 => ?_)
      · refine hK 37 [some (vR 111 0), some (vI p), some (vI m), some (vI sd), none, none] [] T ?_
        refine j_blx (F := fX11) tb_X11 (by decide) bk_X11_lineUp_37 bs_X11_lineUp_37 hz (fun K hK => ?_)
        refine ix_i (by omega) ?_
        intro b9 b9b
        refine And.intro (fun c10 => ?_) (fun c10 => ?_)
        · refine hK 49 [some (vR 111 0), some (vI p), some (vI m), some (vI sd), none, none] [] T ?_
          refine j_blx (F := fX11) tb_X11 (by decide) bk_X11_lineUp_49 bs_X11_lineUp_49 hz (fun K hK => ?_)
          refine rg_i (by omega) ?_
          refine rg_i (by omega) ?_
          refine ix_i (by omega) ?_
          intro b11 b11b
          refine ix_i (by omega) ?_
          intro b12 b12b
          refine hK 72 [some (vR 111 0), some (vI p), some (vI m), some (vI sd), some (vI ((2 * m) + sd)), none] [vI 9, vI (T 230 0 m), vR 111 0, vI (T 239 0 ((2 * m) + sd))] T ?_
          refine j_callV (y := yX11_rule0) (Yc := zX11_rule0) (rest := [vI (T 239 0 ((2 * m) + sd))]) [vI (T 230 0 m), vI 9] (ct_X11_rule0 (T := T) (by omega) (by omega)) cl_X11_321 (qd_c (by decide +kernel)) (by decide) rfl (by decide +kernel) (Nat.le_of_ble_eq_true rfl) (by decide) (by decide) rfl ?_
          rintro _ _ ⟨rfl, rfl⟩
          show J_ zX11_lineUp T (po_X11_lineUp_k T p m sd) 0 0 75 [some (vR 111 0), some (vI p), some (vI m), some (vI sd), some (vI ((2 * m) + sd)), none] [vI (T 205 0 (23 * (T 230 0 m) + 9)), vI (T 239 0 ((2 * m) + sd))] T
          have hcm := hmc m (by omega) (by omega)
          have hr9 : (1 : Int) ≤ T 205 0 (23 * T 230 0 m + 9) ∧ T 205 0 (23 * T 230 0 m + 9) ≤ (6 : Int) := hri (T 230 0 m) 9 (by omega) (by omega) (by omega) (by omega)
          have hsm := (hsh m sd (by omega) (by omega) (by omega) (by omega)).1 (by omega)
          refine j_blx (F := fX11) tb_X11 (by decide) bk_X11_lineUp_75 bs_X11_lineUp_75 hz (fun K hK => ?_)
          refine rg_i (by omega) ?_
          refine And.intro (fun c13 => ?_) (fun c13 => ?_)
          · refine hK 83 [some (vR 111 0), some (vI p), some (vI m), some (vI sd), some (vI ((2 * m) + sd)), none] [] T ?_
            refine j_blx (F := fX11) tb_X11 (by decide) bk_X11_lineUp_83 bs_X11_lineUp_83 hz (fun K hK => ?_)
            refine hK 87 [some (vR 111 0), some (vI p), some (vI m), some (vI sd), some (vI ((2 * m) + sd)), none] [vI sd, vI m, vI p, vR 111 0] T ?_
            refine j_callV (y := yX11_whyNot) (Yc := zX11_whyNot) (rest := []) [vI p, vI m, vI sd] (ct_X11_whyNot (T := T) (by omega) (by exact hml) (by exact hmc) (by exact hri)) cl_X11_387 (qd_c (by decide +kernel)) (by decide) rfl (by decide +kernel) (Nat.le_of_ble_eq_true rfl) (by decide) (by decide) rfl ?_
            rintro _ _ ⟨rfl, x14, rfl, hx14⟩
            show J_ zX11_lineUp T (po_X11_lineUp_k T p m sd) 0 0 90 [some (vR 111 0), some (vI p), some (vI m), some (vI sd), some (vI ((2 * m) + sd)), none] [vI x14] T
            refine j_blx (F := fX11) tb_X11 (by decide) bk_X11_lineUp_90 bs_X11_lineUp_90 hz (fun K hK => ?_)
            refine And.intro (fun c15 => ?_) (fun c15 => ?_)
            · refine hK 103 [some (vR 111 0), some (vI p), some (vI m), some (vI sd), some (vI ((2 * m) + sd)), some (vI x14)] [] T ?_
              refine j_blx (F := fX11) tb_X11 (by decide) bk_X11_lineUp_103 bs_X11_lineUp_103 hz (fun K hK => ?_)
              refine rg_i (by omega) ?_
              refine ix_i (by omega) ?_
              intro b16 b16b
              refine rg_i (by omega) ?_
              refine iy_i (by omega) (by omega) ?_
              refine x_nm (fun U17 hU17 => ?_)
              have e18 := up_f hU17
              refine ix_i (by omega) ?_
              intro b19 b19b
              have e20 : U17 239 0 ((2 * m) + sd) = T 239 0 ((2 * m) + sd) := up_k hU17 (by decide) 0 ((2 * m) + sd)
              rw [e20] at b19 b19b ⊢
              refine rg_i (by omega) ?_
              refine iy_i (by omega) (by omega) ?_
              refine x_nm (fun U21 hU21 => ?_)
              have e22 := up_f hU21
              refine ix_i (by omega) ?_
              intro b23 b23b
              have e24 : U21 239 0 ((2 * m) + sd) = (T 239 0 ((2 * m) + sd)) + 1 := up_f hU21
              rw [e24] at b23 b23b ⊢
              refine (show po_X11_lineUp_k T p m sd U21 (some (vI ((T 239 0 ((2 * m) + sd)) + 1))) from ?_)
              have es : ∀ z, z ≠ 2 * m + sd → U21 239 0 z = T 239 0 z := fun z hz => (up_g hU21 (fun q => hz q.2.2)).trans (up_k hU17 (by decide) 0 z)
              have er : ∀ z, U21 205 0 z = T 205 0 z := fun z => (up_k hU21 (by decide) 0 z).trans (up_k hU17 (by decide) 0 z)
              have ec : ∀ z, U21 230 0 z = T 230 0 z := fun z => (up_k hU21 (by decide) 0 z).trans (up_k hU17 (by decide) 0 z)
              have e29 : U21 111 0 29 = T 111 0 29 := (up_k hU21 (by decide) 0 29).trans (up_k hU17 (by decide) 0 29)
              have eg : ∀ z, T 239 0 z ≤ U21 239 0 z := fun z => by
                by_cases y : z = 2 * m + sd
                · rw [y]; omega
                · rw [es z y]; exact Int.le_refl _
              refine ⟨_, rfl, fr_u (fr_u (fr_0 _ _) hU17 rfl) hU21 rfl, fun m9 s9 a b c d => ?_, eg⟩
              have y := hsh m9 s9 a b c d
              rw [er, ec, e29]
              by_cases z9 : m9 = m ∧ s9 = sd
              · obtain ⟨rfl, rfl⟩ := z9
                have e8 : U21 239 0 (2 * m9 + s9) = T 239 0 (2 * m9 + s9) + 1 := by omega
                rw [e8]; omega
              · rw [es _ (by omega)]; exact y
            · refine rg_i (by omega) ?_
              refine (show po_X11_lineUp_k T p m sd T (some (vI ((-10) - x14))) from ?_)
              exact ⟨_, rfl, fr_0 _ _, hsh, fun _ => Int.le_refl _⟩
          · refine (show po_X11_lineUp_k T p m sd T (some (vI (-5))) from ?_)
            exact ⟨_, rfl, fr_0 _ _, hsh, fun _ => Int.le_refl _⟩
        · refine (show po_X11_lineUp_k T p m sd T (some (vI (-4))) from ?_)
          exact ⟨_, rfl, fr_0 _ _, hsh, fun _ => Int.le_refl _⟩
      · refine (show po_X11_lineUp_k T p m sd T (some (vI (-3))) from ?_)
        exact ⟨_, rfl, fr_0 _ _, hsh, fun _ => Int.le_refl _⟩
    · refine (show po_X11_lineUp_k T p m sd T (some (vI (-2))) from ?_)
      exact ⟨_, rfl, fr_0 _ _, hsh, fun _ => Int.le_refl _⟩
theorem rz_f {T T1 : Zt} (h : RZ_ T) (a : T1 111 0 29 = T 111 0 29) (b : ∀ j, T1 254 0 j = T 254 0 j) (c : ∀ j, T1 256 0 j = T 256 0 j) : RZ_ T1 := fun m p q => by rw [b, c]; exact h m (by omega) q
/-- what holds between the calls -/
def IR_ (T : Zt) : Prop := CW_ T ∧ RI_ T ∧ RW_ T ∧ EN_ T ∧ ML_ T ∧ MC_ T ∧ SH_ T ∧ FM_ T ∧ RX_ T [] ∧ RZ_ T ∧ ZS_ T ∧ GX_ T (-1)
theorem en_c {T T1 : Zt} (h : EN_ T) (a : ∀ j, T1 208 0 j = T 208 0 j) (b : ∀ j, T1 207 0 j = T 207 0 j) (c : T 111 0 12 ≤ T1 111 0 12) : EN_ T1 := fun k p q => by
  have y := h k p q
  refine ⟨fun j u v => ?_, fun i j u v w => ?_⟩
  · rw [a] at v
    rw [b]
    have := y.1 j u v
    omega
  · rw [a] at w
    rw [b, b]
    exact y.2 i j u v w
theorem mc_c {T T1 : Zt} (h : MC_ T) (a : ∀ j, T1 230 0 j = T 230 0 j) (b : T1 111 0 29 = T 111 0 29) (c : T 111 0 6 ≤ T1 111 0 6) : MC_ T1 := fun m p q => by
  rw [a]
  have := h m p (by omega)
  omega
theorem sh_c {T T1 : Zt} (h : SH_ T) (g : MC_ T) (nn : ∀ j, 0 ≤ j → 0 ≤ T 230 0 j) (a : ∀ j, T1 230 0 j = T 230 0 j) (b : T1 111 0 29 = T 111 0 29) (c : ∀ j, T1 239 0 j = T 239 0 j) (d : ∀ j, j < 23 * T 111 0 6 → T1 205 0 j = T 205 0 j) : SH_ T1 := fun m s p q u v => by
  have y := h m s p q u v
  rw [a, b, c]
  refine ⟨fun z => ?_, y.2⟩
  have k := g m p z
  rw [d _ (by omega)]
  exact y.1 z
theorem zs_l {T T1 : Zt} (h : ZS_ T) (a : ∀ j, T1 242 0 j = T 242 0 j) (c : ∀ j, T 239 0 j ≤ T1 239 0 j) : ZS_ T1 := fun j p q r => by
  rw [a]
  have := c (j / 10)
  exact h j p q (by omega)
theorem rz_o {T T1 : Zt} {m : Int} (h : RZ_ T) (a : T1 111 0 29 = T 111 0 29) (b : ∀ j, j ≠ m ∨ T 111 0 29 ≤ j → T1 254 0 j = T 254 0 j ∧ T1 256 0 j = T 256 0 j) : RZ_ T1 := fun k p q => by
  have y := b k (Or.inr (by omega))
  rw [y.1, y.2]
  exact h k (by omega) q
theorem ml_p {T T1 : Zt} {c : Int} (h : ML_ T) (le : T 111 0 29 ≤ T1 111 0 29) (a : T1 210 0 c = T 111 0 29) (b : T1 211 0 c = T1 111 0 29 - T 111 0 29) (d : ∀ z, z ≠ c → T1 210 0 z = T 210 0 z ∧ T1 211 0 z = T 211 0 z ∧ T1 209 0 z = T 209 0 z) : ML_ T1 := fun k p q => by
  by_cases z : k = c
  · rw [z, a, b]; omega
  · rw [(d k z).1, (d k z).2.1]
    have := h k p q
    omega
theorem mc_p {T T1 : Zt} {c : Int} (h : MC_ T) (hc : c < T 111 0 6) (a : am2_ T T1 c) (b : T1 111 0 6 = T 111 0 6) : MC_ T1 := fun m p q => by
  rw [b]
  by_cases z : m < T 111 0 29
  · rw [(a.2.1 m z).1]; exact h m p z
  · rw [(a.2.2.1 m (by omega) q).1]; exact hc
theorem sh_p {T T1 : Zt} {c : Int} (h : SH_ T) (g : RI_ T) (hc : 0 ≤ c ∧ c < T 111 0 6) (a : am2_ T T1 c) (b : ∀ j, T1 239 0 j = T 239 0 j) (d : ∀ j, T1 205 0 j = T 205 0 j) : SH_ T1 := fun m s p q u v => by
  have y := h m s p q u v
  have a1 := a.1
  rw [b, d]
  refine ⟨fun z => ?_, fun z => y.2 (by omega)⟩
  by_cases w : m < T 111 0 29
  · rw [(a.2.1 m w).1]; exact y.1 w
  · rw [(a.2.2.1 m (by omega) z).1, y.2 (by omega)]
    have k : (1 : Int) ≤ T 205 0 (23 * c + 9) ∧ T 205 0 (23 * c + 9) ≤ (6 : Int) := g c 9 hc.1 hc.2 (by decide) (by decide)
    omega
theorem fm_p {T T1 : Zt} {c : Int} (h : FM_ T) (a : am2_ T T1 c) (b : ∀ j, T1 244 0 j = T 244 0 j) : FM_ T1 := fun m s p q u v w => by
  rw [b]
  by_cases z : m < T 111 0 29
  · rw [(a.2.1 m z).2.2.2.2.2.1] at w; exact h m s p q u v w
  · by_cases y : m < T1 111 0 29
    · rw [(a.2.2.1 m (by omega) y).2.1] at w; omega
    · rw [a.2.2.2 m (by omega)] at w; exact h m s p q u v w
theorem ir_sign {T T' : Zt} {c : Int} {r : Option Zv} (h : IR_ T) (p : po_X11_sign T c T' r) : IR_ T' := by
  obtain ⟨x, rfl, f, q⟩ := p
  exact ⟨CW_f h.1 f ⟨fun _ => rfl, fun _ => rfl, fun _ => rfl, fun _ => rfl, fun _ => rfl⟩, RI__f h.2.1 f ⟨fun _ => rfl, rfl, trivial⟩, RW__f h.2.2.1 f ⟨fun _ => rfl, rfl, trivial⟩, EN__f h.2.2.2.1 f ⟨fun _ => rfl, fun _ => rfl, rfl, trivial⟩, ML__f h.2.2.2.2.1 f ⟨fun _ => rfl, fun _ => rfl, rfl, trivial⟩, MC__f h.2.2.2.2.2.1 f ⟨fun _ => rfl, rfl, rfl, trivial⟩, SH__f h.2.2.2.2.2.2.1 f ⟨fun _ => rfl, fun _ => rfl, fun _ => rfl, rfl, trivial⟩, FM__f h.2.2.2.2.2.2.2.1 f ⟨fun _ => rfl, fun _ => rfl, trivial⟩, rx_f h.2.2.2.2.2.2.2.2.1 (f 111 0 29 rfl) (f 111 0 47 rfl) (fun k j h => f k 0 j (by rcases h with rfl | rfl | rfl | rfl | rfl <;> rfl)), rz_f h.2.2.2.2.2.2.2.2.2.1 (f 111 0 29 rfl) (fun j => f 254 0 j rfl) (fun j => f 256 0 j rfl), ZS__f h.2.2.2.2.2.2.2.2.2.2.1 f ⟨fun _ => rfl, fun _ => rfl, trivial⟩, gx_f (x := -1) (y := -1) h.2.2.2.2.2.2.2.2.2.2.2 f ⟨fun _ => rfl, fun _ => rfl, fun _ => rfl⟩ (fun j _ => f 254 0 j rfl) (Or.inl rfl)⟩
theorem ir_wipe {T T' : Zt} {r : Option Zv} (h : IR_ T) (p : po_X11_wipe T  T' r) : IR_ T' := by
  obtain ⟨x, rfl, f, q⟩ := p
  exact ⟨CW_f h.1 f ⟨fun _ => rfl, fun _ => rfl, fun _ => rfl, fun _ => rfl, fun _ => rfl⟩, RI__f h.2.1 f ⟨fun _ => rfl, rfl, trivial⟩, RW__f h.2.2.1 f ⟨fun _ => rfl, rfl, trivial⟩, EN__f h.2.2.2.1 f ⟨fun _ => rfl, fun _ => rfl, rfl, trivial⟩, ML__f h.2.2.2.2.1 f ⟨fun _ => rfl, fun _ => rfl, rfl, trivial⟩, MC__f h.2.2.2.2.2.1 f ⟨fun _ => rfl, rfl, rfl, trivial⟩, SH__f h.2.2.2.2.2.2.1 f ⟨fun _ => rfl, fun _ => rfl, fun _ => rfl, rfl, trivial⟩, FM__f h.2.2.2.2.2.2.2.1 f ⟨fun _ => rfl, fun _ => rfl, trivial⟩, rx_f h.2.2.2.2.2.2.2.2.1 (f 111 0 29 rfl) (f 111 0 47 rfl) (fun k j h => f k 0 j (by rcases h with rfl | rfl | rfl | rfl | rfl <;> rfl)), rz_f h.2.2.2.2.2.2.2.2.2.1 (f 111 0 29 rfl) (fun j => f 254 0 j rfl) (fun j => f 256 0 j rfl), ZS__f h.2.2.2.2.2.2.2.2.2.2.1 f ⟨fun _ => rfl, fun _ => rfl, trivial⟩, gx_f (x := -1) (y := -1) h.2.2.2.2.2.2.2.2.2.2.2 f ⟨fun _ => rfl, fun _ => rfl, fun _ => rfl⟩ (fun j _ => f 254 0 j rfl) (Or.inl rfl)⟩
theorem ir_competition {T T' : Zt} {r : Option Zv} (hT : ok_T T) (h : IR_ T) (p : po_X11_competition_k T  T' r) : IR_ T' := by
  obtain ⟨x, rfl, f, q⟩ := p
  exact ⟨CW_f h.1 f ⟨fun _ => rfl, fun _ => rfl, fun _ => rfl, fun _ => rfl, fun _ => rfl⟩, q.2.1, q.2.2.1, EN__f h.2.2.2.1 f ⟨fun _ => rfl, fun _ => rfl, rfl, trivial⟩, ML__f h.2.2.2.2.1 f ⟨fun _ => rfl, fun _ => rfl, rfl, trivial⟩, mc_c h.2.2.2.2.2.1 (fun j => f 230 0 j rfl) (f 111 0 29 rfl) (by omega), sh_c h.2.2.2.2.2.2.1 h.2.2.2.2.2.1 (fun j hj => (bd_a hT 230 (by decide +kernel : ta_ 230 = some (1, some 400, 0, 3)) 0 hj).1) (fun j => f 230 0 j rfl) (f 111 0 29 rfl) (fun j => f 239 0 j rfl) q.2.2.2, FM__f h.2.2.2.2.2.2.2.1 f ⟨fun _ => rfl, fun _ => rfl, trivial⟩, rx_f h.2.2.2.2.2.2.2.2.1 (f 111 0 29 rfl) (f 111 0 47 rfl) (fun k j h => f k 0 j (by rcases h with rfl | rfl | rfl | rfl | rfl <;> rfl)), rz_f h.2.2.2.2.2.2.2.2.2.1 (f 111 0 29 rfl) (fun j => f 254 0 j rfl) (fun j => f 256 0 j rfl), ZS__f h.2.2.2.2.2.2.2.2.2.2.1 f ⟨fun _ => rfl, fun _ => rfl, trivial⟩, gx_f (x := -1) (y := -1) h.2.2.2.2.2.2.2.2.2.2.2 f ⟨fun _ => rfl, fun _ => rfl, fun _ => rfl⟩ (fun j _ => f 254 0 j rfl) (Or.inl rfl)⟩
theorem ir_club {T T' : Zt} {s c : Int} {r : Option Zv} (h : IR_ T) (p : po_X11_club T s c T' r) : IR_ T' := by
  obtain ⟨x, rfl, f, q⟩ := p
  exact ⟨CW_f h.1 f ⟨fun _ => rfl, fun _ => rfl, fun _ => rfl, fun _ => rfl, fun _ => rfl⟩, RI__f h.2.1 f ⟨fun _ => rfl, rfl, trivial⟩, RW__f h.2.2.1 f ⟨fun _ => rfl, rfl, trivial⟩, en_c h.2.2.2.1 (fun j => f 208 0 j rfl) (fun j => f 207 0 j rfl) (by omega), ML__f h.2.2.2.2.1 f ⟨fun _ => rfl, fun _ => rfl, rfl, trivial⟩, MC__f h.2.2.2.2.2.1 f ⟨fun _ => rfl, rfl, rfl, trivial⟩, SH__f h.2.2.2.2.2.2.1 f ⟨fun _ => rfl, fun _ => rfl, fun _ => rfl, rfl, trivial⟩, FM__f h.2.2.2.2.2.2.2.1 f ⟨fun _ => rfl, fun _ => rfl, trivial⟩, rx_f h.2.2.2.2.2.2.2.2.1 (f 111 0 29 rfl) (f 111 0 47 rfl) (fun k j h => f k 0 j (by rcases h with rfl | rfl | rfl | rfl | rfl <;> rfl)), rz_f h.2.2.2.2.2.2.2.2.2.1 (f 111 0 29 rfl) (fun j => f 254 0 j rfl) (fun j => f 256 0 j rfl), ZS__f h.2.2.2.2.2.2.2.2.2.2.1 f ⟨fun _ => rfl, fun _ => rfl, trivial⟩, gx_f (x := -1) (y := -1) h.2.2.2.2.2.2.2.2.2.2.2 f ⟨fun _ => rfl, fun _ => rfl, fun _ => rfl⟩ (fun j _ => f 254 0 j rfl) (Or.inl rfl)⟩
theorem ir_person {T T' : Zt} {r : Option Zv} (h : IR_ T) (p : po_X11_person T  T' r) : IR_ T' := by
  obtain ⟨x, rfl, f, q⟩ := p
  exact ⟨CW_f h.1 f ⟨fun _ => rfl, fun _ => rfl, fun _ => rfl, fun _ => rfl, fun _ => rfl⟩, RI__f h.2.1 f ⟨fun _ => rfl, rfl, trivial⟩, RW__f h.2.2.1 f ⟨fun _ => rfl, rfl, trivial⟩, EN__f h.2.2.2.1 f ⟨fun _ => rfl, fun _ => rfl, rfl, trivial⟩, ML__f h.2.2.2.2.1 f ⟨fun _ => rfl, fun _ => rfl, rfl, trivial⟩, MC__f h.2.2.2.2.2.1 f ⟨fun _ => rfl, rfl, rfl, trivial⟩, SH__f h.2.2.2.2.2.2.1 f ⟨fun _ => rfl, fun _ => rfl, fun _ => rfl, rfl, trivial⟩, FM__f h.2.2.2.2.2.2.2.1 f ⟨fun _ => rfl, fun _ => rfl, trivial⟩, rx_f h.2.2.2.2.2.2.2.2.1 (f 111 0 29 rfl) (f 111 0 47 rfl) (fun k j h => f k 0 j (by rcases h with rfl | rfl | rfl | rfl | rfl <;> rfl)), rz_f h.2.2.2.2.2.2.2.2.2.1 (f 111 0 29 rfl) (fun j => f 254 0 j rfl) (fun j => f 256 0 j rfl), ZS__f h.2.2.2.2.2.2.2.2.2.2.1 f ⟨fun _ => rfl, fun _ => rfl, trivial⟩, gx_f (x := -1) (y := -1) h.2.2.2.2.2.2.2.2.2.2.2 f ⟨fun _ => rfl, fun _ => rfl, fun _ => rfl⟩ (fun j _ => f 254 0 j rfl) (Or.inl rfl)⟩
theorem ir_register {T T' : Zt} {p cl fr to : Int} {r : Option Zv} (h : IR_ T) (p : po_X11_register T p cl fr to T' r) : IR_ T' := by
  obtain ⟨x, rfl, f, q⟩ := p
  exact ⟨CW_f h.1 f ⟨fun _ => rfl, fun _ => rfl, fun _ => rfl, fun _ => rfl, fun _ => rfl⟩, RI__f h.2.1 f ⟨fun _ => rfl, rfl, trivial⟩, RW__f h.2.2.1 f ⟨fun _ => rfl, rfl, trivial⟩, EN__f h.2.2.2.1 f ⟨fun _ => rfl, fun _ => rfl, rfl, trivial⟩, ML__f h.2.2.2.2.1 f ⟨fun _ => rfl, fun _ => rfl, rfl, trivial⟩, MC__f h.2.2.2.2.2.1 f ⟨fun _ => rfl, rfl, rfl, trivial⟩, SH__f h.2.2.2.2.2.2.1 f ⟨fun _ => rfl, fun _ => rfl, fun _ => rfl, rfl, trivial⟩, FM__f h.2.2.2.2.2.2.2.1 f ⟨fun _ => rfl, fun _ => rfl, trivial⟩, rx_f h.2.2.2.2.2.2.2.2.1 (f 111 0 29 rfl) (f 111 0 47 rfl) (fun k j h => f k 0 j (by rcases h with rfl | rfl | rfl | rfl | rfl <;> rfl)), rz_f h.2.2.2.2.2.2.2.2.2.1 (f 111 0 29 rfl) (fun j => f 254 0 j rfl) (fun j => f 256 0 j rfl), ZS__f h.2.2.2.2.2.2.2.2.2.2.1 f ⟨fun _ => rfl, fun _ => rfl, trivial⟩, gx_f (x := -1) (y := -1) h.2.2.2.2.2.2.2.2.2.2.2 f ⟨fun _ => rfl, fun _ => rfl, fun _ => rfl⟩ (fun j _ => f 254 0 j rfl) (Or.inl rfl)⟩
theorem ir_official {T T' : Zt} {s c : Int} {r : Option Zv} (h : IR_ T) (p : po_X11_official T s c T' r) : IR_ T' := by
  obtain ⟨x, rfl, f, q⟩ := p
  exact ⟨CW_f h.1 f ⟨fun _ => rfl, fun _ => rfl, fun _ => rfl, fun _ => rfl, fun _ => rfl⟩, RI__f h.2.1 f ⟨fun _ => rfl, rfl, trivial⟩, RW__f h.2.2.1 f ⟨fun _ => rfl, rfl, trivial⟩, EN__f h.2.2.2.1 f ⟨fun _ => rfl, fun _ => rfl, rfl, trivial⟩, ML__f h.2.2.2.2.1 f ⟨fun _ => rfl, fun _ => rfl, rfl, trivial⟩, MC__f h.2.2.2.2.2.1 f ⟨fun _ => rfl, rfl, rfl, trivial⟩, SH__f h.2.2.2.2.2.2.1 f ⟨fun _ => rfl, fun _ => rfl, fun _ => rfl, rfl, trivial⟩, FM__f h.2.2.2.2.2.2.2.1 f ⟨fun _ => rfl, fun _ => rfl, trivial⟩, rx_f h.2.2.2.2.2.2.2.2.1 (f 111 0 29 rfl) (f 111 0 47 rfl) (fun k j h => f k 0 j (by rcases h with rfl | rfl | rfl | rfl | rfl <;> rfl)), rz_f h.2.2.2.2.2.2.2.2.2.1 (f 111 0 29 rfl) (fun j => f 254 0 j rfl) (fun j => f 256 0 j rfl), ZS__f h.2.2.2.2.2.2.2.2.2.2.1 f ⟨fun _ => rfl, fun _ => rfl, trivial⟩, gx_f (x := -1) (y := -1) h.2.2.2.2.2.2.2.2.2.2.2 f ⟨fun _ => rfl, fun _ => rfl, fun _ => rfl⟩ (fun j _ => f 254 0 j rfl) (Or.inl rfl)⟩
theorem ir_day {T T' : Zt} {d : Int} {r : Option Zv} (h : IR_ T) (p : po_X11_day T d T' r) : IR_ T' := by
  obtain ⟨x, rfl, f, q⟩ := p
  exact ⟨CW_f h.1 f ⟨fun _ => rfl, fun _ => rfl, fun _ => rfl, fun _ => rfl, fun _ => rfl⟩, RI__f h.2.1 f ⟨fun _ => rfl, rfl, trivial⟩, RW__f h.2.2.1 f ⟨fun _ => rfl, rfl, trivial⟩, EN__f h.2.2.2.1 f ⟨fun _ => rfl, fun _ => rfl, rfl, trivial⟩, ML__f h.2.2.2.2.1 f ⟨fun _ => rfl, fun _ => rfl, rfl, trivial⟩, MC__f h.2.2.2.2.2.1 f ⟨fun _ => rfl, rfl, rfl, trivial⟩, SH__f h.2.2.2.2.2.2.1 f ⟨fun _ => rfl, fun _ => rfl, fun _ => rfl, rfl, trivial⟩, FM__f h.2.2.2.2.2.2.2.1 f ⟨fun _ => rfl, fun _ => rfl, trivial⟩, rx_f h.2.2.2.2.2.2.2.2.1 (f 111 0 29 rfl) (f 111 0 47 rfl) (fun k j h => f k 0 j (by rcases h with rfl | rfl | rfl | rfl | rfl <;> rfl)), rz_f h.2.2.2.2.2.2.2.2.2.1 (f 111 0 29 rfl) (fun j => f 254 0 j rfl) (fun j => f 256 0 j rfl), ZS__f h.2.2.2.2.2.2.2.2.2.2.1 f ⟨fun _ => rfl, fun _ => rfl, trivial⟩, gx_f (x := -1) (y := -1) h.2.2.2.2.2.2.2.2.2.2.2 f ⟨fun _ => rfl, fun _ => rfl, fun _ => rfl⟩ (fun j _ => f 254 0 j rfl) (Or.inl rfl)⟩
theorem ir_enter {T T' : Zt} {c cl : Int} {r : Option Zv} (h : IR_ T) (p : po_X11_enter T c cl T' r) : IR_ T' := by
  obtain ⟨x, rfl, f, q⟩ := p
  exact ⟨CW_f h.1 f ⟨fun _ => rfl, fun _ => rfl, fun _ => rfl, fun _ => rfl, fun _ => rfl⟩, RI__f h.2.1 f ⟨fun _ => rfl, rfl, trivial⟩, RW__f h.2.2.1 f ⟨fun _ => rfl, rfl, trivial⟩, q, ML__f h.2.2.2.2.1 f ⟨fun _ => rfl, fun _ => rfl, rfl, trivial⟩, MC__f h.2.2.2.2.2.1 f ⟨fun _ => rfl, rfl, rfl, trivial⟩, SH__f h.2.2.2.2.2.2.1 f ⟨fun _ => rfl, fun _ => rfl, fun _ => rfl, rfl, trivial⟩, FM__f h.2.2.2.2.2.2.2.1 f ⟨fun _ => rfl, fun _ => rfl, trivial⟩, rx_f h.2.2.2.2.2.2.2.2.1 (f 111 0 29 rfl) (f 111 0 47 rfl) (fun k j h => f k 0 j (by rcases h with rfl | rfl | rfl | rfl | rfl <;> rfl)), rz_f h.2.2.2.2.2.2.2.2.2.1 (f 111 0 29 rfl) (fun j => f 254 0 j rfl) (fun j => f 256 0 j rfl), ZS__f h.2.2.2.2.2.2.2.2.2.2.1 f ⟨fun _ => rfl, fun _ => rfl, trivial⟩, gx_f (x := -1) (y := -1) h.2.2.2.2.2.2.2.2.2.2.2 f ⟨fun _ => rfl, fun _ => rfl, fun _ => rfl⟩ (fun j _ => f 254 0 j rfl) (Or.inl rfl)⟩
theorem ir_postpone {T T' : Zt} {m d : Int} {r : Option Zv} (h : IR_ T) (p : po_X11_postpone T m d T' r) : IR_ T' := by
  obtain ⟨x, rfl, f, q⟩ := p
  exact ⟨CW_f h.1 f ⟨fun _ => rfl, fun _ => rfl, fun _ => rfl, fun _ => rfl, fun _ => rfl⟩, RI__f h.2.1 f ⟨fun _ => rfl, rfl, trivial⟩, RW__f h.2.2.1 f ⟨fun _ => rfl, rfl, trivial⟩, EN__f h.2.2.2.1 f ⟨fun _ => rfl, fun _ => rfl, rfl, trivial⟩, ML__f h.2.2.2.2.1 f ⟨fun _ => rfl, fun _ => rfl, rfl, trivial⟩, MC__f h.2.2.2.2.2.1 f ⟨fun _ => rfl, rfl, rfl, trivial⟩, SH__f h.2.2.2.2.2.2.1 f ⟨fun _ => rfl, fun _ => rfl, fun _ => rfl, rfl, trivial⟩, FM__f h.2.2.2.2.2.2.2.1 f ⟨fun _ => rfl, fun _ => rfl, trivial⟩, rx_f h.2.2.2.2.2.2.2.2.1 (f 111 0 29 rfl) (f 111 0 47 rfl) (fun k j h => f k 0 j (by rcases h with rfl | rfl | rfl | rfl | rfl <;> rfl)), rz_f h.2.2.2.2.2.2.2.2.2.1 (f 111 0 29 rfl) (fun j => f 254 0 j rfl) (fun j => f 256 0 j rfl), ZS__f h.2.2.2.2.2.2.2.2.2.2.1 f ⟨fun _ => rfl, fun _ => rfl, trivial⟩, gx_f (x := -1) (y := -1) h.2.2.2.2.2.2.2.2.2.2.2 f ⟨fun _ => rfl, fun _ => rfl, fun _ => rfl⟩ (fun j _ => f 254 0 j rfl) (Or.inl rfl)⟩
theorem ir_deduct {T T' : Zt} {c cl p : Int} {r : Option Zv} (h : IR_ T) (p : po_X11_deduct T c cl p T' r) : IR_ T' := by
  obtain ⟨x, rfl, f, q⟩ := p
  exact ⟨CW_f h.1 f ⟨fun _ => rfl, fun _ => rfl, fun _ => rfl, fun _ => rfl, fun _ => rfl⟩, RI__f h.2.1 f ⟨fun _ => rfl, rfl, trivial⟩, RW__f h.2.2.1 f ⟨fun _ => rfl, rfl, trivial⟩, EN__f h.2.2.2.1 f ⟨fun _ => rfl, fun _ => rfl, rfl, trivial⟩, ML__f h.2.2.2.2.1 f ⟨fun _ => rfl, fun _ => rfl, rfl, trivial⟩, MC__f h.2.2.2.2.2.1 f ⟨fun _ => rfl, rfl, rfl, trivial⟩, SH__f h.2.2.2.2.2.2.1 f ⟨fun _ => rfl, fun _ => rfl, fun _ => rfl, rfl, trivial⟩, FM__f h.2.2.2.2.2.2.2.1 f ⟨fun _ => rfl, fun _ => rfl, trivial⟩, rx_f h.2.2.2.2.2.2.2.2.1 (f 111 0 29 rfl) (f 111 0 47 rfl) (fun k j h => f k 0 j (by rcases h with rfl | rfl | rfl | rfl | rfl <;> rfl)), rz_f h.2.2.2.2.2.2.2.2.2.1 (f 111 0 29 rfl) (fun j => f 254 0 j rfl) (fun j => f 256 0 j rfl), ZS__f h.2.2.2.2.2.2.2.2.2.2.1 f ⟨fun _ => rfl, fun _ => rfl, trivial⟩, gx_f (x := -1) (y := -1) h.2.2.2.2.2.2.2.2.2.2.2 f ⟨fun _ => rfl, fun _ => rfl, fun _ => rfl⟩ (fun j _ => f 254 0 j rfl) (Or.inl rfl)⟩
theorem ir_lineUp {T T' : Zt} {p m sd : Int} {r : Option Zv} (h : IR_ T) (p : po_X11_lineUp_k T p m sd T' r) : IR_ T' := by
  obtain ⟨x, rfl, f, q⟩ := p
  exact ⟨CW_f h.1 f ⟨fun _ => rfl, fun _ => rfl, fun _ => rfl, fun _ => rfl, fun _ => rfl⟩, RI__f h.2.1 f ⟨fun _ => rfl, rfl, trivial⟩, RW__f h.2.2.1 f ⟨fun _ => rfl, rfl, trivial⟩, EN__f h.2.2.2.1 f ⟨fun _ => rfl, fun _ => rfl, rfl, trivial⟩, ML__f h.2.2.2.2.1 f ⟨fun _ => rfl, fun _ => rfl, rfl, trivial⟩, MC__f h.2.2.2.2.2.1 f ⟨fun _ => rfl, rfl, rfl, trivial⟩, q.1, FM__f h.2.2.2.2.2.2.2.1 f ⟨fun _ => rfl, fun _ => rfl, trivial⟩, rx_f h.2.2.2.2.2.2.2.2.1 (f 111 0 29 rfl) (f 111 0 47 rfl) (fun k j h => f k 0 j (by rcases h with rfl | rfl | rfl | rfl | rfl <;> rfl)), rz_f h.2.2.2.2.2.2.2.2.2.1 (f 111 0 29 rfl) (fun j => f 254 0 j rfl) (fun j => f 256 0 j rfl), zs_l h.2.2.2.2.2.2.2.2.2.2.1 (fun j => f 242 0 j rfl) q.2, gx_f (x := -1) (y := -1) h.2.2.2.2.2.2.2.2.2.2.2 f ⟨fun _ => rfl, fun _ => rfl, fun _ => rfl⟩ (fun j _ => f 254 0 j rfl) (Or.inl rfl)⟩
theorem ir_start {T T' : Zt} {m : Int} {r : Option Zv} (h : IR_ T) (p : po_X11_start T m T' r) : IR_ T' := by
  obtain ⟨x, rfl, f, q⟩ := p
  exact ⟨CW_f h.1 f ⟨fun _ => rfl, fun _ => rfl, fun _ => rfl, fun _ => rfl, fun _ => rfl⟩, RI__f h.2.1 f ⟨fun _ => rfl, rfl, trivial⟩, RW__f h.2.2.1 f ⟨fun _ => rfl, rfl, trivial⟩, EN__f h.2.2.2.1 f ⟨fun _ => rfl, fun _ => rfl, rfl, trivial⟩, ML__f h.2.2.2.2.1 f ⟨fun _ => rfl, fun _ => rfl, rfl, trivial⟩, MC__f h.2.2.2.2.2.1 f ⟨fun _ => rfl, rfl, rfl, trivial⟩, SH__f h.2.2.2.2.2.2.1 f ⟨fun _ => rfl, fun _ => rfl, fun _ => rfl, rfl, trivial⟩, q.1, rx_f h.2.2.2.2.2.2.2.2.1 (f 111 0 29 rfl) (f 111 0 47 rfl) (fun k j h => f k 0 j (by rcases h with rfl | rfl | rfl | rfl | rfl <;> rfl)), rz_f h.2.2.2.2.2.2.2.2.2.1 (f 111 0 29 rfl) (fun j => f 254 0 j rfl) (fun j => f 256 0 j rfl), q.2.1, q.2.2⟩
theorem ir_walkOver {T T' : Zt} {m s : Int} {r : Option Zv} (h : IR_ T) (p : po_X11_walkOver T m s T' r) : IR_ T' := by
  obtain ⟨x, rfl, f, q⟩ := p
  exact ⟨CW_f h.1 f ⟨fun _ => rfl, fun _ => rfl, fun _ => rfl, fun _ => rfl, fun _ => rfl⟩, RI__f h.2.1 f ⟨fun _ => rfl, rfl, trivial⟩, RW__f h.2.2.1 f ⟨fun _ => rfl, rfl, trivial⟩, EN__f h.2.2.2.1 f ⟨fun _ => rfl, fun _ => rfl, rfl, trivial⟩, ML__f h.2.2.2.2.1 f ⟨fun _ => rfl, fun _ => rfl, rfl, trivial⟩, MC__f h.2.2.2.2.2.1 f ⟨fun _ => rfl, rfl, rfl, trivial⟩, SH__f h.2.2.2.2.2.2.1 f ⟨fun _ => rfl, fun _ => rfl, fun _ => rfl, rfl, trivial⟩, q.1, rx_f h.2.2.2.2.2.2.2.2.1 (f 111 0 29 rfl) (f 111 0 47 rfl) (fun k j h => f k 0 j (by rcases h with rfl | rfl | rfl | rfl | rfl <;> rfl)), rz_f h.2.2.2.2.2.2.2.2.2.1 (f 111 0 29 rfl) (fun j => f 254 0 j rfl) (fun j => f 256 0 j rfl), q.2.1, q.2.2⟩
theorem ir_event {T T' : Zt} {m k s p q9 : Int} {r : Option Zv} (h : IR_ T) (p : po_X11_event T m k s p q9 T' r) : IR_ T' := by
  obtain ⟨x, rfl, f, q⟩ := p
  exact ⟨CW_f h.1 f ⟨fun _ => rfl, fun _ => rfl, fun _ => rfl, fun _ => rfl, fun _ => rfl⟩, RI__f h.2.1 f ⟨fun _ => rfl, rfl, trivial⟩, RW__f h.2.2.1 f ⟨fun _ => rfl, rfl, trivial⟩, EN__f h.2.2.2.1 f ⟨fun _ => rfl, fun _ => rfl, rfl, trivial⟩, ML__f h.2.2.2.2.1 f ⟨fun _ => rfl, fun _ => rfl, rfl, trivial⟩, MC__f h.2.2.2.2.2.1 f ⟨fun _ => rfl, rfl, rfl, trivial⟩, SH__f h.2.2.2.2.2.2.1 f ⟨fun _ => rfl, fun _ => rfl, fun _ => rfl, rfl, trivial⟩, q.1, q.2.1, rz_o h.2.2.2.2.2.2.2.2.2.1 (f 111 0 29 rfl) q.2.2.2.2, q.2.2.1, q.2.2.2.1⟩
theorem ir_review {T T' : Zt} {m i k s p q9 : Int} {r : Option Zv} (h : IR_ T) (p : po_X11_review T m i k s p q9 T' r) : IR_ T' := by
  obtain ⟨x, rfl, f, q⟩ := p
  exact ⟨CW_f h.1 f ⟨fun _ => rfl, fun _ => rfl, fun _ => rfl, fun _ => rfl, fun _ => rfl⟩, RI__f h.2.1 f ⟨fun _ => rfl, rfl, trivial⟩, RW__f h.2.2.1 f ⟨fun _ => rfl, rfl, trivial⟩, EN__f h.2.2.2.1 f ⟨fun _ => rfl, fun _ => rfl, rfl, trivial⟩, ML__f h.2.2.2.2.1 f ⟨fun _ => rfl, fun _ => rfl, rfl, trivial⟩, MC__f h.2.2.2.2.2.1 f ⟨fun _ => rfl, rfl, rfl, trivial⟩, SH__f h.2.2.2.2.2.2.1 f ⟨fun _ => rfl, fun _ => rfl, fun _ => rfl, rfl, trivial⟩, q.1, q.2.1, rz_o h.2.2.2.2.2.2.2.2.2.1 (f 111 0 29 rfl) q.2.2.2.2, q.2.2.1, q.2.2.2.1⟩
theorem ir_table {T T' : Zt} {c d cl w : Int} {r : Option Zv} (h : IR_ T) (p : po_X11_table T c d cl w T' r) : IR_ T' := by
  obtain ⟨x, rfl, f, q⟩ := p
  exact ⟨CW_f h.1 f ⟨fun _ => rfl, fun _ => rfl, fun _ => rfl, fun _ => rfl, fun _ => rfl⟩, RI__f h.2.1 f ⟨fun _ => rfl, rfl, trivial⟩, RW__f h.2.2.1 f ⟨fun _ => rfl, rfl, trivial⟩, EN__f h.2.2.2.1 f ⟨fun _ => rfl, fun _ => rfl, rfl, trivial⟩, ML__f h.2.2.2.2.1 f ⟨fun _ => rfl, fun _ => rfl, rfl, trivial⟩, MC__f h.2.2.2.2.2.1 f ⟨fun _ => rfl, rfl, rfl, trivial⟩, SH__f h.2.2.2.2.2.2.1 f ⟨fun _ => rfl, fun _ => rfl, fun _ => rfl, rfl, trivial⟩, FM__f h.2.2.2.2.2.2.2.1 f ⟨fun _ => rfl, fun _ => rfl, trivial⟩, rx_f h.2.2.2.2.2.2.2.2.1 (f 111 0 29 rfl) (f 111 0 47 rfl) (fun k j h => f k 0 j (by rcases h with rfl | rfl | rfl | rfl | rfl <;> rfl)), rz_f h.2.2.2.2.2.2.2.2.2.1 (f 111 0 29 rfl) (fun j => f 254 0 j rfl) (fun j => f 256 0 j rfl), ZS__f h.2.2.2.2.2.2.2.2.2.2.1 f ⟨fun _ => rfl, fun _ => rfl, trivial⟩, gx_f (x := -1) (y := -1) h.2.2.2.2.2.2.2.2.2.2.2 f ⟨fun _ => rfl, fun _ => rfl, fun _ => rfl⟩ (fun j _ => f 254 0 j rfl) (Or.inl rfl)⟩
theorem ir_standing {T T' : Zt} {c d k : Int} {r : Option Zv} (h : IR_ T) (p : po_X11_standing T c d k T' r) : IR_ T' := by
  obtain ⟨x, rfl, f, q⟩ := p
  exact ⟨CW_f h.1 f ⟨fun _ => rfl, fun _ => rfl, fun _ => rfl, fun _ => rfl, fun _ => rfl⟩, RI__f h.2.1 f ⟨fun _ => rfl, rfl, trivial⟩, RW__f h.2.2.1 f ⟨fun _ => rfl, rfl, trivial⟩, EN__f h.2.2.2.1 f ⟨fun _ => rfl, fun _ => rfl, rfl, trivial⟩, ML__f h.2.2.2.2.1 f ⟨fun _ => rfl, fun _ => rfl, rfl, trivial⟩, MC__f h.2.2.2.2.2.1 f ⟨fun _ => rfl, rfl, rfl, trivial⟩, SH__f h.2.2.2.2.2.2.1 f ⟨fun _ => rfl, fun _ => rfl, fun _ => rfl, rfl, trivial⟩, FM__f h.2.2.2.2.2.2.2.1 f ⟨fun _ => rfl, fun _ => rfl, trivial⟩, rx_f h.2.2.2.2.2.2.2.2.1 (f 111 0 29 rfl) (f 111 0 47 rfl) (fun k j h => f k 0 j (by rcases h with rfl | rfl | rfl | rfl | rfl <;> rfl)), rz_f h.2.2.2.2.2.2.2.2.2.1 (f 111 0 29 rfl) (fun j => f 254 0 j rfl) (fun j => f 256 0 j rfl), ZS__f h.2.2.2.2.2.2.2.2.2.2.1 f ⟨fun _ => rfl, fun _ => rfl, trivial⟩, gx_f (x := -1) (y := -1) h.2.2.2.2.2.2.2.2.2.2.2 f ⟨fun _ => rfl, fun _ => rfl, fun _ => rfl⟩ (fun j _ => f 254 0 j rfl) (Or.inl rfl)⟩
theorem ir_parted {T T' : Zt} {c d k : Int} {r : Option Zv} (h : IR_ T) (p : po_X11_parted T c d k T' r) : IR_ T' := by
  obtain ⟨x, rfl, f, q⟩ := p
  exact ⟨CW_f h.1 f ⟨fun _ => rfl, fun _ => rfl, fun _ => rfl, fun _ => rfl, fun _ => rfl⟩, RI__f h.2.1 f ⟨fun _ => rfl, rfl, trivial⟩, RW__f h.2.2.1 f ⟨fun _ => rfl, rfl, trivial⟩, EN__f h.2.2.2.1 f ⟨fun _ => rfl, fun _ => rfl, rfl, trivial⟩, ML__f h.2.2.2.2.1 f ⟨fun _ => rfl, fun _ => rfl, rfl, trivial⟩, MC__f h.2.2.2.2.2.1 f ⟨fun _ => rfl, rfl, rfl, trivial⟩, SH__f h.2.2.2.2.2.2.1 f ⟨fun _ => rfl, fun _ => rfl, fun _ => rfl, rfl, trivial⟩, FM__f h.2.2.2.2.2.2.2.1 f ⟨fun _ => rfl, fun _ => rfl, trivial⟩, rx_f h.2.2.2.2.2.2.2.2.1 (f 111 0 29 rfl) (f 111 0 47 rfl) (fun k j h => f k 0 j (by rcases h with rfl | rfl | rfl | rfl | rfl <;> rfl)), rz_f h.2.2.2.2.2.2.2.2.2.1 (f 111 0 29 rfl) (fun j => f 254 0 j rfl) (fun j => f 256 0 j rfl), ZS__f h.2.2.2.2.2.2.2.2.2.2.1 f ⟨fun _ => rfl, fun _ => rfl, trivial⟩, gx_f (x := -1) (y := -1) h.2.2.2.2.2.2.2.2.2.2.2 f ⟨fun _ => rfl, fun _ => rfl, fun _ => rfl⟩ (fun j _ => f 254 0 j rfl) (Or.inl rfl)⟩
theorem ir_can {T T' : Zt} {c cl : Int} {r : Option Zv} (h : IR_ T) (p : po_X11_can T c cl T' r) : IR_ T' := by
  obtain ⟨x, rfl, f, q⟩ := p
  exact ⟨CW_f h.1 f ⟨fun _ => rfl, fun _ => rfl, fun _ => rfl, fun _ => rfl, fun _ => rfl⟩, RI__f h.2.1 f ⟨fun _ => rfl, rfl, trivial⟩, RW__f h.2.2.1 f ⟨fun _ => rfl, rfl, trivial⟩, EN__f h.2.2.2.1 f ⟨fun _ => rfl, fun _ => rfl, rfl, trivial⟩, ML__f h.2.2.2.2.1 f ⟨fun _ => rfl, fun _ => rfl, rfl, trivial⟩, MC__f h.2.2.2.2.2.1 f ⟨fun _ => rfl, rfl, rfl, trivial⟩, SH__f h.2.2.2.2.2.2.1 f ⟨fun _ => rfl, fun _ => rfl, fun _ => rfl, rfl, trivial⟩, FM__f h.2.2.2.2.2.2.2.1 f ⟨fun _ => rfl, fun _ => rfl, trivial⟩, rx_f h.2.2.2.2.2.2.2.2.1 (f 111 0 29 rfl) (f 111 0 47 rfl) (fun k j h => f k 0 j (by rcases h with rfl | rfl | rfl | rfl | rfl <;> rfl)), rz_f h.2.2.2.2.2.2.2.2.2.1 (f 111 0 29 rfl) (fun j => f 254 0 j rfl) (fun j => f 256 0 j rfl), ZS__f h.2.2.2.2.2.2.2.2.2.2.1 f ⟨fun _ => rfl, fun _ => rfl, trivial⟩, gx_f (x := -1) (y := -1) h.2.2.2.2.2.2.2.2.2.2.2 f ⟨fun _ => rfl, fun _ => rfl, fun _ => rfl⟩ (fun j _ => f 254 0 j rfl) (Or.inl rfl)⟩
theorem ir_firsts {T T' : Zt} {c cl : Int} {r : Option Zv} (h : IR_ T) (p : po_X11_firsts T c cl T' r) : IR_ T' := by
  obtain ⟨x, rfl, f, q⟩ := p
  exact ⟨CW_f h.1 f ⟨fun _ => rfl, fun _ => rfl, fun _ => rfl, fun _ => rfl, fun _ => rfl⟩, RI__f h.2.1 f ⟨fun _ => rfl, rfl, trivial⟩, RW__f h.2.2.1 f ⟨fun _ => rfl, rfl, trivial⟩, EN__f h.2.2.2.1 f ⟨fun _ => rfl, fun _ => rfl, rfl, trivial⟩, ML__f h.2.2.2.2.1 f ⟨fun _ => rfl, fun _ => rfl, rfl, trivial⟩, MC__f h.2.2.2.2.2.1 f ⟨fun _ => rfl, rfl, rfl, trivial⟩, SH__f h.2.2.2.2.2.2.1 f ⟨fun _ => rfl, fun _ => rfl, fun _ => rfl, rfl, trivial⟩, FM__f h.2.2.2.2.2.2.2.1 f ⟨fun _ => rfl, fun _ => rfl, trivial⟩, rx_f h.2.2.2.2.2.2.2.2.1 (f 111 0 29 rfl) (f 111 0 47 rfl) (fun k j h => f k 0 j (by rcases h with rfl | rfl | rfl | rfl | rfl <;> rfl)), rz_f h.2.2.2.2.2.2.2.2.2.1 (f 111 0 29 rfl) (fun j => f 254 0 j rfl) (fun j => f 256 0 j rfl), ZS__f h.2.2.2.2.2.2.2.2.2.2.1 f ⟨fun _ => rfl, fun _ => rfl, trivial⟩, gx_f (x := -1) (y := -1) h.2.2.2.2.2.2.2.2.2.2.2 f ⟨fun _ => rfl, fun _ => rfl, fun _ => rfl⟩ (fun j _ => f 254 0 j rfl) (Or.inl rfl)⟩
theorem ir_drawing {T T' : Zt} {g l : Int} {r : Option Zv} (h : IR_ T) (p : po_X11_drawing T g l T' r) : IR_ T' := by
  obtain ⟨x, rfl, f, q⟩ := p
  exact ⟨CW_f h.1 f ⟨fun _ => rfl, fun _ => rfl, fun _ => rfl, fun _ => rfl, fun _ => rfl⟩, RI__f h.2.1 f ⟨fun _ => rfl, rfl, trivial⟩, RW__f h.2.2.1 f ⟨fun _ => rfl, rfl, trivial⟩, EN__f h.2.2.2.1 f ⟨fun _ => rfl, fun _ => rfl, rfl, trivial⟩, ML__f h.2.2.2.2.1 f ⟨fun _ => rfl, fun _ => rfl, rfl, trivial⟩, MC__f h.2.2.2.2.2.1 f ⟨fun _ => rfl, rfl, rfl, trivial⟩, SH__f h.2.2.2.2.2.2.1 f ⟨fun _ => rfl, fun _ => rfl, fun _ => rfl, rfl, trivial⟩, FM__f h.2.2.2.2.2.2.2.1 f ⟨fun _ => rfl, fun _ => rfl, trivial⟩, rx_f h.2.2.2.2.2.2.2.2.1 (f 111 0 29 rfl) (f 111 0 47 rfl) (fun k j h => f k 0 j (by rcases h with rfl | rfl | rfl | rfl | rfl <;> rfl)), rz_f h.2.2.2.2.2.2.2.2.2.1 (f 111 0 29 rfl) (fun j => f 254 0 j rfl) (fun j => f 256 0 j rfl), ZS__f h.2.2.2.2.2.2.2.2.2.2.1 f ⟨fun _ => rfl, fun _ => rfl, trivial⟩, gx_f (x := -1) (y := -1) h.2.2.2.2.2.2.2.2.2.2.2 f ⟨fun _ => rfl, fun _ => rfl, fun _ => rfl⟩ (fun j _ => f 254 0 j rfl) (Or.inl rfl)⟩
theorem ir_pot {T T' : Zt} {cl p : Int} {r : Option Zv} (h : IR_ T) (p : po_X11_pot T cl p T' r) : IR_ T' := by
  obtain ⟨x, rfl, f, q⟩ := p
  exact ⟨CW_f h.1 f ⟨fun _ => rfl, fun _ => rfl, fun _ => rfl, fun _ => rfl, fun _ => rfl⟩, RI__f h.2.1 f ⟨fun _ => rfl, rfl, trivial⟩, RW__f h.2.2.1 f ⟨fun _ => rfl, rfl, trivial⟩, EN__f h.2.2.2.1 f ⟨fun _ => rfl, fun _ => rfl, rfl, trivial⟩, ML__f h.2.2.2.2.1 f ⟨fun _ => rfl, fun _ => rfl, rfl, trivial⟩, MC__f h.2.2.2.2.2.1 f ⟨fun _ => rfl, rfl, rfl, trivial⟩, SH__f h.2.2.2.2.2.2.1 f ⟨fun _ => rfl, fun _ => rfl, fun _ => rfl, rfl, trivial⟩, FM__f h.2.2.2.2.2.2.2.1 f ⟨fun _ => rfl, fun _ => rfl, trivial⟩, rx_f h.2.2.2.2.2.2.2.2.1 (f 111 0 29 rfl) (f 111 0 47 rfl) (fun k j h => f k 0 j (by rcases h with rfl | rfl | rfl | rfl | rfl <;> rfl)), rz_f h.2.2.2.2.2.2.2.2.2.1 (f 111 0 29 rfl) (fun j => f 254 0 j rfl) (fun j => f 256 0 j rfl), ZS__f h.2.2.2.2.2.2.2.2.2.2.1 f ⟨fun _ => rfl, fun _ => rfl, trivial⟩, gx_f (x := -1) (y := -1) h.2.2.2.2.2.2.2.2.2.2.2 f ⟨fun _ => rfl, fun _ => rfl, fun _ => rfl⟩ (fun j _ => f 254 0 j rfl) (Or.inl rfl)⟩
theorem ir_ways {T T' : Zt} {r : Option Zv} (h : IR_ T) (p : po_X11_ways T  T' r) : IR_ T' := by
  obtain ⟨x, rfl, f, q⟩ := p
  exact ⟨CW_f h.1 f ⟨fun _ => rfl, fun _ => rfl, fun _ => rfl, fun _ => rfl, fun _ => rfl⟩, RI__f h.2.1 f ⟨fun _ => rfl, rfl, trivial⟩, RW__f h.2.2.1 f ⟨fun _ => rfl, rfl, trivial⟩, EN__f h.2.2.2.1 f ⟨fun _ => rfl, fun _ => rfl, rfl, trivial⟩, ML__f h.2.2.2.2.1 f ⟨fun _ => rfl, fun _ => rfl, rfl, trivial⟩, MC__f h.2.2.2.2.2.1 f ⟨fun _ => rfl, rfl, rfl, trivial⟩, SH__f h.2.2.2.2.2.2.1 f ⟨fun _ => rfl, fun _ => rfl, fun _ => rfl, rfl, trivial⟩, FM__f h.2.2.2.2.2.2.2.1 f ⟨fun _ => rfl, fun _ => rfl, trivial⟩, rx_f h.2.2.2.2.2.2.2.2.1 (f 111 0 29 rfl) (f 111 0 47 rfl) (fun k j h => f k 0 j (by rcases h with rfl | rfl | rfl | rfl | rfl <;> rfl)), rz_f h.2.2.2.2.2.2.2.2.2.1 (f 111 0 29 rfl) (fun j => f 254 0 j rfl) (fun j => f 256 0 j rfl), ZS__f h.2.2.2.2.2.2.2.2.2.2.1 f ⟨fun _ => rfl, fun _ => rfl, trivial⟩, gx_f (x := -1) (y := -1) h.2.2.2.2.2.2.2.2.2.2.2 f ⟨fun _ => rfl, fun _ => rfl, fun _ => rfl⟩ (fun j _ => f 254 0 j rfl) (Or.inl rfl)⟩
theorem ir_chance {T T' : Zt} {cl g : Int} {r : Option Zv} (h : IR_ T) (p : po_X11_chance T cl g T' r) : IR_ T' := by
  obtain ⟨x, rfl, f, q⟩ := p
  exact ⟨CW_f h.1 f ⟨fun _ => rfl, fun _ => rfl, fun _ => rfl, fun _ => rfl, fun _ => rfl⟩, RI__f h.2.1 f ⟨fun _ => rfl, rfl, trivial⟩, RW__f h.2.2.1 f ⟨fun _ => rfl, rfl, trivial⟩, EN__f h.2.2.2.1 f ⟨fun _ => rfl, fun _ => rfl, rfl, trivial⟩, ML__f h.2.2.2.2.1 f ⟨fun _ => rfl, fun _ => rfl, rfl, trivial⟩, MC__f h.2.2.2.2.2.1 f ⟨fun _ => rfl, rfl, rfl, trivial⟩, SH__f h.2.2.2.2.2.2.1 f ⟨fun _ => rfl, fun _ => rfl, fun _ => rfl, rfl, trivial⟩, FM__f h.2.2.2.2.2.2.2.1 f ⟨fun _ => rfl, fun _ => rfl, trivial⟩, rx_f h.2.2.2.2.2.2.2.2.1 (f 111 0 29 rfl) (f 111 0 47 rfl) (fun k j h => f k 0 j (by rcases h with rfl | rfl | rfl | rfl | rfl <;> rfl)), rz_f h.2.2.2.2.2.2.2.2.2.1 (f 111 0 29 rfl) (fun j => f 254 0 j rfl) (fun j => f 256 0 j rfl), ZS__f h.2.2.2.2.2.2.2.2.2.2.1 f ⟨fun _ => rfl, fun _ => rfl, trivial⟩, gx_f (x := -1) (y := -1) h.2.2.2.2.2.2.2.2.2.2.2 f ⟨fun _ => rfl, fun _ => rfl, fun _ => rfl⟩ (fun j _ => f 254 0 j rfl) (Or.inl rfl)⟩
theorem ir_ball {T T' : Zt} {ta fi : Int} {r : Option Zv} (h : IR_ T) (p : po_X11_ball T ta fi T' r) : IR_ T' := by
  obtain ⟨x, rfl, f, q⟩ := p
  exact ⟨CW_f h.1 f ⟨fun _ => rfl, fun _ => rfl, fun _ => rfl, fun _ => rfl, fun _ => rfl⟩, RI__f h.2.1 f ⟨fun _ => rfl, rfl, trivial⟩, RW__f h.2.2.1 f ⟨fun _ => rfl, rfl, trivial⟩, EN__f h.2.2.2.1 f ⟨fun _ => rfl, fun _ => rfl, rfl, trivial⟩, ML__f h.2.2.2.2.1 f ⟨fun _ => rfl, fun _ => rfl, rfl, trivial⟩, MC__f h.2.2.2.2.2.1 f ⟨fun _ => rfl, rfl, rfl, trivial⟩, SH__f h.2.2.2.2.2.2.1 f ⟨fun _ => rfl, fun _ => rfl, fun _ => rfl, rfl, trivial⟩, FM__f h.2.2.2.2.2.2.2.1 f ⟨fun _ => rfl, fun _ => rfl, trivial⟩, rx_f h.2.2.2.2.2.2.2.2.1 (f 111 0 29 rfl) (f 111 0 47 rfl) (fun k j h => f k 0 j (by rcases h with rfl | rfl | rfl | rfl | rfl <;> rfl)), rz_f h.2.2.2.2.2.2.2.2.2.1 (f 111 0 29 rfl) (fun j => f 254 0 j rfl) (fun j => f 256 0 j rfl), ZS__f h.2.2.2.2.2.2.2.2.2.2.1 f ⟨fun _ => rfl, fun _ => rfl, trivial⟩, gx_f (x := -1) (y := -1) h.2.2.2.2.2.2.2.2.2.2.2 f ⟨fun _ => rfl, fun _ => rfl, fun _ => rfl⟩ (fun j _ => f 254 0 j rfl) (Or.inl rfl)⟩
theorem ir_assign {T T' : Zt} {d : Int} {r : Option Zv} (h : IR_ T) (p : po_X11_assign T d T' r) : IR_ T' := by
  obtain ⟨x, rfl, f, q⟩ := p
  exact ⟨CW_f h.1 f ⟨fun _ => rfl, fun _ => rfl, fun _ => rfl, fun _ => rfl, fun _ => rfl⟩, RI__f h.2.1 f ⟨fun _ => rfl, rfl, trivial⟩, RW__f h.2.2.1 f ⟨fun _ => rfl, rfl, trivial⟩, EN__f h.2.2.2.1 f ⟨fun _ => rfl, fun _ => rfl, rfl, trivial⟩, ML__f h.2.2.2.2.1 f ⟨fun _ => rfl, fun _ => rfl, rfl, trivial⟩, MC__f h.2.2.2.2.2.1 f ⟨fun _ => rfl, rfl, rfl, trivial⟩, SH__f h.2.2.2.2.2.2.1 f ⟨fun _ => rfl, fun _ => rfl, fun _ => rfl, rfl, trivial⟩, FM__f h.2.2.2.2.2.2.2.1 f ⟨fun _ => rfl, fun _ => rfl, trivial⟩, rx_f h.2.2.2.2.2.2.2.2.1 (f 111 0 29 rfl) (f 111 0 47 rfl) (fun k j h => f k 0 j (by rcases h with rfl | rfl | rfl | rfl | rfl <;> rfl)), rz_f h.2.2.2.2.2.2.2.2.2.1 (f 111 0 29 rfl) (fun j => f 254 0 j rfl) (fun j => f 256 0 j rfl), ZS__f h.2.2.2.2.2.2.2.2.2.2.1 f ⟨fun _ => rfl, fun _ => rfl, trivial⟩, gx_f (x := -1) (y := -1) h.2.2.2.2.2.2.2.2.2.2.2 f ⟨fun _ => rfl, fun _ => rfl, fun _ => rfl⟩ (fun j _ => f 254 0 j rfl) (Or.inl rfl)⟩
theorem ir_plan {T T' : Zt} {c g : Int} {r : Option Zv} (hT : ok_T T) (h : IR_ T) (p : po_X11_plan_k T c g T' r) : IR_ T' := by
  obtain ⟨x, rfl, f, q⟩ := p
  rcases q with ⟨-, e⟩ | ⟨c0, c1, a, l4, e1, e2, e3⟩
  · rw [← e]; exact h
  · have hb_29 : 0 ≤ T 111 0 29 ∧ T 111 0 29 ≤ 400 := bd_f hT 111 29 (by decide +kernel : (tf_ 111)[29]? = some (0, 0, 0, 400)) 0
    have rx := rx_am h.2.2.2.2.2.2.2.2.1 h.2.2.2.2.2.2.2.2.2.1 (by omega) a.1 l4 (f 111 0 47 rfl) (fun z => f 252 0 z rfl) (fun j => f 254 0 j rfl) (fun j => f 256 0 j rfl) (fun j hj => ⟨(a.2.1 j hj).2.2.2.2.2.2.2.1, (a.2.1 j hj).2.2.2.2.2.2.2.2⟩) (fun j u v => (a.2.2.1 j u v).2.2)
    exact ⟨CW_f h.1 f ⟨fun _ => rfl, fun _ => rfl, fun _ => rfl, fun _ => rfl, fun _ => rfl⟩, RI__f h.2.1 f ⟨fun _ => rfl, rfl, trivial⟩, RW__f h.2.2.1 f ⟨fun _ => rfl, rfl, trivial⟩, EN__f h.2.2.2.1 f ⟨fun _ => rfl, fun _ => rfl, rfl, trivial⟩, ml_p h.2.2.2.2.1 a.1 e1 e2 e3, mc_p h.2.2.2.2.2.1 c1 a (f 111 0 6 rfl), sh_p h.2.2.2.2.2.2.1 h.2.1 ⟨c0, c1⟩ a (fun j => f 239 0 j rfl) (fun j => f 205 0 j rfl), fm_p h.2.2.2.2.2.2.2.1 a (fun j => f 244 0 j rfl), rx.1, rx.2, ZS__f h.2.2.2.2.2.2.2.2.2.2.1 f ⟨fun _ => rfl, fun _ => rfl, trivial⟩, gx_f (x := -1) (y := -1) h.2.2.2.2.2.2.2.2.2.2.2 f ⟨fun _ => rfl, fun _ => rfl, fun _ => rfl⟩ (fun j _ => f 254 0 j rfl) (Or.inl rfl)⟩

