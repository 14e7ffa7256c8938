/-- matches of c are added; behind them nothing is changed -/
def am2_ (T T' : Zt) (c : Int) : Prop := T 111 0 29 ≤ T' 111 0 29 ∧ (∀ j, j < T 111 0 29 → T' 230 0 j = T 230 0 j ∧ T' 231 0 j = T 231 0 j ∧ T' 232 0 j = T 232 0 j ∧ T' 233 0 j = T 233 0 j ∧ T' 234 0 j = T 234 0 j ∧ T' 235 0 j = T 235 0 j ∧ T' 238 0 j = T 238 0 j ∧ T' 253 0 j = T 253 0 j ∧ T' 255 0 j = T 255 0 j) ∧ (∀ j, T 111 0 29 ≤ j → j < T' 111 0 29 → T' 230 0 j = c ∧ T' 235 0 j = 0 ∧ T' 253 0 j = -1 ∧ T' 255 0 j = -1) ∧ ∀ j, T' 111 0 29 ≤ j → T' 235 0 j = T 235 0 j
theorem am2_s {T T1 T2 : Zt} {c : Int} (h : am2_ T T1 c) (g : am1_ T1 T2 c) : am2_ T T2 c := by
  obtain ⟨h1, h2, h3, h4⟩ := h
  have k := am_s ⟨h1, h2, h3⟩ g
  refine ⟨k.1, k.2.1, k.2.2, fun j a => ?_⟩
  obtain ⟨g1, g2, -⟩ := g
  exact (g2 j (by omega)).2.2.2.2.2.1.trans (h4 j (by omega))
abbrev po_X11_competition_k (T : Zt) : Zt → Option Zv → Prop := fun T' r => ∃ x : Int, r = some (vI x) ∧ fr_ [(111, [1, 2, 6, 57, 58, 59, 60, 61, 62, 63]), (204, []), (269, []), (270, []), (205, [])] T T' ∧ ((x < 0 ∧ T' 111 0 6 = T 111 0 6 ∨ x = T 111 0 6 ∧ T' 111 0 6 = x + 1) ∧ RI_ T' ∧ RW_ T' ∧ ∀ j, j < 23 * T 111 0 6 → T' 205 0 j = T 205 0 j)
set_option maxHeartbeats 4000000 in
theorem ct_X11_competition_k {T : Zt} (hC : CW_ T) (hRI : RI_ T) (hRW : RW_ T) : Ct_ yX11_competition zX11_competition T [vR 111 0] (po_X11_competition_k T) := by
  refine ct_of pn_11 rfl rfl (Nat.le_of_ble_eq_true rfl) (fun hT hav => ?_)
  have hz : zX11_competition.2.2.2.1 = some .boolean → ∀ (T' : Zt) (x : Int), po_X11_competition_k T T' (some (vI x)) → 0 ≤ x ∧ x ≤ 1 := fun h => by cases h
  have hb_1 : 0 ≤ T 111 0 1 ∧ T 111 0 1 ≤ 400 := bd_f hT 111 1 (by decide +kernel : (tf_ 111)[1]? = some (0, 0, 0, 400)) 0
  have hb_6 : 0 ≤ T 111 0 6 ∧ T 111 0 6 ≤ 4 := bd_f hT 111 6 (by decide +kernel : (tf_ 111)[6]? = some (0, 0, 0, 4)) 0
  show J_ zX11_competition T (po_X11_competition_k T) 0 0 0 [some (vR 111 0), none, none] [] T
  have c_83 : ∀ (T4 : Zt), (fr_ [(111, [57, 58, 59, 60, 61, 62, 63]), (204, []), (269, []), (270, [])] T T4) → (0 ≤ T 111 0 6 ∧ T 111 0 6 < 4) → (FI_ T4) → (T4 111 0 62 = 0 → T4 204 0 2 ≤ T4 204 0 1 ∧ T4 204 0 3 ≤ T4 204 0 2) → J_ zX11_competition T (po_X11_competition_k T) 0 0 83 [some (vR 111 0), none, none] [] T4 := by
    intro T4 hf_83 a4 g4 w4
    have c_113 : ∀ (nn : Nat) (k : Int) (T2 : Zt), ((23 - k).toNat) ≤ nn → (fr_ [(111, [1, 2, 57, 58, 59, 60, 61, 62, 63]), (204, []), (269, []), (270, []), (205, [])] T T2) → (0 ≤ k ∧ k ≤ 23) → (FI_ T2) → (T2 204 0 2 ≤ T2 204 0 1 ∧ T2 204 0 3 ≤ T2 204 0 2 ∧ 0 ≤ T2 111 0 1 ∧ T2 111 0 1 ≤ 400) → (∀ j : Int, 0 ≤ j → j < k → T2 205 0 (23 * T 111 0 6 + j) = T2 204 0 j) → (∀ j : Int, j < 23 * T 111 0 6 → T2 205 0 j = T 205 0 j) → J_ zX11_competition T (po_X11_competition_k T) 0 0 113 [some (vR 111 0), none, some (vI k)] [] T2 := by
      intro nn
      induction nn using Nat.strongRecOn with
      | _ nn ih_113 =>
        intro k T2 hm_113 hf_113 k1 g2 w2 r1 r2
        refine j_blx (F := fX11) tb_X11 (nn_ _) bk_X11_competition_113 bs_X11_competition_113 hz (fun K hK => ?_)
        refine And.intro (fun c1 => ?_) (fun c1 => ?_)
        · refine hK 145 _ [] T2 ?_
          refine j_blx (F := fX11) tb_X11 (nn_ _) bk_X11_competition_145 bs_X11_competition_145 hz (fun K hK => ?_)
          intro b2 b2b
          have e3 : T2 111 0 6 = T 111 0 6 := hf_113 111 0 6 rfl
          rw [e3] at b2 b2b ⊢
          refine rg_i (by omega) ?_
          refine bd_i (by omega) ?_
          refine x_nm (fun U4 hU4 => ?_)
          have e5 := up_f hU4
          intro b6 b6b
          have e7 : U4 111 0 6 = (T 111 0 6) + 1 := up_f hU4
          rw [e7] at b6 b6b ⊢
          refine rg_i (by omega) ?_
          refine (show po_X11_competition_k T U4 (some (vI (((T 111 0 6) + 1) - 1))) from ?_)
          have e8 : U4 111 0 6 = (T 111 0 6) + 1 := up_f hU4
          have ec : U4 111 0 6 = T 111 0 6 + 1 := by omega
          have ek : ∀ j, U4 205 0 j = T2 205 0 j := fun j => up_k hU4 (by exact Nat.ne_of_beq_eq_false rfl) 0 j
          refine ⟨_, rfl, fr_u (fr_t (fr_0 _ _) (fr_s hf_113 rfl)) hU4 rfl, by omega, fun c w a b d e => ?_, fun c a b => ?_, fun j a => (ek j).trans (r2 j a)⟩
          · rw [ek]
            by_cases z : c = T 111 0 6
            · subst z; rw [r1 w d (by omega)]; exact g2 w d e
            · rw [r2 _ (by omega)]; exact hRI c w a (by omega) d e
          · rw [ek, ek, ek]
            by_cases z : c = T 111 0 6
            · subst z; rw [r1 1 (by omega) (by omega), r1 2 (by omega) (by omega), r1 3 (by omega) (by omega)]; omega
            · rw [r2 _ (by omega), r2 _ (by omega), r2 _ (by omega)]; exact hRW c a (by omega)
        · intro b9 b9b
          have e10 : T2 111 0 6 = T 111 0 6 := hf_113 111 0 6 rfl
          rw [e10] at b9 b9b ⊢
          refine rg_i (by omega) ?_
          refine rg_i (by omega) ?_
          refine ix_i (by omega) ?_
          intro b11 b11b
          refine iy_i (by omega) (by omega) ?_
          refine x_nm (fun U12 hU12 => ?_)
          have e13 := up_f hU12
          refine rg_i (by omega) ?_
          refine hK 113 [some (vR 111 0), none, some (vI (k + 1))] [] U12 ?_
          have e14 : U12 204 0 2 = T2 204 0 2 := up_k hU12 (by exact Nat.ne_of_beq_eq_false rfl) 0 2
          have e15 : U12 204 0 1 = T2 204 0 1 := up_k hU12 (by exact Nat.ne_of_beq_eq_false rfl) 0 1
          have e16 : U12 204 0 3 = T2 204 0 3 := up_k hU12 (by exact Nat.ne_of_beq_eq_false rfl) 0 3
          have e17 : U12 111 0 1 = T2 111 0 1 := up_k hU12 (by exact Nat.ne_of_beq_eq_false rfl) 0 1
          refine ih_113 _ ?_ (k + 1) U12 (Nat.le_refl _) ?_ ?_ ?_ ?_ ?_ ?_
          · omega
          · exact fr_u (fr_t (fr_0 _ _) (fr_s hf_113 rfl)) hU12 rfl
          · omega
          · exact FI__f (ws := [(205, [])]) g2 (fr_u (fr_0 _ _) hU12 rfl) ⟨fun _ => rfl, trivial⟩
          · omega
          · intro j a b
            by_cases z : j = k
            · subst z; rw [up_f hU12]; exact (up_k hU12 (by exact Nat.ne_of_beq_eq_false rfl) 0 j).symm
            · rw [up_g hU12 (by omega), up_k hU12 (by exact Nat.ne_of_beq_eq_false rfl)]; exact r1 j a (by omega)
          · intro j a
            rw [up_g hU12 (by omega)]; exact r2 j a
    refine j_blx (F := fX11) tb_X11 (nn_ _) bk_X11_competition_83 bs_X11_competition_83 hz (fun K hK => ?_)
    refine bd_i (by omega) ?_
    refine x_nm (fun U18 hU18 => ?_)
    have e19 := up_f hU18
    intro b20 b20b
    have e21 : U18 111 0 63 = T4 111 0 63 := up_j hU18 (by exact ni_ rfl) 111 0
    rw [e21] at b20 b20b ⊢
    refine bd_i (by omega) ?_
    refine x_nm (fun U22 hU22 => ?_)
    have e23 := up_f hU22
    intro b24 b24b
    have e25 : U22 111 0 62 = T4 111 0 62 := (up_j hU22 (by exact ni_ rfl) 111 0).trans (up_j hU18 (by exact ni_ rfl) 111 0)
    rw [e25] at b24 b24b ⊢
    refine And.intro (fun c26 => ?_) (fun c26 => ?_)
    · refine hK 111 _ [] U22 ?_
      refine j_blx (F := fX11) tb_X11 (nn_ _) bk_X11_competition_111 bs_X11_competition_111 hz (fun K hK => ?_)
      refine hK 113 [some (vR 111 0), none, some (vI 0)] [] U22 ?_
      have e27 : U22 204 0 2 = T4 204 0 2 := (up_k hU22 (by exact Nat.ne_of_beq_eq_false rfl) 0 2).trans (up_k hU18 (by exact Nat.ne_of_beq_eq_false rfl) 0 2)
      have e28 : U22 204 0 1 = T4 204 0 1 := (up_k hU22 (by exact Nat.ne_of_beq_eq_false rfl) 0 1).trans (up_k hU18 (by exact Nat.ne_of_beq_eq_false rfl) 0 1)
      have e29 : U22 204 0 3 = T4 204 0 3 := (up_k hU22 (by exact Nat.ne_of_beq_eq_false rfl) 0 3).trans (up_k hU18 (by exact Nat.ne_of_beq_eq_false rfl) 0 3)
      have e30 : U22 111 0 1 = 0 := (up_j hU22 (by exact ni_ rfl) 111 0).trans (up_f hU18)
      refine c_113 _ 0 U22 (Nat.le_refl _) ?_ ?_ ?_ ?_ ?_ ?_
      · exact fr_u (fr_u (fr_t (fr_0 _ _) (fr_s hf_83 rfl)) hU18 rfl) hU22 rfl
      · omega
      · exact FI__f (ws := [(111, [2, 1])]) g4 (fr_u (fr_u (fr_0 _ _) hU18 rfl) hU22 rfl) ⟨fun _ => rfl, trivial⟩
      · omega
      · intro j a b; omega
      · exact fun j _ => (show fr_ [(111, [2, 1, 57, 58, 59, 60, 61, 62, 63]), (204, []), (269, []), (270, [])] T U22 from fr_u (fr_u (fr_t (fr_0 _ _) (fr_s hf_83 rfl)) hU18 rfl) hU22 rfl) 205 0 j rfl
    · intro b31 b31b
      have e32 : U22 111 0 62 = T4 111 0 62 := (up_j hU22 (by exact ni_ rfl) 111 0).trans (up_j hU18 (by exact ni_ rfl) 111 0)
      rw [e32] at b31 b31b ⊢
      refine rg_i (by omega) ?_
      refine (show po_X11_competition_k T U22 (some (vI ((-10) - (T4 111 0 62)))) from ?_)
      have e33 : U22 111 0 6 = T 111 0 6 := (up_j hU22 (by exact ni_ rfl) 111 0).trans ((up_j hU18 (by exact ni_ rfl) 111 0).trans (hf_83 111 0 6 rfl))
      exact ⟨_, rfl, fr_u (fr_u (fr_t (fr_0 _ _) (fr_s hf_83 rfl)) hU18 rfl) hU22 rfl, by omega, RI__f (ws := [(111, [2, 1, 57, 58, 59, 60, 61, 62, 63]), (204, []), (269, []), (270, [])]) hRI (fr_u (fr_u (fr_t (fr_0 _ _) (fr_s hf_83 rfl)) hU18 rfl) hU22 rfl) ⟨fun _ => rfl, rfl, trivial⟩, RW__f (ws := [(111, [2, 1, 57, 58, 59, 60, 61, 62, 63]), (204, []), (269, []), (270, [])]) hRW (fr_u (fr_u (fr_t (fr_0 _ _) (fr_s hf_83 rfl)) hU18 rfl) hU22 rfl) ⟨fun _ => rfl, rfl, trivial⟩, fun j _ => (show fr_ [(111, [2, 1, 57, 58, 59, 60, 61, 62, 63]), (204, []), (269, []), (270, [])] T U22 from fr_u (fr_u (fr_t (fr_0 _ _) (fr_s hf_83 rfl)) hU18 rfl) hU22 rfl) 205 0 j rfl⟩
  have c_37 : ∀ (nn : Nat) (mo : Int) (T1 : Zt), ((2 * (6 * (T 111 0 1 - T1 111 0 57) + 5 - T1 111 0 62) + mo).toNat) ≤ nn → (fr_ [(111, [57, 58, 59, 60, 61, 62, 63]), (204, []), (269, []), (270, [])] T T1) → (0 ≤ mo ∧ mo ≤ 1) → (T 111 0 6 < 4 ∧ T1 111 0 57 ≤ T 111 0 1 ∧ 0 ≤ T1 111 0 57 ∧ 0 ≤ T1 111 0 62 ∧ T1 111 0 62 ≤ 5) → (FI_ T1) → (T1 111 0 62 = 0 → T1 204 0 2 ≤ T1 204 0 1 ∧ T1 204 0 3 ≤ T1 204 0 2) → J_ zX11_competition T (po_X11_competition_k T) 0 0 37 [some (vR 111 0), some (vI mo), none] [] T1 := by
    intro nn
    induction nn using Nat.strongRecOn with
    | _ nn ih_37 =>
      intro mo T1 hm_37 hf_37 m1 a1 g1 w1
      have c_70 : ∀ (T3 : Zt), (fr_ [(111, [57, 58, 59, 60, 61, 62, 63])] T1 T3) → (T3 111 0 57 ≤ T 111 0 1 ∧ T1 111 0 57 ≤ T3 111 0 57 ∧ 0 ≤ T3 111 0 62 ∧ T3 111 0 62 ≤ 5 ∧ mo = 1 ∧ T1 111 0 62 = 0) → J_ zX11_competition T (po_X11_competition_k T) 0 0 70 [some (vR 111 0), none, none] [] T3 := by
        intro T3 hf_70 a3
        refine j_blx (F := fX11) tb_X11 (nn_ _) bk_X11_competition_70 bs_X11_competition_70 hz (fun K hK => ?_)
        refine And.intro (fun c34 => ?_) (fun c34 => ?_)
        · refine hK 37 [some (vR 111 0), some (vI 0), none] [] T3 ?_
          have e35 : T3 204 0 2 = T1 204 0 2 := hf_70 204 0 2 rfl
          have e36 : T3 204 0 1 = T1 204 0 1 := hf_70 204 0 1 rfl
          have e37 : T3 204 0 3 = T1 204 0 3 := hf_70 204 0 3 rfl
          refine ih_37 _ ?_ 0 T3 (Nat.le_refl _) ?_ ?_ ?_ ?_ ?_
          · omega
          · exact fr_t (fr_t (fr_0 _ _) (fr_s hf_37 rfl)) (fr_s hf_70 rfl)
          · omega
          · omega
          · exact FI__f (ws := [(111, [57, 58, 59, 60, 61, 62, 63])]) g1 (fr_t (fr_0 _ _) (fr_s hf_70 rfl)) ⟨fun _ => rfl, trivial⟩
          have e38 : T3 204 0 1 = T1 204 0 1 := hf_70 204 0 1 rfl
          have e39 : T3 204 0 2 = T1 204 0 2 := hf_70 204 0 2 rfl
          have e40 : T3 204 0 3 = T1 204 0 3 := hf_70 204 0 3 rfl
          · omega
        · refine hK 77 _ [vR 111 0] T3 ?_
          have e41 : T3 204 0 1 = T1 204 0 1 := hf_70 204 0 1 rfl
          have e42 : T3 204 0 2 = T1 204 0 2 := hf_70 204 0 2 rfl
          have e43 : T3 204 0 3 = T1 204 0 3 := hf_70 204 0 3 rfl
          have e44 : T3 111 0 1 = T 111 0 1 := (hf_70 111 0 1 rfl).trans (hf_37 111 0 1 rfl)
          refine j_callV (y := yX11_readStatement) (Yc := zX11_readStatement) (rest := []) [] (ct_X11_readStatement (T := T3) (by omega) (by exact CX_f (ws := [(111, [57, 58, 59, 60, 61, 62, 63]), (204, []), (269, []), (270, [])]) hC (fr_t (fr_t (fr_0 _ _) (fr_s hf_37 rfl)) (fr_s hf_70 rfl)) ⟨fun _ => rfl, fun _ => rfl, fun _ => rfl, fun _ => rfl, fun _ => rfl, trivial⟩) (by exact FI__f (ws := [(111, [57, 58, 59, 60, 61, 62, 63])]) g1 (fr_t (fr_0 _ _) (fr_s hf_70 rfl)) ⟨fun _ => rfl, trivial⟩) (by (intro z9; omega)) (by omega)) cl_X11_314 (qd_c (by decide +kernel)) (nn_ _) rfl (rf_of rfl) (Nat.le_of_ble_eq_true rfl) (Nat.le_of_ble_eq_true rfl) (Nat.le_of_ble_eq_true rfl) rfl ?_
          rintro U45 _ ⟨rfl, fU45, ⟨qU45a, qU45b, qU45c, qU45d, qU45e⟩⟩
          show J_ zX11_competition T (po_X11_competition_k T) 0 0 80 _ [] U45
          refine j_ok (fun hTu _ => ?_)
          have hbu : 0 ≤ U45 111 0 62 ∧ U45 111 0 62 ≤ 5 := bd_f hTu 111 62 (by decide +kernel : (tf_ 111)[62]? = some (0, 0, 0, 5)) 0
          have hbv : 0 ≤ U45 111 0 57 ∧ U45 111 0 57 ≤ 400 := bd_f hTu 111 57 (by decide +kernel : (tf_ 111)[57]? = some (0, 0, 0, 400)) 0
          refine j_blx (F := fX11) tb_X11 (nn_ _) bk_X11_competition_80 bs_X11_competition_80 hz (fun K hK => ?_)
          refine hK 37 _ [] U45 ?_
          refine ih_37 _ ?_ 0 U45 (Nat.le_refl _) ?_ ?_ ?_ ?_ ?_
          · omega
          · exact fr_t (fr_t (fr_t (fr_0 _ _) (fr_s hf_37 rfl)) (fr_s hf_70 rfl)) (fr_s fU45 rfl)
          · omega
          · omega
          · exact qU45d
          · omega
      refine j_blx (F := fX11) tb_X11 (nn_ _) bk_X11_competition_37 bs_X11_competition_37 hz (fun K hK => ?_)
      refine And.intro (fun c46 => ?_) (fun c46 => ?_)
      · refine hK 83 _ [] T1 ?_
        refine j_drop [some (vR 111 0), none, none] (fun k v hk => ?_) rfl ?_
        · match k, hk with
          | 0, hk => exact hk
          | 1, hk => cases hk
          | 2, hk => cases hk
          | k + 3, hk => cases hk
        refine c_83 T1 ?_ ?_ ?_ ?_
        · exact fr_t (fr_0 _ _) (fr_s hf_37 rfl)
        · omega
        · exact g1
        · omega
      · intro b47 b47b
        refine And.intro (fun c48 => ?_) (fun c48 => ?_)
        · refine hK 83 [some (vR 111 0), some (vI mo), none] [] T1 ?_
          refine j_drop [some (vR 111 0), none, none] (fun k v hk => ?_) rfl ?_
          · match k, hk with
            | 0, hk => exact hk
            | 1, hk => cases hk
            | 2, hk => cases hk
            | k + 3, hk => cases hk
          refine c_83 T1 ?_ ?_ ?_ ?_
          · exact fr_t (fr_0 _ _) (fr_s hf_37 rfl)
          · omega
          · exact g1
          · omega
        · refine hK 49 [some (vR 111 0), some (vI mo), none] [vR 111 0] T1 ?_
          have e49 : T1 111 0 1 = T 111 0 1 := hf_37 111 0 1 rfl
          refine j_callV (y := yX11_take) (Yc := zX11_take) (rest := []) [] (ct_X11_take (T := T1) (by omega)) cl_X11_291 (qd_c (by decide +kernel)) (nn_ _) rfl (rf_of rfl) (Nat.le_of_ble_eq_true rfl) (Nat.le_of_ble_eq_true rfl) (Nat.le_of_ble_eq_true rfl) rfl ?_
          rintro U50 _ ⟨rfl, fU50, qU50⟩
          show J_ zX11_competition T (po_X11_competition_k T) 0 0 52 _ [] U50
          refine j_blx (F := fX11) tb_X11 (nn_ _) bk_X11_competition_52 bs_X11_competition_52 hz (fun K hK => ?_)
          intro b51 b51b
          refine And.intro (fun c52 => ?_) (fun c52 => ?_)
          · refine hK 70 _ [] U50 ?_
            refine j_drop [some (vR 111 0), none, none] (fun k v hk => ?_) rfl ?_
            · match k, hk with
              | 0, hk => exact hk
              | 1, hk => cases hk
              | 2, hk => cases hk
              | k + 3, hk => cases hk
            refine c_70 U50 ?_ ?_
            · exact fr_t (fr_0 _ _) (fr_s fU50 rfl)
            · omega
          · intro b53 b53b
            refine And.intro (fun c54 => ?_) (fun c54 => ?_)
            · refine hK 70 [some (vR 111 0), some (vI mo), none] [] U50 ?_
              refine j_drop [some (vR 111 0), none, none] (fun k v hk => ?_) rfl ?_
              · match k, hk with
                | 0, hk => exact hk
                | 1, hk => cases hk
                | 2, hk => cases hk
                | k + 3, hk => cases hk
              refine c_70 U50 ?_ ?_
              · exact fr_t (fr_0 _ _) (fr_s fU50 rfl)
              · omega
            · refine hK 71 [some (vR 111 0), some (vI mo), none] [vI 1] U50 ?_
              refine j_blx (F := fX11) tb_X11 (nn_ _) bk_X11_competition_71 bs_X11_competition_71 hz (fun K hK => ?_)
              refine And.intro (fun c55 => ?_) (fun c55 => ?_)
              · refine hK 37 [some (vR 111 0), some (vI 1), none] [] U50 ?_
                have e56 : U50 204 0 2 = T1 204 0 2 := fU50 204 0 2 rfl
                have e57 : U50 204 0 1 = T1 204 0 1 := fU50 204 0 1 rfl
                have e58 : U50 204 0 3 = T1 204 0 3 := fU50 204 0 3 rfl
                refine ih_37 _ ?_ 1 U50 (Nat.le_refl _) ?_ ?_ ?_ ?_ ?_
                · omega
                · exact fr_t (fr_t (fr_0 _ _) (fr_s hf_37 rfl)) (fr_s fU50 rfl)
                · omega
                · omega
                · exact FI__f (ws := [(111, [57, 58, 59, 60, 61, 62, 63])]) g1 (fr_t (fr_0 _ _) (fr_s fU50 rfl)) ⟨fun _ => rfl, trivial⟩
                have e59 : U50 204 0 1 = T1 204 0 1 := fU50 204 0 1 rfl
                have e60 : U50 204 0 2 = T1 204 0 2 := fU50 204 0 2 rfl
                have e61 : U50 204 0 3 = T1 204 0 3 := fU50 204 0 3 rfl
                · omega
              · refine hK 77 _ [vR 111 0] U50 ?_
                have e62 : U50 204 0 1 = T1 204 0 1 := fU50 204 0 1 rfl
                have e63 : U50 204 0 2 = T1 204 0 2 := fU50 204 0 2 rfl
                have e64 : U50 204 0 3 = T1 204 0 3 := fU50 204 0 3 rfl
                have e65 : U50 111 0 1 = T 111 0 1 := (fU50 111 0 1 rfl).trans (hf_37 111 0 1 rfl)
                refine j_callV (y := yX11_readStatement) (Yc := zX11_readStatement) (rest := []) [] (ct_X11_readStatement (T := U50) (by omega) (by exact CX_f (ws := [(111, [57, 58, 59, 60, 61, 62, 63]), (204, []), (269, []), (270, [])]) hC (fr_t (fr_t (fr_0 _ _) (fr_s hf_37 rfl)) (fr_s fU50 rfl)) ⟨fun _ => rfl, fun _ => rfl, fun _ => rfl, fun _ => rfl, fun _ => rfl, trivial⟩) (by exact FI__f (ws := [(111, [57, 58, 59, 60, 61, 62, 63])]) g1 (fr_t (fr_0 _ _) (fr_s fU50 rfl)) ⟨fun _ => rfl, trivial⟩) (by (intro z9; omega)) (by omega)) cl_X11_314 (qd_c (by decide +kernel)) (nn_ _) rfl (rf_of rfl) (Nat.le_of_ble_eq_true rfl) (Nat.le_of_ble_eq_true rfl) (Nat.le_of_ble_eq_true rfl) rfl ?_
                rintro U66 _ ⟨rfl, fU66, ⟨qU66a, qU66b, qU66c, qU66d, qU66e⟩⟩
                show J_ zX11_competition T (po_X11_competition_k T) 0 0 80 _ [] U66
                refine j_ok (fun hTu _ => ?_)
                have hbu : 0 ≤ U66 111 0 62 ∧ U66 111 0 62 ≤ 5 := bd_f hTu 111 62 (by decide +kernel : (tf_ 111)[62]? = some (0, 0, 0, 5)) 0
                have hbv : 0 ≤ U66 111 0 57 ∧ U66 111 0 57 ≤ 400 := bd_f hTu 111 57 (by decide +kernel : (tf_ 111)[57]? = some (0, 0, 0, 400)) 0
                refine j_blx (F := fX11) tb_X11 (nn_ _) bk_X11_competition_80 bs_X11_competition_80 hz (fun K hK => ?_)
                refine hK 37 _ [] U66 ?_
                refine ih_37 _ ?_ 1 U66 (Nat.le_refl _) ?_ ?_ ?_ ?_ ?_
                · omega
                · exact fr_t (fr_t (fr_t (fr_0 _ _) (fr_s hf_37 rfl)) (fr_s fU50 rfl)) (fr_s fU66 rfl)
                · omega
                · omega
                · exact qU66d
                · omega
  refine j_blx (F := fX11) tb_X11 (nn_ _) bk_X11_competition_0 bs_X11_competition_0 hz (fun K hK => ?_)
  intro b67 b67b
  refine And.intro (fun c68 => ?_) (fun c68 => ?_)
  · refine hK 16 _ [] T ?_
    refine j_blx (F := fX11) tb_X11 (nn_ _) bk_X11_competition_16 bs_X11_competition_16 hz (fun K hK => ?_)
    refine bd_i (by omega) ?_
    refine x_nm (fun U69 hU69 => ?_)
    have e70 := up_f hU69
    refine bd_i (by omega) ?_
    refine x_nm (fun U71 hU71 => ?_)
    have e72 := up_f hU71
    refine bd_i (by omega) ?_
    refine x_nm (fun U73 hU73 => ?_)
    have e74 := up_f hU73
    refine hK 32 _ [vR 111 0] U73 ?_
    refine j_callV (y := yX11_layDefaults) (Yc := zX11_layDefaults) (rest := []) [] (ct_X11_layDefaults (T := U73)) cl_X11_311 (qd_c (by decide +kernel)) (nn_ _) rfl (rf_of rfl) (Nat.le_of_ble_eq_true rfl) (Nat.le_of_ble_eq_true rfl) (Nat.le_of_ble_eq_true rfl) rfl ?_
    rintro U75 _ ⟨rfl, fU75, ⟨qU75a, qU75b⟩⟩
    show J_ zX11_competition T (po_X11_competition_k T) 0 0 35 _ [] U75
    refine j_blx (F := fX11) tb_X11 (nn_ _) bk_X11_competition_35 bs_X11_competition_35 hz (fun K hK => ?_)
    refine hK 37 [some (vR 111 0), some (vI 1), none] [] U75 ?_
    have e76 : U75 111 0 57 = 0 := (fU75 111 0 57 rfl).trans ((up_j hU73 (by exact ni_ rfl) 111 0).trans ((up_j hU71 (by exact ni_ rfl) 111 0).trans (up_f hU69)))
    have e77 : U75 111 0 62 = 0 := (fU75 111 0 62 rfl).trans ((up_j hU73 (by exact ni_ rfl) 111 0).trans (up_f hU71))
    refine c_37 _ 1 U75 (Nat.le_refl _) ?_ ?_ ?_ ?_ ?_
    · exact fr_t (fr_u (fr_u (fr_u (fr_0 _ _) hU69 rfl) hU71 rfl) hU73 rfl) (fr_s fU75 rfl)
    · omega
    · omega
    · exact qU75a
    · omega
  · refine bd_i (by omega) ?_
    refine x_nm (fun U78 hU78 => ?_)
    have e79 := up_f hU78
    refine (show po_X11_competition_k T U78 (some (vI (-5))) from ?_)
    have e80 : U78 111 0 6 = T 111 0 6 := up_j hU78 (by exact ni_ rfl) 111 0
    exact ⟨_, rfl, fr_u (fr_0 _ _) hU78 rfl, by omega, RI__f (ws := [(111, [2])]) hRI (fr_u (fr_0 _ _) hU78 rfl) ⟨fun _ => rfl, rfl, trivial⟩, RW__f (ws := [(111, [2])]) hRW (fr_u (fr_0 _ _) hU78 rfl) ⟨fun _ => rfl, rfl, trivial⟩, fun j _ => (show fr_ [(111, [2])] T U78 from fr_u (fr_0 _ _) hU78 rfl) 205 0 j rfl⟩
abbrev po_X11_plan_k (T : Zt) (c f : Int) : Zt → Option Zv → Prop := fun T' r => ∃ x : Int, r = some (vI x) ∧ fr_ [(230, []), (231, []), (232, []), (233, []), (234, []), (235, []), (238, []), (253, []), (255, []), (111, [29]), (209, []), (210, []), (211, [])] T T' ∧ ((x < 0 ∧ T = T') ∨ (0 ≤ c ∧ c < T 111 0 6 ∧ am2_ T T' c ∧ T' 111 0 29 ≤ 400 ∧ T' 210 0 c = T 111 0 29 ∧ T' 211 0 c = T' 111 0 29 - T 111 0 29 ∧ (∀ z, z ≠ c → T' 210 0 z = T 210 0 z ∧ T' 211 0 z = T 211 0 z ∧ T' 209 0 z = T 209 0 z)))
set_option maxHeartbeats 4000000 in
theorem ct_X11_plan_k {T : Zt} {c f : Int} (hRI : RI_ T) : Ct_ yX11_plan zX11_plan T [vR 111 0, vI c, vI f] (po_X11_plan_k T c f) := by
  refine ct_of pn_11 rfl rfl (Nat.le_of_ble_eq_true rfl) (fun hT hav => ?_)
  have hr_c : -2147483648 ≤ c ∧ c ≤ 2147483647 := hav (vI c) (by simp)
  have hr_f : -2147483648 ≤ f ∧ f ≤ 2147483647 := hav (vI f) (by simp)
  have hz : zX11_plan.2.2.2.1 = some .boolean → ∀ (T' : Zt) (x : Int), po_X11_plan_k T c f T' (some (vI x)) → 0 ≤ x ∧ x ≤ 1 := fun h => by cases h
  have hb_6 : 0 ≤ T 111 0 6 ∧ T 111 0 6 ≤ 4 := bd_f hT 111 6 (by decide +kernel : (tf_ 111)[6]? = some (0, 0, 0, 4)) 0
  have hb_29 : 0 ≤ T 111 0 29 ∧ T 111 0 29 ≤ 400 := bd_f hT 111 29 (by decide +kernel : (tf_ 111)[29]? = some (0, 0, 0, 400)) 0
  show J_ zX11_plan T (po_X11_plan_k T c f) 0 0 0 [some (vR 111 0), some (vI c), some (vI f), none, none, none, none, none, none, none, none, none, none, none, none] [] T
  have c_140 : ∀ (n : Int) (lg : Int) (ev : Int), (0 ≤ c ∧ c < 4 ∧ c < T 111 0 6 ∧ 2 ≤ T 208 0 c ∧ T 208 0 c ≤ 12 ∧ n = T 208 0 c + T 208 0 c % 2 ∧ 1 ≤ lg ∧ lg ≤ 4 ∧ 1 ≤ ev ∧ ev ≤ 30 ∧ 0 ≤ f ∧ f ≤ 999 ∧ 0 ≤ T 111 0 29) → (f + (lg * (n - 1) - 1) * ev ≤ 999) → (T 111 0 29 + lg * (T 208 0 c * (T 208 0 c - 1) / 2) ≤ 400) → J_ zX11_plan T (po_X11_plan_k T c f) 0 0 140 [some (vR 111 0), some (vI c), some (vI f), some (vI n), some (vI lg), some (vI ev), none, none, none, none, none, none, none, none, none] [] T := by
    intro n lg ev ca cb cc
    have hsum : T 111 0 29 + lg * (n - 1) * (n / 2 - T 208 0 c % 2) ≤ 400 := by
      have z := pl_1 (e := T 208 0 c) (by omega) (by omega)
      have e1 : n = T 208 0 c + T 208 0 c % 2 := by omega
      rw [Int.mul_assoc, e1, z]; exact cc
    have hper : 0 ≤ (n / 2 - T 208 0 c % 2) := by omega
    have hstep : ∀ q : Int, (q + 1) * (n / 2 - T 208 0 c % 2) = q * (n / 2 - T 208 0 c % 2) + (n / 2 - T 208 0 c % 2) := fun q => by rw [Int.add_mul, Int.one_mul]
    have hle : ∀ q : Int, q + 1 ≤ lg * (n - 1) → T 111 0 29 + q * (n / 2 - T 208 0 c % 2) + (n / 2 - T 208 0 c % 2) ≤ 400 := fun q hq => by
      have z := Int.mul_le_mul_of_nonneg_right hq hper
      rw [hstep q] at z; omega
    have hday : ∀ q : Int, 0 ≤ q → q + 1 ≤ lg * (n - 1) → 0 ≤ q * ev ∧ f + q * ev ≤ 999 := fun q h0 hq => by
      have z : q * ev ≤ (lg * (n - 1) - 1) * ev := Int.mul_le_mul_of_nonneg_right (by omega) (by omega)
      have z2 : 0 ≤ q * ev := Int.mul_nonneg h0 (by omega)
      omega
    have c_160 : ∀ (nn : Nat) (leg : Int) (T1 : Zt), ((lg - leg).toNat) ≤ nn → (fr_ [(230, []), (231, []), (232, []), (233, []), (234, []), (235, []), (238, []), (253, []), (255, []), (111, [29]), (209, []), (210, [])] T T1) → (0 ≤ leg ∧ leg ≤ lg) → (T1 111 0 29 ≤ T 111 0 29 + leg * (n - 1) * (n / 2 - T 208 0 c % 2)) → (T1 210 0 c = T 111 0 29 ∧ T1 208 0 c = T1 208 0 c) → ((∀ z, z ≠ c → T1 210 0 z = T 210 0 z ∧ T1 209 0 z = T 209 0 z)) → (am2_ T T1 c) → J_ zX11_plan T (po_X11_plan_k T c f) 0 0 160 [some (vR 111 0), some (vI c), some (vI f), some (vI n), some (vI lg), some (vI ev), some (vI leg), none, none, none, none, none, none, none, none] [] T1 := by
      intro nn
      induction nn using Nat.strongRecOn with
      | _ nn ih_160 =>
        intro leg T1 hm_160 hf_160 l1 l2 fo rs am
        have am1 := am.1
        have c_170 : ∀ (nn : Nat) (r : Int) (T1 : Zt), ((n - 1 - r).toNat) ≤ nn → (fr_ [(230, []), (231, []), (232, []), (233, []), (234, []), (235, []), (238, []), (253, []), (255, []), (111, [29]), (209, []), (210, [])] T T1) → (0 ≤ leg ∧ leg < lg) → (0 ≤ r ∧ r ≤ n - 1) → (T1 111 0 29 ≤ T 111 0 29 + (leg * (n - 1) + r) * (n / 2 - T 208 0 c % 2)) → (T1 210 0 c = T 111 0 29 ∧ T1 208 0 c = T1 208 0 c) → ((∀ z, z ≠ c → T1 210 0 z = T 210 0 z ∧ T1 209 0 z = T 209 0 z)) → (am2_ T T1 c) → J_ zX11_plan T (po_X11_plan_k T c f) 0 0 170 [some (vR 111 0), some (vI c), some (vI f), some (vI n), some (vI lg), some (vI ev), some (vI leg), some (vI r), none, none, none, none, none, none, none] [] T1 := by
          intro nn
          induction nn using Nat.strongRecOn with
          | _ nn ih_170 =>
            intro r T1 hm_170 hf_170 rl r1 r2 fo rs am
            have hm1 : (leg + 1) * (n - 1) ≤ lg * (n - 1) := Int.mul_le_mul_of_nonneg_right (by omega) (by omega)
            have hm2 : (leg + 1) * (n - 1) = leg * (n - 1) + (n - 1) := by rw [Int.add_mul, Int.one_mul]
            have hm3 := mb_ (a := leg) (b := n - 1) (A := 3) (B := 11) (by omega) (by omega) (by omega) (by omega)
            have hs1 := hstep (leg * (n - 1) + r)
            have hs2 : (leg * (n - 1) + (r + 1)) * (n / 2 - T 208 0 c % 2) = ((leg * (n - 1) + r) + 1) * (n / 2 - T 208 0 c % 2) := by rw [Int.add_assoc]
            have c_201 : ∀ (nn : Nat) (i : Int) (T1 : Zt), ((n / 2 - i).toNat) ≤ nn → (fr_ [(230, []), (231, []), (232, []), (233, []), (234, []), (235, []), (238, []), (253, []), (255, []), (111, [29]), (209, []), (210, [])] T T1) → (r < n - 1) → (0 ≤ i ∧ i ≤ n / 2) → (T1 111 0 29 ≤ T 111 0 29 + (leg * (n - 1) + r) * (n / 2 - T 208 0 c % 2) + i ∧ (T 208 0 c % 2 = 1 → 0 < i → T1 111 0 29 ≤ T 111 0 29 + (leg * (n - 1) + r) * (n / 2 - T 208 0 c % 2) + i - 1)) → (T1 210 0 c = T 111 0 29 ∧ T1 208 0 c = T1 208 0 c) → ((∀ z, z ≠ c → T1 210 0 z = T 210 0 z ∧ T1 209 0 z = T 209 0 z)) → (am2_ T T1 c) → J_ zX11_plan T (po_X11_plan_k T c f) 0 0 201 [some (vR 111 0), some (vI c), some (vI f), some (vI n), some (vI lg), some (vI ev), some (vI leg), some (vI r), some (vI (leg * (n - 1) + r)), some (vI (f + (leg * (n - 1) + r) * ev)), some (vI i), none, none, none, none] [] T1 := by
              intro nn
              induction nn using Nat.strongRecOn with
              | _ nn ih_201 =>
                intro i T1 hm_201 hf_201 rr i1 i2 fo rs am
                have hl1 := hle (leg * (n - 1) + r) (by omega)
                have hd1 := hday (leg * (n - 1) + r) (by omega) (by omega)
                have hd2 := mb_ (a := (leg * (n - 1) + r)) (b := ev) (A := 44) (B := 30) (by omega) (by omega) (by omega) (by omega)
                have c_229 : ∀ (a : Int), (i < n / 2) → (0 ≤ a ∧ a ≤ n - 1 ∧ (i = 0 → a = n - 1)) → J_ zX11_plan T (po_X11_plan_k T c f) 0 0 229 [some (vR 111 0), some (vI c), some (vI f), some (vI n), some (vI lg), some (vI ev), some (vI leg), some (vI r), some (vI (leg * (n - 1) + r)), some (vI (f + (leg * (n - 1) + r) * ev)), some (vI i), none, none, none, none] [vI a] T1 := by
                  intro a a0 a1
                  have c_254 : ∀ (b : Int), (0 ≤ b ∧ b ≤ n - 1) → J_ zX11_plan T (po_X11_plan_k T c f) 0 0 254 [some (vR 111 0), some (vI c), some (vI f), some (vI n), some (vI lg), some (vI ev), some (vI leg), some (vI r), some (vI (leg * (n - 1) + r)), some (vI (f + (leg * (n - 1) + r) * ev)), some (vI i), some (vI a), none, none, none] [vI b] T1 := by
                    intro b b1
                    have c_290 : ∀ (v : Int), (0 ≤ v ∧ v ≤ 1) → J_ zX11_plan T (po_X11_plan_k T c f) 0 0 290 [some (vR 111 0), some (vI c), some (vI f), some (vI n), some (vI lg), some (vI ev), some (vI leg), some (vI r), some (vI (leg * (n - 1) + r)), some (vI (f + (leg * (n - 1) + r) * ev)), some (vI i), some (vI a), some (vI b), none, none] [vI v] T1 := by
                      intro v v1
                      have c_305 : ∀ (w : Int), (0 ≤ w ∧ w ≤ 1) → J_ zX11_plan T (po_X11_plan_k T c f) 0 0 305 [some (vR 111 0), some (vI c), some (vI f), some (vI n), some (vI lg), some (vI ev), some (vI leg), some (vI r), some (vI (leg * (n - 1) + r)), some (vI (f + (leg * (n - 1) + r) * ev)), some (vI i), some (vI a), some (vI b), some (vI v), none] [vI w] T1 := by
                        intro w w1
                        refine j_blx (F := fX11) tb_X11 (nn_ _) bk_X11_plan_305 bs_X11_plan_305 hz (fun K hK => ?_)
                        refine And.intro (fun c1 => ?_) (fun c1 => ?_)
                        · refine hK 323 [some (vR 111 0), some (vI c), some (vI f), some (vI n), some (vI lg), some (vI ev), some (vI leg), some (vI r), some (vI (leg * (n - 1) + r)), some (vI (f + (leg * (n - 1) + r) * ev)), some (vI i), some (vI a), some (vI b), some (vI v), some (vI w)] [vI (leg * (n - 1) + r), vI c, vR 111 0] T1 ?_
                          refine j_blx (F := fX11) tb_X11 (nn_ _) bk_X11_plan_323 bs_X11_plan_323 hz (fun K hK => ?_)
                          refine And.intro (fun c2 => ?_) (fun c2 => ?_)
                          · refine hK 337 _ [vI b, vI (leg * (n - 1) + r), vI c, vR 111 0] T1 ?_
                            refine j_blx (F := fX11) tb_X11 (nn_ _) bk_X11_plan_337 bs_X11_plan_337 hz (fun K hK => ?_)
                            refine hK 341 _ [vI (f + (leg * (n - 1) + r) * ev), vI a, vI b, vI (leg * (n - 1) + r), vI c, vR 111 0] T1 ?_
                            have e3 : T1 208 0 c = T 208 0 c := hf_201 208 0 c rfl
                            refine j_callV (y := yX11_addMatch) (Yc := zX11_addMatch) (rest := []) [vI c, vI (leg * (n - 1) + r), vI b, vI a, vI (f + (leg * (n - 1) + r) * ev)] (ct_X11_addMatch (T := T1) (by omega) (by omega) (by omega) (by (intro y1 y2; omega))) cl_X11_346 (qd_c (by decide +kernel)) (nn_ _) rfl (rf_of rfl) (Nat.le_of_ble_eq_true rfl) (Nat.le_of_ble_eq_true rfl) (Nat.le_of_ble_eq_true rfl) rfl ?_
                            rintro U4 _ ⟨rfl, fU4, qU4⟩
                            show J_ zX11_plan T (po_X11_plan_k T c f) 0 0 344 _ [] U4
                            refine j_blx (F := fX11) tb_X11 (nn_ _) bk_X11_plan_344 bs_X11_plan_344 hz (fun K hK => ?_)
                            refine rg_i (by omega) ?_
                            refine hK 201 [some (vR 111 0), some (vI c), some (vI f), some (vI n), some (vI lg), some (vI ev), some (vI leg), some (vI r), some (vI (leg * (n - 1) + r)), some (vI (f + (leg * (n - 1) + r) * ev)), some (vI (i + 1)), some (vI a), some (vI b), some (vI v), some (vI w)] [] U4 ?_
                            refine j_drop [some (vR 111 0), some (vI c), some (vI f), some (vI n), some (vI lg), some (vI ev), some (vI leg), some (vI r), some (vI (leg * (n - 1) + r)), some (vI (f + (leg * (n - 1) + r) * ev)), some (vI (i + 1)), none, none, none, none] (fun k v hk => ?_) rfl ?_
                            · match k, hk with
                              | 0, hk => exact hk
                              | 1, hk => exact hk
                              | 2, hk => exact hk
                              | 3, hk => exact hk
                              | 4, hk => exact hk
                              | 5, hk => exact hk
                              | 6, hk => exact hk
                              | 7, hk => exact hk
                              | 8, hk => exact hk
                              | 9, hk => exact hk
                              | 10, hk => exact hk
                              | 11, hk => cases hk
                              | 12, hk => cases hk
                              | 13, hk => cases hk
                              | 14, hk => cases hk
                              | k + 15, hk => cases hk
                            have e5 : U4 210 0 c = T1 210 0 c := fU4 210 0 c rfl
                            have e6 : U4 208 0 c = T 208 0 c := (fU4 208 0 c rfl).trans (hf_201 208 0 c rfl)
                            refine ih_201 _ ?_ (i + 1) U4 (Nat.le_refl _) ?_ ?_ ?_ ?_ ?_ ?_ ?_
                            · omega
                            · exact fr_t (fr_t (fr_0 _ _) (fr_s hf_201 rfl)) (fr_s fU4 rfl)
                            · omega
                            · omega
                            · omega
                            · omega
                            · exact fun z hz => ⟨(fU4 210 0 z rfl).trans (rs z hz).1, (fU4 209 0 z rfl).trans (rs z hz).2⟩
                            · rcases qU4 with ⟨-, -, z⟩ | ⟨-, -, -, z⟩
                              · rw [← z]; exact am
                              · exact am2_s am z
                          · refine hK 339 [some (vR 111 0), some (vI c), some (vI f), some (vI n), some (vI lg), some (vI ev), some (vI leg), some (vI r), some (vI (leg * (n - 1) + r)), some (vI (f + (leg * (n - 1) + r) * ev)), some (vI i), some (vI a), some (vI b), some (vI v), some (vI w)] [vI b, vI b, vI (leg * (n - 1) + r), vI c, vR 111 0] T1 ?_
                            refine j_blx (F := fX11) tb_X11 (nn_ _) bk_X11_plan_339 bs_X11_plan_339 hz (fun K hK => ?_)
                            refine hK 341 _ [vI (f + (leg * (n - 1) + r) * ev), vI b, vI b, vI (leg * (n - 1) + r), vI c, vR 111 0] T1 ?_
                            have e7 : T1 208 0 c = T 208 0 c := hf_201 208 0 c rfl
                            refine j_callV (y := yX11_addMatch) (Yc := zX11_addMatch) (rest := []) [vI c, vI (leg * (n - 1) + r), vI b, vI b, vI (f + (leg * (n - 1) + r) * ev)] (ct_X11_addMatch (T := T1) (by omega) (by omega) (by omega) (by (intro y1 y2; omega))) cl_X11_346 (qd_c (by decide +kernel)) (nn_ _) rfl (rf_of rfl) (Nat.le_of_ble_eq_true rfl) (Nat.le_of_ble_eq_true rfl) (Nat.le_of_ble_eq_true rfl) rfl ?_
                            rintro U8 _ ⟨rfl, fU8, qU8⟩
                            show J_ zX11_plan T (po_X11_plan_k T c f) 0 0 344 _ [] U8
                            refine j_blx (F := fX11) tb_X11 (nn_ _) bk_X11_plan_344 bs_X11_plan_344 hz (fun K hK => ?_)
                            refine rg_i (by omega) ?_
                            refine hK 201 [some (vR 111 0), some (vI c), some (vI f), some (vI n), some (vI lg), some (vI ev), some (vI leg), some (vI r), some (vI (leg * (n - 1) + r)), some (vI (f + (leg * (n - 1) + r) * ev)), some (vI (i + 1)), some (vI a), some (vI b), some (vI v), some (vI w)] [] U8 ?_
                            refine j_drop [some (vR 111 0), some (vI c), some (vI f), some (vI n), some (vI lg), some (vI ev), some (vI leg), some (vI r), some (vI (leg * (n - 1) + r)), some (vI (f + (leg * (n - 1) + r) * ev)), some (vI (i + 1)), none, none, none, none] (fun k v hk => ?_) rfl ?_
                            · match k, hk with
                              | 0, hk => exact hk
                              | 1, hk => exact hk
                              | 2, hk => exact hk
                              | 3, hk => exact hk
                              | 4, hk => exact hk
                              | 5, hk => exact hk
                              | 6, hk => exact hk
                              | 7, hk => exact hk
                              | 8, hk => exact hk
                              | 9, hk => exact hk
                              | 10, hk => exact hk
                              | 11, hk => cases hk
                              | 12, hk => cases hk
                              | 13, hk => cases hk
                              | 14, hk => cases hk
                              | k + 15, hk => cases hk
                            have e9 : U8 210 0 c = T1 210 0 c := fU8 210 0 c rfl
                            have e10 : U8 208 0 c = T 208 0 c := (fU8 208 0 c rfl).trans (hf_201 208 0 c rfl)
                            refine ih_201 _ ?_ (i + 1) U8 (Nat.le_refl _) ?_ ?_ ?_ ?_ ?_ ?_ ?_
                            · omega
                            · exact fr_t (fr_t (fr_0 _ _) (fr_s hf_201 rfl)) (fr_s fU8 rfl)
                            · omega
                            · omega
                            · omega
                            · omega
                            · exact fun z hz => ⟨(fU8 210 0 z rfl).trans (rs z hz).1, (fU8 209 0 z rfl).trans (rs z hz).2⟩
                            · rcases qU8 with ⟨-, -, z⟩ | ⟨-, -, -, z⟩
                              · rw [← z]; exact am
                              · exact am2_s am z
                        · refine hK 325 _ [vI a, vI (leg * (n - 1) + r), vI c, vR 111 0] T1 ?_
                          refine j_blx (F := fX11) tb_X11 (nn_ _) bk_X11_plan_325 bs_X11_plan_325 hz (fun K hK => ?_)
                          refine And.intro (fun c11 => ?_) (fun c11 => ?_)
                          · refine hK 337 _ [vI a, vI (leg * (n - 1) + r), vI c, vR 111 0] T1 ?_
                            refine j_blx (F := fX11) tb_X11 (nn_ _) bk_X11_plan_337 bs_X11_plan_337 hz (fun K hK => ?_)
                            refine hK 341 _ [vI (f + (leg * (n - 1) + r) * ev), vI a, vI a, vI (leg * (n - 1) + r), vI c, vR 111 0] T1 ?_
                            have e12 : T1 208 0 c = T 208 0 c := hf_201 208 0 c rfl
                            refine j_callV (y := yX11_addMatch) (Yc := zX11_addMatch) (rest := []) [vI c, vI (leg * (n - 1) + r), vI a, vI a, vI (f + (leg * (n - 1) + r) * ev)] (ct_X11_addMatch (T := T1) (by omega) (by omega) (by omega) (by (intro y1 y2; omega))) cl_X11_346 (qd_c (by decide +kernel)) (nn_ _) rfl (rf_of rfl) (Nat.le_of_ble_eq_true rfl) (Nat.le_of_ble_eq_true rfl) (Nat.le_of_ble_eq_true rfl) rfl ?_
                            rintro U13 _ ⟨rfl, fU13, qU13⟩
                            show J_ zX11_plan T (po_X11_plan_k T c f) 0 0 344 _ [] U13
                            refine j_blx (F := fX11) tb_X11 (nn_ _) bk_X11_plan_344 bs_X11_plan_344 hz (fun K hK => ?_)
                            refine rg_i (by omega) ?_
                            refine hK 201 [some (vR 111 0), some (vI c), some (vI f), some (vI n), some (vI lg), some (vI ev), some (vI leg), some (vI r), some (vI (leg * (n - 1) + r)), some (vI (f + (leg * (n - 1) + r) * ev)), some (vI (i + 1)), some (vI a), some (vI b), some (vI v), some (vI w)] [] U13 ?_
                            refine j_drop [some (vR 111 0), some (vI c), some (vI f), some (vI n), some (vI lg), some (vI ev), some (vI leg), some (vI r), some (vI (leg * (n - 1) + r)), some (vI (f + (leg * (n - 1) + r) * ev)), some (vI (i + 1)), none, none, none, none] (fun k v hk => ?_) rfl ?_
                            · match k, hk with
                              | 0, hk => exact hk
                              | 1, hk => exact hk
                              | 2, hk => exact hk
                              | 3, hk => exact hk
                              | 4, hk => exact hk
                              | 5, hk => exact hk
                              | 6, hk => exact hk
                              | 7, hk => exact hk
                              | 8, hk => exact hk
                              | 9, hk => exact hk
                              | 10, hk => exact hk
                              | 11, hk => cases hk
                              | 12, hk => cases hk
                              | 13, hk => cases hk
                              | 14, hk => cases hk
                              | k + 15, hk => cases hk
                            have e14 : U13 210 0 c = T1 210 0 c := fU13 210 0 c rfl
                            have e15 : U13 208 0 c = T 208 0 c := (fU13 208 0 c rfl).trans (hf_201 208 0 c rfl)
                            refine ih_201 _ ?_ (i + 1) U13 (Nat.le_refl _) ?_ ?_ ?_ ?_ ?_ ?_ ?_
                            · omega
                            · exact fr_t (fr_t (fr_0 _ _) (fr_s hf_201 rfl)) (fr_s fU13 rfl)
                            · omega
                            · omega
                            · omega
                            · omega
                            · exact fun z hz => ⟨(fU13 210 0 z rfl).trans (rs z hz).1, (fU13 209 0 z rfl).trans (rs z hz).2⟩
                            · rcases qU13 with ⟨-, -, z⟩ | ⟨-, -, -, z⟩
                              · rw [← z]; exact am
                              · exact am2_s am z
                          · refine hK 339 [some (vR 111 0), some (vI c), some (vI f), some (vI n), some (vI lg), some (vI ev), some (vI leg), some (vI r), some (vI (leg * (n - 1) + r)), some (vI (f + (leg * (n - 1) + r) * ev)), some (vI i), some (vI a), some (vI b), some (vI v), some (vI w)] [vI b, vI a, vI (leg * (n - 1) + r), vI c, vR 111 0] T1 ?_
                            refine j_blx (F := fX11) tb_X11 (nn_ _) bk_X11_plan_339 bs_X11_plan_339 hz (fun K hK => ?_)
                            refine hK 341 _ [vI (f + (leg * (n - 1) + r) * ev), vI b, vI a, vI (leg * (n - 1) + r), vI c, vR 111 0] T1 ?_
                            have e16 : T1 208 0 c = T 208 0 c := hf_201 208 0 c rfl
                            refine j_callV (y := yX11_addMatch) (Yc := zX11_addMatch) (rest := []) [vI c, vI (leg * (n - 1) + r), vI a, vI b, vI (f + (leg * (n - 1) + r) * ev)] (ct_X11_addMatch (T := T1) (by omega) (by omega) (by omega) (by (intro y1 y2; omega))) cl_X11_346 (qd_c (by decide +kernel)) (nn_ _) rfl (rf_of rfl) (Nat.le_of_ble_eq_true rfl) (Nat.le_of_ble_eq_true rfl) (Nat.le_of_ble_eq_true rfl) rfl ?_
                            rintro U17 _ ⟨rfl, fU17, qU17⟩
                            show J_ zX11_plan T (po_X11_plan_k T c f) 0 0 344 _ [] U17
                            refine j_blx (F := fX11) tb_X11 (nn_ _) bk_X11_plan_344 bs_X11_plan_344 hz (fun K hK => ?_)
                            refine rg_i (by omega) ?_
                            refine hK 201 [some (vR 111 0), some (vI c), some (vI f), some (vI n), some (vI lg), some (vI ev), some (vI leg), some (vI r), some (vI (leg * (n - 1) + r)), some (vI (f + (leg * (n - 1) + r) * ev)), some (vI (i + 1)), some (vI a), some (vI b), some (vI v), some (vI w)] [] U17 ?_
                            refine j_drop [some (vR 111 0), some (vI c), some (vI f), some (vI n), some (vI lg), some (vI ev), some (vI leg), some (vI r), some (vI (leg * (n - 1) + r)), some (vI (f + (leg * (n - 1) + r) * ev)), some (vI (i + 1)), none, none, none, none] (fun k v hk => ?_) rfl ?_
                            · match k, hk with
                              | 0, hk => exact hk
                              | 1, hk => exact hk
                              | 2, hk => exact hk
                              | 3, hk => exact hk
                              | 4, hk => exact hk
                              | 5, hk => exact hk
                              | 6, hk => exact hk
                              | 7, hk => exact hk
                              | 8, hk => exact hk
                              | 9, hk => exact hk
                              | 10, hk => exact hk
                              | 11, hk => cases hk
                              | 12, hk => cases hk
                              | 13, hk => cases hk
                              | 14, hk => cases hk
                              | k + 15, hk => cases hk
                            have e18 : U17 210 0 c = T1 210 0 c := fU17 210 0 c rfl
                            have e19 : U17 208 0 c = T 208 0 c := (fU17 208 0 c rfl).trans (hf_201 208 0 c rfl)
                            refine ih_201 _ ?_ (i + 1) U17 (Nat.le_refl _) ?_ ?_ ?_ ?_ ?_ ?_ ?_
                            · omega
                            · exact fr_t (fr_t (fr_0 _ _) (fr_s hf_201 rfl)) (fr_s fU17 rfl)
                            · omega
                            · omega
                            · omega
                            · omega
                            · exact fun z hz => ⟨(fU17 210 0 z rfl).trans (rs z hz).1, (fU17 209 0 z rfl).trans (rs z hz).2⟩
                            · rcases qU17 with ⟨-, -, z⟩ | ⟨-, -, -, z⟩
                              · rw [← z]; exact am
                              · exact am2_s am z
                      refine j_blx (F := fX11) tb_X11 (nn_ _) bk_X11_plan_290 bs_X11_plan_290 hz (fun K hK => ?_)
                      refine dv_i (by omega) ?_
                      refine And.intro (fun c20 => ?_) (fun c20 => ?_)
                      · refine hK 304 [some (vR 111 0), some (vI c), some (vI f), some (vI n), some (vI lg), some (vI ev), some (vI leg), some (vI r), some (vI (leg * (n - 1) + r)), some (vI (f + (leg * (n - 1) + r) * ev)), some (vI i), some (vI a), some (vI b), some (vI v), none] [] T1 ?_
                        refine j_blx (F := fX11) tb_X11 (nn_ _) bk_X11_plan_304 bs_X11_plan_304 hz (fun K hK => ?_)
                        refine hK 305 _ [vI 0] T1 ?_
                        refine c_305 0 ?_
                        · omega
                      · refine hK 305 _ [vI 1] T1 ?_
                        refine c_305 1 ?_
                        · omega
                    refine j_blx (F := fX11) tb_X11 (nn_ _) bk_X11_plan_254 bs_X11_plan_254 hz (fun K hK => ?_)
                    refine And.intro (fun c21 => ?_) (fun c21 => ?_)
                    · refine hK 277 [some (vR 111 0), some (vI c), some (vI f), some (vI n), some (vI lg), some (vI ev), some (vI leg), some (vI r), some (vI (leg * (n - 1) + r)), some (vI (f + (leg * (n - 1) + r) * ev)), some (vI i), some (vI a), some (vI b), none, none] [] T1 ?_
                      refine j_blx (F := fX11) tb_X11 (nn_ _) bk_X11_plan_277 bs_X11_plan_277 hz (fun K hK => ?_)
                      refine dv_i (by omega) ?_
                      refine And.intro (fun c22 => ?_) (fun c22 => ?_)
                      · refine hK 289 _ [] T1 ?_
                        refine j_blx (F := fX11) tb_X11 (nn_ _) bk_X11_plan_289 bs_X11_plan_289 hz (fun K hK => ?_)
                        refine hK 290 _ [vI 0] T1 ?_
                        refine c_290 0 ?_
                        · omega
                      · refine hK 290 _ [vI 1] T1 ?_
                        refine c_290 1 ?_
                        · omega
                    · refine dv_i (by omega) ?_
                      refine And.intro (fun c23 => ?_) (fun c23 => ?_)
                      · refine hK 273 _ [] T1 ?_
                        refine j_blx (F := fX11) tb_X11 (nn_ _) bk_X11_plan_273 bs_X11_plan_273 hz (fun K hK => ?_)
                        refine hK 290 _ [vI 0] T1 ?_
                        refine c_290 0 ?_
                        · omega
                      · refine hK 290 _ [vI 1] T1 ?_
                        refine c_290 1 ?_
                        · omega
                  refine j_blx (F := fX11) tb_X11 (nn_ _) bk_X11_plan_229 bs_X11_plan_229 hz (fun K hK => ?_)
                  refine And.intro (fun c24 => ?_) (fun c24 => ?_)
                  · refine hK 241 [some (vR 111 0), some (vI c), some (vI f), some (vI n), some (vI lg), some (vI ev), some (vI leg), some (vI r), some (vI (leg * (n - 1) + r)), some (vI (f + (leg * (n - 1) + r) * ev)), some (vI i), some (vI a), none, none, none] [] T1 ?_
                    refine j_blx (F := fX11) tb_X11 (nn_ _) bk_X11_plan_241 bs_X11_plan_241 hz (fun K hK => ?_)
                    refine rg_i (by omega) ?_
                    refine rg_i (by omega) ?_
                    refine rg_i (by omega) ?_
                    refine rg_i (by omega) ?_
                    refine dv_i (by omega) ?_
                    refine hK 254 _ [vI ((((r - i) + n) - 1) % (n - 1))] T1 ?_
                    refine c_254 ((((r - i) + n) - 1) % (n - 1)) ?_
                    · (have y := rm_r (x := ((r - i) + n) - 1) (y := n - 1) (by omega) (by omega)); omega
                  · refine hK 254 _ [vI r] T1 ?_
                    refine c_254 r ?_
                    · omega
                refine j_blx (F := fX11) tb_X11 (nn_ _) bk_X11_plan_201 bs_X11_plan_201 hz (fun K hK => ?_)
                refine dv_i (by omega) ?_
                refine And.intro (fun c25 => ?_) (fun c25 => ?_)
                · refine hK 350 _ [] T1 ?_
                  refine j_blx (F := fX11) tb_X11 (nn_ _) bk_X11_plan_350 bs_X11_plan_350 hz (fun K hK => ?_)
                  refine rg_i (by omega) ?_
                  refine hK 170 [some (vR 111 0), some (vI c), some (vI f), some (vI n), some (vI lg), some (vI ev), some (vI leg), some (vI (r + 1)), some (vI (leg * (n - 1) + r)), some (vI (f + (leg * (n - 1) + r) * ev)), some (vI i), none, none, none, none] [] T1 ?_
                  refine j_drop [some (vR 111 0), some (vI c), some (vI f), some (vI n), some (vI lg), some (vI ev), some (vI leg), some (vI (r + 1)), none, none, none, none, none, none, none] (fun k v hk => ?_) rfl ?_
                  · match k, hk with
                    | 0, hk => exact hk
                    | 1, hk => exact hk
                    | 2, hk => exact hk
                    | 3, hk => exact hk
                    | 4, hk => exact hk
                    | 5, hk => exact hk
                    | 6, hk => exact hk
                    | 7, hk => exact hk
                    | 8, hk => cases hk
                    | 9, hk => cases hk
                    | 10, hk => cases hk
                    | 11, hk => cases hk
                    | 12, hk => cases hk
                    | 13, hk => cases hk
                    | 14, hk => cases hk
                    | k + 15, hk => cases hk
                  have e26 : T1 208 0 c = T 208 0 c := hf_201 208 0 c rfl
                  refine ih_170 _ ?_ (r + 1) T1 (Nat.le_refl _) ?_ ?_ ?_ ?_ ?_ ?_ ?_
                  · omega
                  · exact fr_t (fr_0 _ _) (fr_s hf_201 rfl)
                  · omega
                  · omega
                  · omega
                  · omega
                  · exact rs
                  · exact am
                · refine And.intro (fun c27 => ?_) (fun c27 => ?_)
                  · refine hK 220 [some (vR 111 0), some (vI c), some (vI f), some (vI n), some (vI lg), some (vI ev), some (vI leg), some (vI r), some (vI (leg * (n - 1) + r)), some (vI (f + (leg * (n - 1) + r) * ev)), some (vI i), none, none, none, none] [] T1 ?_
                    refine j_blx (F := fX11) tb_X11 (nn_ _) bk_X11_plan_220 bs_X11_plan_220 hz (fun K hK => ?_)
                    refine rg_i (by omega) ?_
                    refine rg_i (by omega) ?_
                    refine dv_i (by omega) ?_
                    refine hK 229 _ [vI ((r + i) % (n - 1))] T1 ?_
                    refine c_229 ((r + i) % (n - 1)) ?_ ?_
                    · omega
                    · (have y := rm_r (x := r + i) (y := n - 1) (by omega) (by omega)); omega
                  · refine rg_i (by omega) ?_
                    refine hK 229 _ [vI (n - 1)] T1 ?_
                    refine c_229 (n - 1) ?_ ?_
                    · omega
                    · omega
            refine j_blx (F := fX11) tb_X11 (nn_ _) bk_X11_plan_170 bs_X11_plan_170 hz (fun K hK => ?_)
            refine rg_i (by omega) ?_
            refine And.intro (fun c28 => ?_) (fun c28 => ?_)
            · refine hK 356 _ [] T1 ?_
              refine j_blx (F := fX11) tb_X11 (nn_ _) bk_X11_plan_356 bs_X11_plan_356 hz (fun K hK => ?_)
              refine rg_i (by omega) ?_
              refine hK 160 [some (vR 111 0), some (vI c), some (vI f), some (vI n), some (vI lg), some (vI ev), some (vI (leg + 1)), some (vI r), none, none, none, none, none, none, none] [] T1 ?_
              refine j_drop [some (vR 111 0), some (vI c), some (vI f), some (vI n), some (vI lg), some (vI ev), some (vI (leg + 1)), none, none, none, none, none, none, none, none] (fun k v hk => ?_) rfl ?_
              · match k, hk with
                | 0, hk => exact hk
                | 1, hk => exact hk
                | 2, hk => exact hk
                | 3, hk => exact hk
                | 4, hk => exact hk
                | 5, hk => exact hk
                | 6, hk => exact hk
                | 7, hk => cases hk
                | 8, hk => cases hk
                | 9, hk => cases hk
                | 10, hk => cases hk
                | 11, hk => cases hk
                | 12, hk => cases hk
                | 13, hk => cases hk
                | 14, hk => cases hk
                | k + 15, hk => cases hk
              have e29 : T1 208 0 c = T 208 0 c := hf_170 208 0 c rfl
              refine ih_160 _ ?_ (leg + 1) T1 (Nat.le_refl _) ?_ ?_ ?_ ?_ ?_ ?_
              · omega
              · exact fr_t (fr_0 _ _) (fr_s hf_170 rfl)
              · omega
              · (have z : r = n - 1 := by omega); subst z; rw [hm2]; exact r2
              · omega
              · exact rs
              · exact am
            · refine rg_i (by omega) ?_
              refine rg_i (by omega) ?_
              refine rg_i (by omega) ?_
              refine rg_i (by (have z := mb_ (a := (leg * (n - 1) + r)) (b := ev) (A := 44) (B := 30) (by omega) (by omega) (by omega) (by omega)); omega) ?_
              refine rg_i (by (have z := mb_ (a := (leg * (n - 1) + r)) (b := ev) (A := 44) (B := 30) (by omega) (by omega) (by omega) (by omega)); omega) ?_
              refine hK 201 [some (vR 111 0), some (vI c), some (vI f), some (vI n), some (vI lg), some (vI ev), some (vI leg), some (vI r), some (vI ((leg * (n - 1)) + r)), some (vI (f + (((leg * (n - 1)) + r) * ev))), some (vI 0), none, none, none, none] [] T1 ?_
              have e30 : T1 208 0 c = T 208 0 c := hf_170 208 0 c rfl
              refine c_201 _ 0 T1 (Nat.le_refl _) ?_ ?_ ?_ ?_ ?_ ?_ ?_
              · exact fr_t (fr_0 _ _) (fr_s hf_170 rfl)
              · omega
              · omega
              · omega
              · omega
              · exact rs
              · exact am
        refine j_blx (F := fX11) tb_X11 (nn_ _) bk_X11_plan_160 bs_X11_plan_160 hz (fun K hK => ?_)
        refine And.intro (fun c31 => ?_) (fun c31 => ?_)
        · have zl2 : leg * (n - 1) * (n / 2 - T 208 0 c % 2) = lg * (n - 1) * (n / 2 - T 208 0 c % 2) := by rw [(by omega : leg = lg)]
          refine hK 362 _ [] T1 ?_
          refine j_blx (F := fX11) tb_X11 (nn_ _) bk_X11_plan_362 bs_X11_plan_362 hz (fun K hK => ?_)
          intro b32 b32b
          refine ix_i (by omega) ?_
          intro b33 b33b
          refine rg_i (by omega) ?_
          refine iy_i (by omega) (by omega) ?_
          refine x_nm (fun U34 hU34 => ?_)
          have e35 := up_f hU34
          refine ix_i (by omega) ?_
          intro b36 b36b
          have e37 : U34 210 0 c = T1 210 0 c := up_k hU34 (by exact Nat.ne_of_beq_eq_false rfl) 0 c
          rw [e37] at b36 b36b ⊢
          refine (show po_X11_plan_k T c f U34 (some (vI (T1 210 0 c))) from ?_)
          have e38 : U34 111 0 29 = T1 111 0 29 := up_k hU34 (by exact Nat.ne_of_beq_eq_false rfl) 0 29
          have e39 : U34 210 0 c = T1 210 0 c := up_k hU34 (by exact Nat.ne_of_beq_eq_false rfl) 0 c
          have e40 : U34 211 0 c = (T1 111 0 29) - (T1 210 0 c) := up_f hU34
          have am1 := am.1
          refine ⟨_, rfl, fr_u (fr_t (fr_0 _ _) (fr_s hf_160 rfl)) hU34 rfl, Or.inr ⟨by omega, by omega, ?_, by omega, by omega, by omega, fun z hz => ⟨?_, ?_, ?_⟩⟩⟩
          · have ek : ∀ k j, k ≠ 211 → U34 k 0 j = T1 k 0 j := fun k j hk => up_k hU34 hk 0 j
            exact ⟨by omega, fun j a => ⟨(ek 230 j (by decide)).trans (am.2.1 j a).1, (ek 231 j (by decide)).trans (am.2.1 j a).2.1, (ek 232 j (by decide)).trans (am.2.1 j a).2.2.1, (ek 233 j (by decide)).trans (am.2.1 j a).2.2.2.1, (ek 234 j (by decide)).trans (am.2.1 j a).2.2.2.2.1, (ek 235 j (by decide)).trans (am.2.1 j a).2.2.2.2.2.1, (ek 238 j (by decide)).trans (am.2.1 j a).2.2.2.2.2.2.1, (ek 253 j (by decide)).trans (am.2.1 j a).2.2.2.2.2.2.2.1, (ek 255 j (by decide)).trans (am.2.1 j a).2.2.2.2.2.2.2.2⟩, fun j a b => by rw [ek 230 j (by decide), ek 235 j (by decide), ek 253 j (by decide), ek 255 j (by decide)]; exact am.2.2.1 j a (by omega), fun j a => (ek 235 j (by decide)).trans (am.2.2.2 j (by omega))⟩
          · exact (up_k hU34 (by exact Nat.ne_of_beq_eq_false rfl) 0 z).trans (rs z hz).1
          · exact (up_g hU34 (fun q => hz q.2.2)).trans (hf_160 211 0 z rfl)
          · exact (up_k hU34 (by exact Nat.ne_of_beq_eq_false rfl) 0 z).trans (rs z hz).2
        · refine hK 170 [some (vR 111 0), some (vI c), some (vI f), some (vI n), some (vI lg), some (vI ev), some (vI leg), some (vI 0), none, none, none, none, none, none, none] [] T1 ?_
          have e41 : T1 208 0 c = T 208 0 c := hf_160 208 0 c rfl
          refine c_170 _ 0 T1 (Nat.le_refl _) ?_ ?_ ?_ ?_ ?_ ?_ ?_
          · exact fr_t (fr_0 _ _) (fr_s hf_160 rfl)
          · omega
          · omega
          · rw [Int.add_zero]; exact l2
          · omega
          · exact rs
          · exact am
    refine j_blx (F := fX11) tb_X11 (nn_ _) bk_X11_plan_140 bs_X11_plan_140 hz (fun K hK => ?_)
    refine iy_i (by omega) (by omega) ?_
    refine x_nm (fun U42 hU42 => ?_)
    have e43 := up_f hU42
    intro b44 b44b
    have e45 : U42 111 0 29 = T 111 0 29 := up_k hU42 (by exact Nat.ne_of_beq_eq_false rfl) 0 29
    rw [e45] at b44 b44b ⊢
    refine iy_i (by omega) (by omega) ?_
    refine x_nm (fun U46 hU46 => ?_)
    have e47 := up_f hU46
    refine hK 160 [some (vR 111 0), some (vI c), some (vI f), some (vI n), some (vI lg), some (vI ev), some (vI 0), none, none, none, none, none, none, none, none] [] U46 ?_
    have e48 : U46 111 0 29 = T 111 0 29 := (up_k hU46 (by exact Nat.ne_of_beq_eq_false rfl) 0 29).trans (up_k hU42 (by exact Nat.ne_of_beq_eq_false rfl) 0 29)
    have e49 : U46 210 0 c = T 111 0 29 := up_f hU46
    have e50 : U46 208 0 c = T 208 0 c := (up_k hU46 (by exact Nat.ne_of_beq_eq_false rfl) 0 c).trans (up_k hU42 (by exact Nat.ne_of_beq_eq_false rfl) 0 c)
    refine c_160 _ 0 U46 (Nat.le_refl _) ?_ ?_ ?_ ?_ ?_ ?_
    · exact fr_u (fr_u (fr_0 _ _) hU42 rfl) hU46 rfl
    · omega
    · rw [Int.zero_mul, Int.zero_mul]; omega
    · omega
    · exact fun z hz => ⟨(up_g hU46 (fun q => hz q.2.2)).trans (up_k hU42 (by exact Nat.ne_of_beq_eq_false rfl) 0 z), (up_k hU46 (by exact Nat.ne_of_beq_eq_false rfl) 0 z).trans (up_g hU42 (fun q => hz q.2.2))⟩
    · exact ⟨by omega, fun j a => ⟨(up_k hU46 (by exact Nat.ne_of_beq_eq_false rfl) 0 j).trans (up_k hU42 (by exact Nat.ne_of_beq_eq_false rfl) 0 j), (up_k hU46 (by exact Nat.ne_of_beq_eq_false rfl) 0 j).trans (up_k hU42 (by exact Nat.ne_of_beq_eq_false rfl) 0 j), (up_k hU46 (by exact Nat.ne_of_beq_eq_false rfl) 0 j).trans (up_k hU42 (by exact Nat.ne_of_beq_eq_false rfl) 0 j), (up_k hU46 (by exact Nat.ne_of_beq_eq_false rfl) 0 j).trans (up_k hU42 (by exact Nat.ne_of_beq_eq_false rfl) 0 j), (up_k hU46 (by exact Nat.ne_of_beq_eq_false rfl) 0 j).trans (up_k hU42 (by exact Nat.ne_of_beq_eq_false rfl) 0 j), (up_k hU46 (by exact Nat.ne_of_beq_eq_false rfl) 0 j).trans (up_k hU42 (by exact Nat.ne_of_beq_eq_false rfl) 0 j), (up_k hU46 (by exact Nat.ne_of_beq_eq_false rfl) 0 j).trans (up_k hU42 (by exact Nat.ne_of_beq_eq_false rfl) 0 j), (up_k hU46 (by exact Nat.ne_of_beq_eq_false rfl) 0 j).trans (up_k hU42 (by exact Nat.ne_of_beq_eq_false rfl) 0 j), (up_k hU46 (by exact Nat.ne_of_beq_eq_false rfl) 0 j).trans (up_k hU42 (by exact Nat.ne_of_beq_eq_false rfl) 0 j)⟩, fun j a b => by omega, fun j _ => (up_k hU46 (by exact Nat.ne_of_beq_eq_false rfl) 0 j).trans (up_k hU42 (by exact Nat.ne_of_beq_eq_false rfl) 0 j)⟩
  refine j_blx (F := fX11) tb_X11 (nn_ _) bk_X11_plan_0 bs_X11_plan_0 hz (fun K hK => ?_)
  intro b51 b51b
  refine hK 5 _ [vI (T 111 0 6), vI c] T ?_
  refine j_callS (y := yX11_isOf) (Yc := zX11_isOf) (rest := []) [vI c, vI (T 111 0 6)] (ct_X11_isOf (T := T) (by omega)) cl_X11_317 (qd_c (by decide +kernel)) (nn_ _) rfl (rf_of rfl) (Nat.le_of_ble_eq_true rfl) (Nat.le_of_ble_eq_true rfl) (Nat.le_of_ble_eq_true rfl) rfl ?_
  rintro _ _ ⟨rfl, x52, rfl, hx52⟩
  show J_ zX11_plan T (po_X11_plan_k T c f) 0 0 8 _ [vI x52] T
  refine j_blx (F := fX11) tb_X11 (nn_ _) bk_X11_plan_8 bs_X11_plan_8 hz (fun K hK => ?_)
  refine And.intro (fun c53 => ?_) (fun c53 => ?_)
  · refine hK 14 _ [] T ?_
    refine j_blx (F := fX11) tb_X11 (nn_ _) bk_X11_plan_14 bs_X11_plan_14 hz (fun K hK => ?_)
    intro b54 b54b
    refine hK 22 _ [vI 999, vI (T 111 0 3), vI f] T ?_
    refine j_callS (y := yX11_in) (Yc := zX11_in) (rest := []) [vI f, vI (T 111 0 3), vI 999] (ct_X11_in (T := T)) cl_X11_255 (qd_c (by decide +kernel)) (nn_ _) rfl (rf_of rfl) (Nat.le_of_ble_eq_true rfl) (Nat.le_of_ble_eq_true rfl) (Nat.le_of_ble_eq_true rfl) rfl ?_
    rintro _ _ ⟨rfl, x55, rfl, hx55⟩
    show J_ zX11_plan T (po_X11_plan_k T c f) 0 0 25 _ [vI x55] T
    refine j_blx (F := fX11) tb_X11 (nn_ _) bk_X11_plan_25 bs_X11_plan_25 hz (fun K hK => ?_)
    refine And.intro (fun c56 => ?_) (fun c56 => ?_)
    · refine hK 31 _ [] T ?_
      refine j_blx (F := fX11) tb_X11 (nn_ _) bk_X11_plan_31 bs_X11_plan_31 hz (fun K hK => ?_)
      refine ix_i (by omega) ?_
      intro b57 b57b
      refine ix_i (by omega) ?_
      intro b58 b58b
      refine dv_i (by omega) ?_
      refine rg_i (by omega) ?_
      refine hK 51 [some (vR 111 0), some (vI c), some (vI f), some (vI ((T 208 0 c) + ((T 208 0 c) % 2))), none, none, none, none, none, none, none, none, none, none, none] [vI 6, vI c, vR 111 0] T ?_
      refine j_callV (y := yX11_rule0) (Yc := zX11_rule0) (rest := []) [vI c, vI 6] (ct_X11_rule0 (T := T) (by omega) (by omega)) cl_X11_321 (qd_c (by decide +kernel)) (nn_ _) rfl (rf_of rfl) (Nat.le_of_ble_eq_true rfl) (Nat.le_of_ble_eq_true rfl) (Nat.le_of_ble_eq_true rfl) rfl ?_
      rintro _ _ ⟨rfl, rfl⟩
      show J_ zX11_plan T (po_X11_plan_k T c f) 0 0 54 _ [vI (T 205 0 (23 * c + 6))] T
      have hr6 : (1 : Int) ≤ T 205 0 (23 * c + 6) ∧ T 205 0 (23 * c + 6) ≤ (4 : Int) := hRI c 6 (by omega) (by omega) (by omega) (by omega)
      have hr7 : (1 : Int) ≤ T 205 0 (23 * c + 7) ∧ T 205 0 (23 * c + 7) ≤ (30 : Int) := hRI c 7 (by omega) (by omega) (by omega) (by omega)
      refine j_blx (F := fX11) tb_X11 (nn_ _) bk_X11_plan_54 bs_X11_plan_54 hz (fun K hK => ?_)
      refine hK 60 [some (vR 111 0), some (vI c), some (vI f), some (vI ((T 208 0 c) + ((T 208 0 c) % 2))), some (vI (T 205 0 (23 * c + 6))), none, none, none, none, none, none, none, none, none, none] [vI 7, vI c, vR 111 0] T ?_
      refine j_callV (y := yX11_rule0) (Yc := zX11_rule0) (rest := []) [vI c, vI 7] (ct_X11_rule0 (T := T) (by omega) (by omega)) cl_X11_321 (qd_c (by decide +kernel)) (nn_ _) rfl (rf_of rfl) (Nat.le_of_ble_eq_true rfl) (Nat.le_of_ble_eq_true rfl) (Nat.le_of_ble_eq_true rfl) rfl ?_
      rintro _ _ ⟨rfl, rfl⟩
      show J_ zX11_plan T (po_X11_plan_k T c f) 0 0 63 _ [vI (T 205 0 (23 * c + 7))] T
      refine j_blx (F := fX11) tb_X11 (nn_ _) bk_X11_plan_63 bs_X11_plan_63 hz (fun K hK => ?_)
      refine ix_i (by omega) ?_
      intro b59 b59b
      refine And.intro (fun c60 => ?_) (fun c60 => ?_)
      · refine hK 103 [some (vR 111 0), some (vI c), some (vI f), some (vI ((T 208 0 c) + ((T 208 0 c) % 2))), some (vI (T 205 0 (23 * c + 6))), some (vI (T 205 0 (23 * c + 7))), none, none, none, none, none, none, none, none, none] [] T ?_
        refine j_blx (F := fX11) tb_X11 (nn_ _) bk_X11_plan_103 bs_X11_plan_103 hz (fun K hK => ?_)
        refine (show po_X11_plan_k T c f T (some (vI (-4))) from ?_)
        exact ⟨_, rfl, fr_0 _ _, Or.inl ⟨by omega, rfl⟩⟩
      · refine ix_i (by omega) ?_
        intro b61 b61b
        refine And.intro (fun c62 => ?_) (fun c62 => ?_)
        · refine hK 103 _ [] T ?_
          refine j_blx (F := fX11) tb_X11 (nn_ _) bk_X11_plan_103 bs_X11_plan_103 hz (fun K hK => ?_)
          refine (show po_X11_plan_k T c f T (some (vI (-4))) from ?_)
          exact ⟨_, rfl, fr_0 _ _, Or.inl ⟨by omega, rfl⟩⟩
        · refine rg_i (by omega) ?_
          refine rg_i (by (have z := mb_ (a := T 205 0 (23 * c + 6)) (b := T 208 0 c + T 208 0 c % 2 - 1) (A := 4) (B := 11) (by omega) (by omega) (by omega) (by omega)); omega) ?_
          refine rg_i (by (have z := mb_ (a := T 205 0 (23 * c + 6)) (b := T 208 0 c + T 208 0 c % 2 - 1) (A := 4) (B := 11) (by omega) (by omega) (by omega) (by omega)); omega) ?_
          refine rg_i (by (have y := mb_ (a := T 205 0 (23 * c + 6)) (b := T 208 0 c + T 208 0 c % 2 - 1) (A := 4) (B := 11) (by omega) (by omega) (by omega) (by omega)); (have y1 : 1 ≤ T 205 0 (23 * c + 6) * (T 208 0 c + T 208 0 c % 2 - 1) := Int.le_trans (by omega) (Int.mul_le_mul (a := 1) (b := 1) (by omega) (by omega) (by omega) (by omega))); (have z := mb_ (a := T 205 0 (23 * c + 6) * (T 208 0 c + T 208 0 c % 2 - 1) - 1) (b := T 205 0 (23 * c + 7)) (A := 43) (B := 30) (by omega) (by omega) (by omega) (by omega)); omega) ?_
          refine rg_i (by (have y := mb_ (a := T 205 0 (23 * c + 6)) (b := T 208 0 c + T 208 0 c % 2 - 1) (A := 4) (B := 11) (by omega) (by omega) (by omega) (by omega)); (have y1 : 1 ≤ T 205 0 (23 * c + 6) * (T 208 0 c + T 208 0 c % 2 - 1) := Int.le_trans (by omega) (Int.mul_le_mul (a := 1) (b := 1) (by omega) (by omega) (by omega) (by omega))); (have z := mb_ (a := T 205 0 (23 * c + 6) * (T 208 0 c + T 208 0 c % 2 - 1) - 1) (b := T 205 0 (23 * c + 7)) (A := 43) (B := 30) (by omega) (by omega) (by omega) (by omega)); omega) ?_
          refine And.intro (fun c63 => ?_) (fun c63 => ?_)
          · refine hK 106 _ [] T ?_
            refine j_blx (F := fX11) tb_X11 (nn_ _) bk_X11_plan_106 bs_X11_plan_106 hz (fun K hK => ?_)
            intro b64 b64b
            refine ix_i (by omega) ?_
            intro b65 b65b
            refine ix_i (by omega) ?_
            intro b66 b66b
            refine rg_i (by omega) ?_
            refine rg_i (by (have z := mb_ (a := T 208 0 c) (b := T 208 0 c - 1) (A := 12) (B := 11) (by omega) (by omega) (by omega) (by omega)); omega) ?_
            refine dv_i (by (have z := mb_ (a := T 208 0 c) (b := T 208 0 c - 1) (A := 12) (B := 11) (by omega) (by omega) (by omega) (by omega)); omega) ?_
            refine rg_i (by (have y := mb_ (a := T 208 0 c) (b := T 208 0 c - 1) (A := 12) (B := 11) (by omega) (by omega) (by omega) (by omega)); (have z := mb_ (a := T 205 0 (23 * c + 6)) (b := T 208 0 c * (T 208 0 c - 1) / 2) (A := 4) (B := 66) (by omega) (by omega) (by omega) (by omega)); omega) ?_
            refine rg_i (by (have y := mb_ (a := T 208 0 c) (b := T 208 0 c - 1) (A := 12) (B := 11) (by omega) (by omega) (by omega) (by omega)); (have z := mb_ (a := T 205 0 (23 * c + 6)) (b := T 208 0 c * (T 208 0 c - 1) / 2) (A := 4) (B := 66) (by omega) (by omega) (by omega) (by omega)); omega) ?_
            refine And.intro (fun c67 => ?_) (fun c67 => ?_)
            · refine hK 140 _ [] T ?_
              refine c_140 ((T 208 0 c) + ((T 208 0 c) % 2)) (T 205 0 (23 * c + 6)) (T 205 0 (23 * c + 7)) ?_ ?_ ?_
              · omega
              · omega
              · omega
            · refine (show po_X11_plan_k T c f T (some (vI (-5))) from ?_)
              exact ⟨_, rfl, fr_0 _ _, Or.inl ⟨by omega, rfl⟩⟩
          · refine (show po_X11_plan_k T c f T (some (vI (-4))) from ?_)
            exact ⟨_, rfl, fr_0 _ _, Or.inl ⟨by omega, rfl⟩⟩
    · refine (show po_X11_plan_k T c f T (some (vI (-3))) from ?_)
      exact ⟨_, rfl, fr_0 _ _, Or.inl ⟨by omega, rfl⟩⟩
  · refine (show po_X11_plan_k T c f T (some (vI (-2))) from ?_)
    exact ⟨_, rfl, fr_0 _ _, Or.inl ⟨by omega, rfl⟩⟩
abbrev po_X11_lineUp_k (T : Zt) (p m sd : Int) : Zt → Option Zv → Prop := fun T' r => ∃ x : Int, r = some (vI x) ∧ fr_ [(239, []), (240, [])] T T' ∧ (SH_ T' ∧ ∀ z, T 239 0 z ≤ T' 239 0 z)
set_option maxHeartbeats 4000000 in
theorem ct_X11_lineUp_k {T : Zt} {p m sd : Int} (hml : ML_ T) (hmc : MC_ T) (hri : RI_ T) (hsh : SH_ T) : Ct_ yX11_lineUp zX11_lineUp T [vR 111 0, vI p, vI m, vI sd] (po_X11_lineUp_k T p m sd) := by
  refine ct_of pn_11 rfl rfl (Nat.le_of_ble_eq_true rfl) (fun hT hav => ?_)
  have hr_p : -2147483648 ≤ p ∧ p ≤ 2147483647 := hav (vI p) (by simp)
  have hr_m : -2147483648 ≤ m ∧ m ≤ 2147483647 := hav (vI m) (by simp)
  have hr_sd : -2147483648 ≤ sd ∧ sd ≤ 2147483647 := hav (vI sd) (by simp)
  have hz : zX11_lineUp.2.2.2.1 = some .boolean → ∀ (T' : Zt) (x : Int), po_X11_lineUp_k T p m sd T' (some (vI x)) → 0 ≤ x ∧ x ≤ 1 := fun h => by cases h
  have hb_29 : 0 ≤ T 111 0 29 ∧ T 111 0 29 ≤ 400 := bd_f hT 111 29 (by decide +kernel : (tf_ 111)[29]? = some (0, 0, 0, 400)) 0
  have hb_15 : 0 ≤ T 111 0 15 ∧ T 111 0 15 ≤ 200 := bd_f hT 111 15 (by decide +kernel : (tf_ 111)[15]? = some (0, 0, 0, 200)) 0
  have hb_6 : 0 ≤ T 111 0 6 ∧ T 111 0 6 ≤ 4 := bd_f hT 111 6 (by decide +kernel : (tf_ 111)[6]? = some (0, 0, 0, 4)) 0
  show J_ zX11_lineUp T (po_X11_lineUp_k T p m sd) 0 0 0 [some (vR 111 0), some (vI p), some (vI m), some (vI sd), none, none] [] T
  refine j_blx (F := fX11) tb_X11 (nn_ _) bk_X11_lineUp_0 bs_X11_lineUp_0 hz (fun K hK => ?_)
  intro b1 b1b
  refine hK 5 _ [vI (T 111 0 15), vI p] T ?_
  refine j_callS (y := yX11_isOf) (Yc := zX11_isOf) (rest := []) [vI p, vI (T 111 0 15)] (ct_X11_isOf (T := T) (by omega)) cl_X11_317 (qd_c (by decide +kernel)) (nn_ _) rfl (rf_of rfl) (Nat.le_of_ble_eq_true rfl) (Nat.le_of_ble_eq_true rfl) (Nat.le_of_ble_eq_true rfl) rfl ?_
  rintro _ _ ⟨rfl, x2, rfl, hx2⟩
  show J_ zX11_lineUp T (po_X11_lineUp_k T p m sd) 0 0 8 _ [vI x2] T
  refine j_blx (F := fX11) tb_X11 (nn_ _) bk_X11_lineUp_8 bs_X11_lineUp_8 hz (fun K hK => ?_)
  refine And.intro (fun c3 => ?_) (fun c3 => ?_)
  · refine hK 22 _ [] T ?_
    refine j_blx (F := fX11) tb_X11 (nn_ _) bk_X11_lineUp_22 bs_X11_lineUp_22 hz (fun K hK => ?_)
    refine (show po_X11_lineUp_k T p m sd T (some (vI (-2))) from ?_)
    exact ⟨_, rfl, fr_0 _ _, hsh, fun _ => Int.le_refl _⟩
  · intro b4 b4b
    refine hK 16 _ [vI (T 111 0 29), vI m] T ?_
    refine j_callS (y := yX11_isOf) (Yc := zX11_isOf) (rest := []) [vI m, vI (T 111 0 29)] (ct_X11_isOf (T := T) (by omega)) cl_X11_317 (qd_c (by decide +kernel)) (nn_ _) rfl (rf_of rfl) (Nat.le_of_ble_eq_true rfl) (Nat.le_of_ble_eq_true rfl) (Nat.le_of_ble_eq_true rfl) rfl ?_
    rintro _ _ ⟨rfl, x5, rfl, hx5⟩
    show J_ zX11_lineUp T (po_X11_lineUp_k T p m sd) 0 0 19 _ [vI x5] T
    refine j_blx (F := fX11) tb_X11 (nn_ _) bk_X11_lineUp_19 bs_X11_lineUp_19 hz (fun K hK => ?_)
    refine And.intro (fun c6 => ?_) (fun c6 => ?_)
    · refine hK 25 _ [] T ?_
      refine j_blx (F := fX11) tb_X11 (nn_ _) bk_X11_lineUp_25 bs_X11_lineUp_25 hz (fun K hK => ?_)
      refine hK 28 _ [vI 1, vI 0, vI sd] T ?_
      refine j_callS (y := yX11_in) (Yc := zX11_in) (rest := []) [vI sd, vI 0, vI 1] (ct_X11_in (T := T)) cl_X11_255 (qd_c (by decide +kernel)) (nn_ _) rfl (rf_of rfl) (Nat.le_of_ble_eq_true rfl) (Nat.le_of_ble_eq_true rfl) (Nat.le_of_ble_eq_true rfl) rfl ?_
      rintro _ _ ⟨rfl, x7, rfl, hx7⟩
      show J_ zX11_lineUp T (po_X11_lineUp_k T p m sd) 0 0 31 _ [vI x7] T
      refine j_blx (F := fX11) tb_X11 (nn_ _) bk_X11_lineUp_31 bs_X11_lineUp_31 hz (fun K hK => ?_)
      refine And.intro (fun c8 => ?_) (fun c8 => ?_)
      · refine hK 37 _ [] T ?_
        refine j_blx (F := fX11) tb_X11 (nn_ _) bk_X11_lineUp_37 bs_X11_lineUp_37 hz (fun K hK => ?_)
        refine ix_i (by omega) ?_
        intro b9 b9b
        refine And.intro (fun c10 => ?_) (fun c10 => ?_)
        · refine hK 49 _ [] T ?_
          refine j_blx (F := fX11) tb_X11 (nn_ _) bk_X11_lineUp_49 bs_X11_lineUp_49 hz (fun K hK => ?_)
          refine rg_i (by omega) ?_
          refine rg_i (by omega) ?_
          refine ix_i (by omega) ?_
          intro b11 b11b
          refine ix_i (by omega) ?_
          intro b12 b12b
          refine hK 72 [some (vR 111 0), some (vI p), some (vI m), some (vI sd), some (vI ((2 * m) + sd)), none] [vI 9, vI (T 230 0 m), vR 111 0, vI (T 239 0 ((2 * m) + sd))] T ?_
          refine j_callV (y := yX11_rule0) (Yc := zX11_rule0) (rest := [vI (T 239 0 ((2 * m) + sd))]) [vI (T 230 0 m), vI 9] (ct_X11_rule0 (T := T) (by omega) (by omega)) cl_X11_321 (qd_c (by decide +kernel)) (nn_ _) rfl (rf_of rfl) (Nat.le_of_ble_eq_true rfl) (Nat.le_of_ble_eq_true rfl) (Nat.le_of_ble_eq_true rfl) rfl ?_
          rintro _ _ ⟨rfl, rfl⟩
          show J_ zX11_lineUp T (po_X11_lineUp_k T p m sd) 0 0 75 _ [vI (T 205 0 (23 * (T 230 0 m) + 9)), vI (T 239 0 ((2 * m) + sd))] T
          have hcm := hmc m (by omega) (by omega)
          have hr9 : (1 : Int) ≤ T 205 0 (23 * T 230 0 m + 9) ∧ T 205 0 (23 * T 230 0 m + 9) ≤ (6 : Int) := hri (T 230 0 m) 9 (by omega) (by omega) (by omega) (by omega)
          have hsm := (hsh m sd (by omega) (by omega) (by omega) (by omega)).1 (by omega)
          refine j_blx (F := fX11) tb_X11 (nn_ _) bk_X11_lineUp_75 bs_X11_lineUp_75 hz (fun K hK => ?_)
          refine rg_i (by omega) ?_
          refine And.intro (fun c13 => ?_) (fun c13 => ?_)
          · refine hK 83 _ [] T ?_
            refine j_blx (F := fX11) tb_X11 (nn_ _) bk_X11_lineUp_83 bs_X11_lineUp_83 hz (fun K hK => ?_)
            refine hK 87 _ [vI sd, vI m, vI p, vR 111 0] T ?_
            refine j_callV (y := yX11_whyNot) (Yc := zX11_whyNot) (rest := []) [vI p, vI m, vI sd] (ct_X11_whyNot (T := T) (by omega) (by exact hml) (by exact hmc) (by exact hri)) cl_X11_387 (qd_c (by decide +kernel)) (nn_ _) rfl (rf_of rfl) (Nat.le_of_ble_eq_true rfl) (Nat.le_of_ble_eq_true rfl) (Nat.le_of_ble_eq_true rfl) rfl ?_
            rintro _ _ ⟨rfl, x14, rfl, hx14⟩
            show J_ zX11_lineUp T (po_X11_lineUp_k T p m sd) 0 0 90 _ [vI x14] T
            refine j_blx (F := fX11) tb_X11 (nn_ _) bk_X11_lineUp_90 bs_X11_lineUp_90 hz (fun K hK => ?_)
            refine And.intro (fun c15 => ?_) (fun c15 => ?_)
            · refine hK 103 [some (vR 111 0), some (vI p), some (vI m), some (vI sd), some (vI ((2 * m) + sd)), some (vI x14)] [] T ?_
              refine j_blx (F := fX11) tb_X11 (nn_ _) bk_X11_lineUp_103 bs_X11_lineUp_103 hz (fun K hK => ?_)
              refine rg_i (by omega) ?_
              refine ix_i (by omega) ?_
              intro b16 b16b
              refine rg_i (by omega) ?_
              refine iy_i (by omega) (by omega) ?_
              refine x_nm (fun U17 hU17 => ?_)
              have e18 := up_f hU17
              refine ix_i (by omega) ?_
              intro b19 b19b
              have e20 : U17 239 0 ((2 * m) + sd) = T 239 0 ((2 * m) + sd) := up_k hU17 (by exact Nat.ne_of_beq_eq_false rfl) 0 ((2 * m) + sd)
              rw [e20] at b19 b19b ⊢
              refine rg_i (by omega) ?_
              refine iy_i (by omega) (by omega) ?_
              refine x_nm (fun U21 hU21 => ?_)
              have e22 := up_f hU21
              refine ix_i (by omega) ?_
              intro b23 b23b
              have e24 : U21 239 0 ((2 * m) + sd) = (T 239 0 ((2 * m) + sd)) + 1 := up_f hU21
              rw [e24] at b23 b23b ⊢
              refine (show po_X11_lineUp_k T p m sd U21 (some (vI ((T 239 0 ((2 * m) + sd)) + 1))) from ?_)
              have es : ∀ z, z ≠ 2 * m + sd → U21 239 0 z = T 239 0 z := fun z hz => (up_g hU21 (fun q => hz q.2.2)).trans (up_k hU17 (by exact Nat.ne_of_beq_eq_false rfl) 0 z)
              have er : ∀ z, U21 205 0 z = T 205 0 z := fun z => (up_k hU21 (by exact Nat.ne_of_beq_eq_false rfl) 0 z).trans (up_k hU17 (by exact Nat.ne_of_beq_eq_false rfl) 0 z)
              have ec : ∀ z, U21 230 0 z = T 230 0 z := fun z => (up_k hU21 (by exact Nat.ne_of_beq_eq_false rfl) 0 z).trans (up_k hU17 (by exact Nat.ne_of_beq_eq_false rfl) 0 z)
              have e29 : U21 111 0 29 = T 111 0 29 := (up_k hU21 (by exact Nat.ne_of_beq_eq_false rfl) 0 29).trans (up_k hU17 (by exact Nat.ne_of_beq_eq_false rfl) 0 29)
              have eg : ∀ z, T 239 0 z ≤ U21 239 0 z := fun z => by
                by_cases y : z = 2 * m + sd
                · rw [y]; omega
                · rw [es z y]; exact Int.le_refl _
              refine ⟨_, rfl, fr_u (fr_u (fr_0 _ _) hU17 rfl) hU21 rfl, fun m9 s9 a b c d => ?_, eg⟩
              have y := hsh m9 s9 a b c d
              rw [er, ec, e29]
              by_cases z9 : m9 = m ∧ s9 = sd
              · obtain ⟨rfl, rfl⟩ := z9
                have e8 : U21 239 0 (2 * m9 + s9) = T 239 0 (2 * m9 + s9) + 1 := by omega
                rw [e8]; omega
              · rw [es _ (by omega)]; exact y
            · refine rg_i (by omega) ?_
              refine (show po_X11_lineUp_k T p m sd T (some (vI ((-10) - x14))) from ?_)
              exact ⟨_, rfl, fr_0 _ _, hsh, fun _ => Int.le_refl _⟩
          · refine (show po_X11_lineUp_k T p m sd T (some (vI (-5))) from ?_)
            exact ⟨_, rfl, fr_0 _ _, hsh, fun _ => Int.le_refl _⟩
        · refine (show po_X11_lineUp_k T p m sd T (some (vI (-4))) from ?_)
          exact ⟨_, rfl, fr_0 _ _, hsh, fun _ => Int.le_refl _⟩
      · refine (show po_X11_lineUp_k T p m sd T (some (vI (-3))) from ?_)
        exact ⟨_, rfl, fr_0 _ _, hsh, fun _ => Int.le_refl _⟩
    · refine (show po_X11_lineUp_k T p m sd T (some (vI (-2))) from ?_)
      exact ⟨_, rfl, fr_0 _ _, hsh, fun _ => Int.le_refl _⟩
theorem rz_f {T T1 : Zt} (h : RZ_ T) (a : T1 111 0 29 = T 111 0 29) (b : ∀ j, T1 254 0 j = T 254 0 j) (c : ∀ j, T1 256 0 j = T 256 0 j) : RZ_ T1 := fun m p q => by rw [b, c]; exact h m (by omega) q
/-- what holds between the calls -/
def IR_ (T : Zt) : Prop := CW_ T ∧ RI_ T ∧ RW_ T ∧ EN_ T ∧ ML_ T ∧ MC_ T ∧ SH_ T ∧ FM_ T ∧ RX_ T [] ∧ RZ_ T ∧ ZS_ T ∧ GX_ T (-1)
theorem en_c {T T1 : Zt} (h : EN_ T) (a : ∀ j, T1 208 0 j = T 208 0 j) (b : ∀ j, T1 207 0 j = T 207 0 j) (c : T 111 0 12 ≤ T1 111 0 12) : EN_ T1 := fun k p q => by
  have y := h k p q
  refine ⟨fun j u v => ?_, fun i j u v w => ?_⟩
  · rw [a] at v
    rw [b]
    have := y.1 j u v
    omega
  · rw [a] at w
    rw [b, b]
    exact y.2 i j u v w
theorem mc_c {T T1 : Zt} (h : MC_ T) (a : ∀ j, T1 230 0 j = T 230 0 j) (b : T1 111 0 29 = T 111 0 29) (c : T 111 0 6 ≤ T1 111 0 6) : MC_ T1 := fun m p q => by
  rw [a]
  have := h m p (by omega)
  omega
theorem sh_c {T T1 : Zt} (h : SH_ T) (g : MC_ T) (nn : ∀ j, 0 ≤ j → 0 ≤ T 230 0 j) (a : ∀ j, T1 230 0 j = T 230 0 j) (b : T1 111 0 29 = T 111 0 29) (c : ∀ j, T1 239 0 j = T 239 0 j) (d : ∀ j, j < 23 * T 111 0 6 → T1 205 0 j = T 205 0 j) : SH_ T1 := fun m s p q u v => by
  have y := h m s p q u v
  rw [a, b, c]
  refine ⟨fun z => ?_, y.2⟩
  have k := g m p z
  rw [d _ (by omega)]
  exact y.1 z
theorem zs_l {T T1 : Zt} (h : ZS_ T) (a : ∀ j, T1 242 0 j = T 242 0 j) (c : ∀ j, T 239 0 j ≤ T1 239 0 j) : ZS_ T1 := fun j p q r => by
  rw [a]
  have := c (j / 10)
  exact h j p q (by omega)
theorem rz_o {T T1 : Zt} {m : Int} (h : RZ_ T) (a : T1 111 0 29 = T 111 0 29) (b : ∀ j, j ≠ m ∨ T 111 0 29 ≤ j → T1 254 0 j = T 254 0 j ∧ T1 256 0 j = T 256 0 j) : RZ_ T1 := fun k p q => by
  have y := b k (Or.inr (by omega))
  rw [y.1, y.2]
  exact h k (by omega) q
theorem ml_p {T T1 : Zt} {c : Int} (h : ML_ T) (le : T 111 0 29 ≤ T1 111 0 29) (a : T1 210 0 c = T 111 0 29) (b : T1 211 0 c = T1 111 0 29 - T 111 0 29) (d : ∀ z, z ≠ c → T1 210 0 z = T 210 0 z ∧ T1 211 0 z = T 211 0 z ∧ T1 209 0 z = T 209 0 z) : ML_ T1 := fun k p q => by
  by_cases z : k = c
  · rw [z, a, b]; omega
  · rw [(d k z).1, (d k z).2.1]
    have := h k p q
    omega
theorem mc_p {T T1 : Zt} {c : Int} (h : MC_ T) (hc : c < T 111 0 6) (a : am2_ T T1 c) (b : T1 111 0 6 = T 111 0 6) : MC_ T1 := fun m p q => by
  rw [b]
  by_cases z : m < T 111 0 29
  · rw [(a.2.1 m z).1]; exact h m p z
  · rw [(a.2.2.1 m (by omega) q).1]; exact hc
theorem sh_p {T T1 : Zt} {c : Int} (h : SH_ T) (g : RI_ T) (hc : 0 ≤ c ∧ c < T 111 0 6) (a : am2_ T T1 c) (b : ∀ j, T1 239 0 j = T 239 0 j) (d : ∀ j, T1 205 0 j = T 205 0 j) : SH_ T1 := fun m s p q u v => by
  have y := h m s p q u v
  have a1 := a.1
  rw [b, d]
  refine ⟨fun z => ?_, fun z => y.2 (by omega)⟩
  by_cases w : m < T 111 0 29
  · rw [(a.2.1 m w).1]; exact y.1 w
  · rw [(a.2.2.1 m (by omega) z).1, y.2 (by omega)]
    have k : (1 : Int) ≤ T 205 0 (23 * c + 9) ∧ T 205 0 (23 * c + 9) ≤ (6 : Int) := g c 9 hc.1 hc.2 (by decide) (by decide)
    omega
theorem fm_p {T T1 : Zt} {c : Int} (h : FM_ T) (a : am2_ T T1 c) (b : ∀ j, T1 244 0 j = T 244 0 j) : FM_ T1 := fun m s p q u v w => by
  rw [b]
  by_cases z : m < T 111 0 29
  · rw [(a.2.1 m z).2.2.2.2.2.1] at w; exact h m s p q u v w
  · by_cases y : m < T1 111 0 29
    · rw [(a.2.2.1 m (by omega) y).2.1] at w; omega
    · rw [a.2.2.2 m (by omega)] at w; exact h m s p q u v w
theorem ir_sign {T T' : Zt} {c : Int} {r : Option Zv} (h : IR_ T) (p : po_X11_sign T c T' r) : IR_ T' := by
  obtain ⟨x, rfl, f, q⟩ := p
  exact ⟨CW_f h.1 f ⟨fun _ => rfl, fun _ => rfl, fun _ => rfl, fun _ => rfl, fun _ => rfl⟩, RI__f h.2.1 f ⟨fun _ => rfl, rfl, trivial⟩, RW__f h.2.2.1 f ⟨fun _ => rfl, rfl, trivial⟩, EN__f h.2.2.2.1 f ⟨fun _ => rfl, fun _ => rfl, rfl, trivial⟩, ML__f h.2.2.2.2.1 f ⟨fun _ => rfl, fun _ => rfl, rfl, trivial⟩, MC__f h.2.2.2.2.2.1 f ⟨fun _ => rfl, rfl, rfl, trivial⟩, SH__f h.2.2.2.2.2.2.1 f ⟨fun _ => rfl, fun _ => rfl, fun _ => rfl, rfl, trivial⟩, FM__f h.2.2.2.2.2.2.2.1 f ⟨fun _ => rfl, fun _ => rfl, trivial⟩, rx_f h.2.2.2.2.2.2.2.2.1 (f 111 0 29 rfl) (f 111 0 47 rfl) (fun k j h => f k 0 j (by rcases h with rfl | rfl | rfl | rfl | rfl <;> rfl)), rz_f h.2.2.2.2.2.2.2.2.2.1 (f 111 0 29 rfl) (fun j => f 254 0 j rfl) (fun j => f 256 0 j rfl), ZS__f h.2.2.2.2.2.2.2.2.2.2.1 f ⟨fun _ => rfl, fun _ => rfl, trivial⟩, gx_f (x := -1) (y := -1) h.2.2.2.2.2.2.2.2.2.2.2 f ⟨fun _ => rfl, fun _ => rfl, fun _ => rfl⟩ (fun j _ => f 254 0 j rfl) (Or.inl rfl)⟩
theorem ir_wipe {T T' : Zt} {r : Option Zv} (h : IR_ T) (p : po_X11_wipe T  T' r) : IR_ T' := by
  obtain ⟨x, rfl, f, q⟩ := p
  exact ⟨CW_f h.1 f ⟨fun _ => rfl, fun _ => rfl, fun _ => rfl, fun _ => rfl, fun _ => rfl⟩, RI__f h.2.1 f ⟨fun _ => rfl, rfl, trivial⟩, RW__f h.2.2.1 f ⟨fun _ => rfl, rfl, trivial⟩, EN__f h.2.2.2.1 f ⟨fun _ => rfl, fun _ => rfl, rfl, trivial⟩, ML__f h.2.2.2.2.1 f ⟨fun _ => rfl, fun _ => rfl, rfl, trivial⟩, MC__f h.2.2.2.2.2.1 f ⟨fun _ => rfl, rfl, rfl, trivial⟩, SH__f h.2.2.2.2.2.2.1 f ⟨fun _ => rfl, fun _ => rfl, fun _ => rfl, rfl, trivial⟩, FM__f h.2.2.2.2.2.2.2.1 f ⟨fun _ => rfl, fun _ => rfl, trivial⟩, rx_f h.2.2.2.2.2.2.2.2.1 (f 111 0 29 rfl) (f 111 0 47 rfl) (fun k j h => f k 0 j (by rcases h with rfl | rfl | rfl | rfl | rfl <;> rfl)), rz_f h.2.2.2.2.2.2.2.2.2.1 (f 111 0 29 rfl) (fun j => f 254 0 j rfl) (fun j => f 256 0 j rfl), ZS__f h.2.2.2.2.2.2.2.2.2.2.1 f ⟨fun _ => rfl, fun _ => rfl, trivial⟩, gx_f (x := -1) (y := -1) h.2.2.2.2.2.2.2.2.2.2.2 f ⟨fun _ => rfl, fun _ => rfl, fun _ => rfl⟩ (fun j _ => f 254 0 j rfl) (Or.inl rfl)⟩
theorem ir_competition {T T' : Zt} {r : Option Zv} (hT : ok_T T) (h : IR_ T) (p : po_X11_competition_k T  T' r) : IR_ T' := by
  obtain ⟨x, rfl, f, q⟩ := p
  exact ⟨CW_f h.1 f ⟨fun _ => rfl, fun _ => rfl, fun _ => rfl, fun _ => rfl, fun _ => rfl⟩, q.2.1, q.2.2.1, EN__f h.2.2.2.1 f ⟨fun _ => rfl, fun _ => rfl, rfl, trivial⟩, ML__f h.2.2.2.2.1 f ⟨fun _ => rfl, fun _ => rfl, rfl, trivial⟩, mc_c h.2.2.2.2.2.1 (fun j => f 230 0 j rfl) (f 111 0 29 rfl) (by omega), sh_c h.2.2.2.2.2.2.1 h.2.2.2.2.2.1 (fun j hj => (bd_a hT 230 (by decide +kernel : ta_ 230 = some (1, some 400, 0, 3)) 0 hj).1) (fun j => f 230 0 j rfl) (f 111 0 29 rfl) (fun j => f 239 0 j rfl) q.2.2.2, FM__f h.2.2.2.2.2.2.2.1 f ⟨fun _ => rfl, fun _ => rfl, trivial⟩, rx_f h.2.2.2.2.2.2.2.2.1 (f 111 0 29 rfl) (f 111 0 47 rfl) (fun k j h => f k 0 j (by rcases h with rfl | rfl | rfl | rfl | rfl <;> rfl)), rz_f h.2.2.2.2.2.2.2.2.2.1 (f 111 0 29 rfl) (fun j => f 254 0 j rfl) (fun j => f 256 0 j rfl), ZS__f h.2.2.2.2.2.2.2.2.2.2.1 f ⟨fun _ => rfl, fun _ => rfl, trivial⟩, gx_f (x := -1) (y := -1) h.2.2.2.2.2.2.2.2.2.2.2 f ⟨fun _ => rfl, fun _ => rfl, fun _ => rfl⟩ (fun j _ => f 254 0 j rfl) (Or.inl rfl)⟩
theorem ir_club {T T' : Zt} {s c : Int} {r : Option Zv} (h : IR_ T) (p : po_X11_club T s c T' r) : IR_ T' := by
  obtain ⟨x, rfl, f, q⟩ := p
  exact ⟨CW_f h.1 f ⟨fun _ => rfl, fun _ => rfl, fun _ => rfl, fun _ => rfl, fun _ => rfl⟩, RI__f h.2.1 f ⟨fun _ => rfl, rfl, trivial⟩, RW__f h.2.2.1 f ⟨fun _ => rfl, rfl, trivial⟩, en_c h.2.2.2.1 (fun j => f 208 0 j rfl) (fun j => f 207 0 j rfl) (by omega), ML__f h.2.2.2.2.1 f ⟨fun _ => rfl, fun _ => rfl, rfl, trivial⟩, MC__f h.2.2.2.2.2.1 f ⟨fun _ => rfl, rfl, rfl, trivial⟩, SH__f h.2.2.2.2.2.2.1 f ⟨fun _ => rfl, fun _ => rfl, fun _ => rfl, rfl, trivial⟩, FM__f h.2.2.2.2.2.2.2.1 f ⟨fun _ => rfl, fun _ => rfl, trivial⟩, rx_f h.2.2.2.2.2.2.2.2.1 (f 111 0 29 rfl) (f 111 0 47 rfl) (fun k j h => f k 0 j (by rcases h with rfl | rfl | rfl | rfl | rfl <;> rfl)), rz_f h.2.2.2.2.2.2.2.2.2.1 (f 111 0 29 rfl) (fun j => f 254 0 j rfl) (fun j => f 256 0 j rfl), ZS__f h.2.2.2.2.2.2.2.2.2.2.1 f ⟨fun _ => rfl, fun _ => rfl, trivial⟩, gx_f (x := -1) (y := -1) h.2.2.2.2.2.2.2.2.2.2.2 f ⟨fun _ => rfl, fun _ => rfl, fun _ => rfl⟩ (fun j _ => f 254 0 j rfl) (Or.inl rfl)⟩
theorem ir_person {T T' : Zt} {r : Option Zv} (h : IR_ T) (p : po_X11_person T  T' r) : IR_ T' := by
  obtain ⟨x, rfl, f, q⟩ := p
  exact ⟨CW_f h.1 f ⟨fun _ => rfl, fun _ => rfl, fun _ => rfl, fun _ => rfl, fun _ => rfl⟩, RI__f h.2.1 f ⟨fun _ => rfl, rfl, trivial⟩, RW__f h.2.2.1 f ⟨fun _ => rfl, rfl, trivial⟩, EN__f h.2.2.2.1 f ⟨fun _ => rfl, fun _ => rfl, rfl, trivial⟩, ML__f h.2.2.2.2.1 f ⟨fun _ => rfl, fun _ => rfl, rfl, trivial⟩, MC__f h.2.2.2.2.2.1 f ⟨fun _ => rfl, rfl, rfl, trivial⟩, SH__f h.2.2.2.2.2.2.1 f ⟨fun _ => rfl, fun _ => rfl, fun _ => rfl, rfl, trivial⟩, FM__f h.2.2.2.2.2.2.2.1 f ⟨fun _ => rfl, fun _ => rfl, trivial⟩, rx_f h.2.2.2.2.2.2.2.2.1 (f 111 0 29 rfl) (f 111 0 47 rfl) (fun k j h => f k 0 j (by rcases h with rfl | rfl | rfl | rfl | rfl <;> rfl)), rz_f h.2.2.2.2.2.2.2.2.2.1 (f 111 0 29 rfl) (fun j => f 254 0 j rfl) (fun j => f 256 0 j rfl), ZS__f h.2.2.2.2.2.2.2.2.2.2.1 f ⟨fun _ => rfl, fun _ => rfl, trivial⟩, gx_f (x := -1) (y := -1) h.2.2.2.2.2.2.2.2.2.2.2 f ⟨fun _ => rfl, fun _ => rfl, fun _ => rfl⟩ (fun j _ => f 254 0 j rfl) (Or.inl rfl)⟩
theorem ir_register {T T' : Zt} {p cl fr to : Int} {r : Option Zv} (h : IR_ T) (p : po_X11_register T p cl fr to T' r) : IR_ T' := by
  obtain ⟨x, rfl, f, q⟩ := p
  exact ⟨CW_f h.1 f ⟨fun _ => rfl, fun _ => rfl, fun _ => rfl, fun _ => rfl, fun _ => rfl⟩, RI__f h.2.1 f ⟨fun _ => rfl, rfl, trivial⟩, RW__f h.2.2.1 f ⟨fun _ => rfl, rfl, trivial⟩, EN__f h.2.2.2.1 f ⟨fun _ => rfl, fun _ => rfl, rfl, trivial⟩, ML__f h.2.2.2.2.1 f ⟨fun _ => rfl, fun _ => rfl, rfl, trivial⟩, MC__f h.2.2.2.2.2.1 f ⟨fun _ => rfl, rfl, rfl, trivial⟩, SH__f h.2.2.2.2.2.2.1 f ⟨fun _ => rfl, fun _ => rfl, fun _ => rfl, rfl, trivial⟩, FM__f h.2.2.2.2.2.2.2.1 f ⟨fun _ => rfl, fun _ => rfl, trivial⟩, rx_f h.2.2.2.2.2.2.2.2.1 (f 111 0 29 rfl) (f 111 0 47 rfl) (fun k j h => f k 0 j (by rcases h with rfl | rfl | rfl | rfl | rfl <;> rfl)), rz_f h.2.2.2.2.2.2.2.2.2.1 (f 111 0 29 rfl) (fun j => f 254 0 j rfl) (fun j => f 256 0 j rfl), ZS__f h.2.2.2.2.2.2.2.2.2.2.1 f ⟨fun _ => rfl, fun _ => rfl, trivial⟩, gx_f (x := -1) (y := -1) h.2.2.2.2.2.2.2.2.2.2.2 f ⟨fun _ => rfl, fun _ => rfl, fun _ => rfl⟩ (fun j _ => f 254 0 j rfl) (Or.inl rfl)⟩
theorem ir_official {T T' : Zt} {s c : Int} {r : Option Zv} (h : IR_ T) (p : po_X11_official T s c T' r) : IR_ T' := by
  obtain ⟨x, rfl, f, q⟩ := p
  exact ⟨CW_f h.1 f ⟨fun _ => rfl, fun _ => rfl, fun _ => rfl, fun _ => rfl, fun _ => rfl⟩, RI__f h.2.1 f ⟨fun _ => rfl, rfl, trivial⟩, RW__f h.2.2.1 f ⟨fun _ => rfl, rfl, trivial⟩, EN__f h.2.2.2.1 f ⟨fun _ => rfl, fun _ => rfl, rfl, trivial⟩, ML__f h.2.2.2.2.1 f ⟨fun _ => rfl, fun _ => rfl, rfl, trivial⟩, MC__f h.2.2.2.2.2.1 f ⟨fun _ => rfl, rfl, rfl, trivial⟩, SH__f h.2.2.2.2.2.2.1 f ⟨fun _ => rfl, fun _ => rfl, fun _ => rfl, rfl, trivial⟩, FM__f h.2.2.2.2.2.2.2.1 f ⟨fun _ => rfl, fun _ => rfl, trivial⟩, rx_f h.2.2.2.2.2.2.2.2.1 (f 111 0 29 rfl) (f 111 0 47 rfl) (fun k j h => f k 0 j (by rcases h with rfl | rfl | rfl | rfl | rfl <;> rfl)), rz_f h.2.2.2.2.2.2.2.2.2.1 (f 111 0 29 rfl) (fun j => f 254 0 j rfl) (fun j => f 256 0 j rfl), ZS__f h.2.2.2.2.2.2.2.2.2.2.1 f ⟨fun _ => rfl, fun _ => rfl, trivial⟩, gx_f (x := -1) (y := -1) h.2.2.2.2.2.2.2.2.2.2.2 f ⟨fun _ => rfl, fun _ => rfl, fun _ => rfl⟩ (fun j _ => f 254 0 j rfl) (Or.inl rfl)⟩
theorem ir_day {T T' : Zt} {d : Int} {r : Option Zv} (h : IR_ T) (p : po_X11_day T d T' r) : IR_ T' := by
  obtain ⟨x, rfl, f, q⟩ := p
  exact ⟨CW_f h.1 f ⟨fun _ => rfl, fun _ => rfl, fun _ => rfl, fun _ => rfl, fun _ => rfl⟩, RI__f h.2.1 f ⟨fun _ => rfl, rfl, trivial⟩, RW__f h.2.2.1 f ⟨fun _ => rfl, rfl, trivial⟩, EN__f h.2.2.2.1 f ⟨fun _ => rfl, fun _ => rfl, rfl, trivial⟩, ML__f h.2.2.2.2.1 f ⟨fun _ => rfl, fun _ => rfl, rfl, trivial⟩, MC__f h.2.2.2.2.2.1 f ⟨fun _ => rfl, rfl, rfl, trivial⟩, SH__f h.2.2.2.2.2.2.1 f ⟨fun _ => rfl, fun _ => rfl, fun _ => rfl, rfl, trivial⟩, FM__f h.2.2.2.2.2.2.2.1 f ⟨fun _ => rfl, fun _ => rfl, trivial⟩, rx_f h.2.2.2.2.2.2.2.2.1 (f 111 0 29 rfl) (f 111 0 47 rfl) (fun k j h => f k 0 j (by rcases h with rfl | rfl | rfl | rfl | rfl <;> rfl)), rz_f h.2.2.2.2.2.2.2.2.2.1 (f 111 0 29 rfl) (fun j => f 254 0 j rfl) (fun j => f 256 0 j rfl), ZS__f h.2.2.2.2.2.2.2.2.2.2.1 f ⟨fun _ => rfl, fun _ => rfl, trivial⟩, gx_f (x := -1) (y := -1) h.2.2.2.2.2.2.2.2.2.2.2 f ⟨fun _ => rfl, fun _ => rfl, fun _ => rfl⟩ (fun j _ => f 254 0 j rfl) (Or.inl rfl)⟩
theorem ir_enter {T T' : Zt} {c cl : Int} {r : Option Zv} (h : IR_ T) (p : po_X11_enter T c cl T' r) : IR_ T' := by
  obtain ⟨x, rfl, f, q⟩ := p
  exact ⟨CW_f h.1 f ⟨fun _ => rfl, fun _ => rfl, fun _ => rfl, fun _ => rfl, fun _ => rfl⟩, RI__f h.2.1 f ⟨fun _ => rfl, rfl, trivial⟩, RW__f h.2.2.1 f ⟨fun _ => rfl, rfl, trivial⟩, q, ML__f h.2.2.2.2.1 f ⟨fun _ => rfl, fun _ => rfl, rfl, trivial⟩, MC__f h.2.2.2.2.2.1 f ⟨fun _ => rfl, rfl, rfl, trivial⟩, SH__f h.2.2.2.2.2.2.1 f ⟨fun _ => rfl, fun _ => rfl, fun _ => rfl, rfl, trivial⟩, FM__f h.2.2.2.2.2.2.2.1 f ⟨fun _ => rfl, fun _ => rfl, trivial⟩, rx_f h.2.2.2.2.2.2.2.2.1 (f 111 0 29 rfl) (f 111 0 47 rfl) (fun k j h => f k 0 j (by rcases h with rfl | rfl | rfl | rfl | rfl <;> rfl)), rz_f h.2.2.2.2.2.2.2.2.2.1 (f 111 0 29 rfl) (fun j => f 254 0 j rfl) (fun j => f 256 0 j rfl), ZS__f h.2.2.2.2.2.2.2.2.2.2.1 f ⟨fun _ => rfl, fun _ => rfl, trivial⟩, gx_f (x := -1) (y := -1) h.2.2.2.2.2.2.2.2.2.2.2 f ⟨fun _ => rfl, fun _ => rfl, fun _ => rfl⟩ (fun j _ => f 254 0 j rfl) (Or.inl rfl)⟩
theorem ir_postpone {T T' : Zt} {m d : Int} {r : Option Zv} (h : IR_ T) (p : po_X11_postpone T m d T' r) : IR_ T' := by
  obtain ⟨x, rfl, f, q⟩ := p
  exact ⟨CW_f h.1 f ⟨fun _ => rfl, fun _ => rfl, fun _ => rfl, fun _ => rfl, fun _ => rfl⟩, RI__f h.2.1 f ⟨fun _ => rfl, rfl, trivial⟩, RW__f h.2.2.1 f ⟨fun _ => rfl, rfl, trivial⟩, EN__f h.2.2.2.1 f ⟨fun _ => rfl, fun _ => rfl, rfl, trivial⟩, ML__f h.2.2.2.2.1 f ⟨fun _ => rfl, fun _ => rfl, rfl, trivial⟩, MC__f h.2.2.2.2.2.1 f ⟨fun _ => rfl, rfl, rfl, trivial⟩, SH__f h.2.2.2.2.2.2.1 f ⟨fun _ => rfl, fun _ => rfl, fun _ => rfl, rfl, trivial⟩, FM__f h.2.2.2.2.2.2.2.1 f ⟨fun _ => rfl, fun _ => rfl, trivial⟩, rx_f h.2.2.2.2.2.2.2.2.1 (f 111 0 29 rfl) (f 111 0 47 rfl) (fun k j h => f k 0 j (by rcases h with rfl | rfl | rfl | rfl | rfl <;> rfl)), rz_f h.2.2.2.2.2.2.2.2.2.1 (f 111 0 29 rfl) (fun j => f 254 0 j rfl) (fun j => f 256 0 j rfl), ZS__f h.2.2.2.2.2.2.2.2.2.2.1 f ⟨fun _ => rfl, fun _ => rfl, trivial⟩, gx_f (x := -1) (y := -1) h.2.2.2.2.2.2.2.2.2.2.2 f ⟨fun _ => rfl, fun _ => rfl, fun _ => rfl⟩ (fun j _ => f 254 0 j rfl) (Or.inl rfl)⟩
theorem ir_deduct {T T' : Zt} {c cl p : Int} {r : Option Zv} (h : IR_ T) (p : po_X11_deduct T c cl p T' r) : IR_ T' := by
  obtain ⟨x, rfl, f, q⟩ := p
  exact ⟨CW_f h.1 f ⟨fun _ => rfl, fun _ => rfl, fun _ => rfl, fun _ => rfl, fun _ => rfl⟩, RI__f h.2.1 f ⟨fun _ => rfl, rfl, trivial⟩, RW__f h.2.2.1 f ⟨fun _ => rfl, rfl, trivial⟩, EN__f h.2.2.2.1 f ⟨fun _ => rfl, fun _ => rfl, rfl, trivial⟩, ML__f h.2.2.2.2.1 f ⟨fun _ => rfl, fun _ => rfl, rfl, trivial⟩, MC__f h.2.2.2.2.2.1 f ⟨fun _ => rfl, rfl, rfl, trivial⟩, SH__f h.2.2.2.2.2.2.1 f ⟨fun _ => rfl, fun _ => rfl, fun _ => rfl, rfl, trivial⟩, FM__f h.2.2.2.2.2.2.2.1 f ⟨fun _ => rfl, fun _ => rfl, trivial⟩, rx_f h.2.2.2.2.2.2.2.2.1 (f 111 0 29 rfl) (f 111 0 47 rfl) (fun k j h => f k 0 j (by rcases h with rfl | rfl | rfl | rfl | rfl <;> rfl)), rz_f h.2.2.2.2.2.2.2.2.2.1 (f 111 0 29 rfl) (fun j => f 254 0 j rfl) (fun j => f 256 0 j rfl), ZS__f h.2.2.2.2.2.2.2.2.2.2.1 f ⟨fun _ => rfl, fun _ => rfl, trivial⟩, gx_f (x := -1) (y := -1) h.2.2.2.2.2.2.2.2.2.2.2 f ⟨fun _ => rfl, fun _ => rfl, fun _ => rfl⟩ (fun j _ => f 254 0 j rfl) (Or.inl rfl)⟩
theorem ir_lineUp {T T' : Zt} {p m sd : Int} {r : Option Zv} (h : IR_ T) (p : po_X11_lineUp_k T p m sd T' r) : IR_ T' := by
  obtain ⟨x, rfl, f, q⟩ := p
  exact ⟨CW_f h.1 f ⟨fun _ => rfl, fun _ => rfl, fun _ => rfl, fun _ => rfl, fun _ => rfl⟩, RI__f h.2.1 f ⟨fun _ => rfl, rfl, trivial⟩, RW__f h.2.2.1 f ⟨fun _ => rfl, rfl, trivial⟩, EN__f h.2.2.2.1 f ⟨fun _ => rfl, fun _ => rfl, rfl, trivial⟩, ML__f h.2.2.2.2.1 f ⟨fun _ => rfl, fun _ => rfl, rfl, trivial⟩, MC__f h.2.2.2.2.2.1 f ⟨fun _ => rfl, rfl, rfl, trivial⟩, q.1, FM__f h.2.2.2.2.2.2.2.1 f ⟨fun _ => rfl, fun _ => rfl, trivial⟩, rx_f h.2.2.2.2.2.2.2.2.1 (f 111 0 29 rfl) (f 111 0 47 rfl) (fun k j h => f k 0 j (by rcases h with rfl | rfl | rfl | rfl | rfl <;> rfl)), rz_f h.2.2.2.2.2.2.2.2.2.1 (f 111 0 29 rfl) (fun j => f 254 0 j rfl) (fun j => f 256 0 j rfl), zs_l h.2.2.2.2.2.2.2.2.2.2.1 (fun j => f 242 0 j rfl) q.2, gx_f (x := -1) (y := -1) h.2.2.2.2.2.2.2.2.2.2.2 f ⟨fun _ => rfl, fun _ => rfl, fun _ => rfl⟩ (fun j _ => f 254 0 j rfl) (Or.inl rfl)⟩
theorem ir_start {T T' : Zt} {m : Int} {r : Option Zv} (h : IR_ T) (p : po_X11_start T m T' r) : IR_ T' := by
  obtain ⟨x, rfl, f, q⟩ := p
  exact ⟨CW_f h.1 f ⟨fun _ => rfl, fun _ => rfl, fun _ => rfl, fun _ => rfl, fun _ => rfl⟩, RI__f h.2.1 f ⟨fun _ => rfl, rfl, trivial⟩, RW__f h.2.2.1 f ⟨fun _ => rfl, rfl, trivial⟩, EN__f h.2.2.2.1 f ⟨fun _ => rfl, fun _ => rfl, rfl, trivial⟩, ML__f h.2.2.2.2.1 f ⟨fun _ => rfl, fun _ => rfl, rfl, trivial⟩, MC__f h.2.2.2.2.2.1 f ⟨fun _ => rfl, rfl, rfl, trivial⟩, SH__f h.2.2.2.2.2.2.1 f ⟨fun _ => rfl, fun _ => rfl, fun _ => rfl, rfl, trivial⟩, q.1, rx_f h.2.2.2.2.2.2.2.2.1 (f 111 0 29 rfl) (f 111 0 47 rfl) (fun k j h => f k 0 j (by rcases h with rfl | rfl | rfl | rfl | rfl <;> rfl)), rz_f h.2.2.2.2.2.2.2.2.2.1 (f 111 0 29 rfl) (fun j => f 254 0 j rfl) (fun j => f 256 0 j rfl), q.2.1, q.2.2⟩
theorem ir_walkOver {T T' : Zt} {m s : Int} {r : Option Zv} (h : IR_ T) (p : po_X11_walkOver T m s T' r) : IR_ T' := by
  obtain ⟨x, rfl, f, q⟩ := p
  exact ⟨CW_f h.1 f ⟨fun _ => rfl, fun _ => rfl, fun _ => rfl, fun _ => rfl, fun _ => rfl⟩, RI__f h.2.1 f ⟨fun _ => rfl, rfl, trivial⟩, RW__f h.2.2.1 f ⟨fun _ => rfl, rfl, trivial⟩, EN__f h.2.2.2.1 f ⟨fun _ => rfl, fun _ => rfl, rfl, trivial⟩, ML__f h.2.2.2.2.1 f ⟨fun _ => rfl, fun _ => rfl, rfl, trivial⟩, MC__f h.2.2.2.2.2.1 f ⟨fun _ => rfl, rfl, rfl, trivial⟩, SH__f h.2.2.2.2.2.2.1 f ⟨fun _ => rfl, fun _ => rfl, fun _ => rfl, rfl, trivial⟩, q.1, rx_f h.2.2.2.2.2.2.2.2.1 (f 111 0 29 rfl) (f 111 0 47 rfl) (fun k j h => f k 0 j (by rcases h with rfl | rfl | rfl | rfl | rfl <;> rfl)), rz_f h.2.2.2.2.2.2.2.2.2.1 (f 111 0 29 rfl) (fun j => f 254 0 j rfl) (fun j => f 256 0 j rfl), q.2.1, q.2.2⟩
theorem ir_event {T T' : Zt} {m k s p q9 : Int} {r : Option Zv} (h : IR_ T) (p : po_X11_event T m k s p q9 T' r) : IR_ T' := by
  obtain ⟨x, rfl, f, q⟩ := p
  exact ⟨CW_f h.1 f ⟨fun _ => rfl, fun _ => rfl, fun _ => rfl, fun _ => rfl, fun _ => rfl⟩, RI__f h.2.1 f ⟨fun _ => rfl, rfl, trivial⟩, RW__f h.2.2.1 f ⟨fun _ => rfl, rfl, trivial⟩, EN__f h.2.2.2.1 f ⟨fun _ => rfl, fun _ => rfl, rfl, trivial⟩, ML__f h.2.2.2.2.1 f ⟨fun _ => rfl, fun _ => rfl, rfl, trivial⟩, MC__f h.2.2.2.2.2.1 f ⟨fun _ => rfl, rfl, rfl, trivial⟩, SH__f h.2.2.2.2.2.2.1 f ⟨fun _ => rfl, fun _ => rfl, fun _ => rfl, rfl, trivial⟩, q.1, q.2.1, rz_o h.2.2.2.2.2.2.2.2.2.1 (f 111 0 29 rfl) q.2.2.2.2, q.2.2.1, q.2.2.2.1⟩
theorem ir_review {T T' : Zt} {m i k s p q9 : Int} {r : Option Zv} (h : IR_ T) (p : po_X11_review T m i k s p q9 T' r) : IR_ T' := by
  obtain ⟨x, rfl, f, q⟩ := p
  exact ⟨CW_f h.1 f ⟨fun _ => rfl, fun _ => rfl, fun _ => rfl, fun _ => rfl, fun _ => rfl⟩, RI__f h.2.1 f ⟨fun _ => rfl, rfl, trivial⟩, RW__f h.2.2.1 f ⟨fun _ => rfl, rfl, trivial⟩, EN__f h.2.2.2.1 f ⟨fun _ => rfl, fun _ => rfl, rfl, trivial⟩, ML__f h.2.2.2.2.1 f ⟨fun _ => rfl, fun _ => rfl, rfl, trivial⟩, MC__f h.2.2.2.2.2.1 f ⟨fun _ => rfl, rfl, rfl, trivial⟩, SH__f h.2.2.2.2.2.2.1 f ⟨fun _ => rfl, fun _ => rfl, fun _ => rfl, rfl, trivial⟩, q.1, q.2.1, rz_o h.2.2.2.2.2.2.2.2.2.1 (f 111 0 29 rfl) q.2.2.2.2, q.2.2.1, q.2.2.2.1⟩
theorem ir_table {T T' : Zt} {c d cl w : Int} {r : Option Zv} (h : IR_ T) (p : po_X11_table T c d cl w T' r) : IR_ T' := by
  obtain ⟨x, rfl, f, q⟩ := p
  exact ⟨CW_f h.1 f ⟨fun _ => rfl, fun _ => rfl, fun _ => rfl, fun _ => rfl, fun _ => rfl⟩, RI__f h.2.1 f ⟨fun _ => rfl, rfl, trivial⟩, RW__f h.2.2.1 f ⟨fun _ => rfl, rfl, trivial⟩, EN__f h.2.2.2.1 f ⟨fun _ => rfl, fun _ => rfl, rfl, trivial⟩, ML__f h.2.2.2.2.1 f ⟨fun _ => rfl, fun _ => rfl, rfl, trivial⟩, MC__f h.2.2.2.2.2.1 f ⟨fun _ => rfl, rfl, rfl, trivial⟩, SH__f h.2.2.2.2.2.2.1 f ⟨fun _ => rfl, fun _ => rfl, fun _ => rfl, rfl, trivial⟩, FM__f h.2.2.2.2.2.2.2.1 f ⟨fun _ => rfl, fun _ => rfl, trivial⟩, rx_f h.2.2.2.2.2.2.2.2.1 (f 111 0 29 rfl) (f 111 0 47 rfl) (fun k j h => f k 0 j (by rcases h with rfl | rfl | rfl | rfl | rfl <;> rfl)), rz_f h.2.2.2.2.2.2.2.2.2.1 (f 111 0 29 rfl) (fun j => f 254 0 j rfl) (fun j => f 256 0 j rfl), ZS__f h.2.2.2.2.2.2.2.2.2.2.1 f ⟨fun _ => rfl, fun _ => rfl, trivial⟩, gx_f (x := -1) (y := -1) h.2.2.2.2.2.2.2.2.2.2.2 f ⟨fun _ => rfl, fun _ => rfl, fun _ => rfl⟩ (fun j _ => f 254 0 j rfl) (Or.inl rfl)⟩
theorem ir_standing {T T' : Zt} {c d k : Int} {r : Option Zv} (h : IR_ T) (p : po_X11_standing T c d k T' r) : IR_ T' := by
  obtain ⟨x, rfl, f, q⟩ := p
  exact ⟨CW_f h.1 f ⟨fun _ => rfl, fun _ => rfl, fun _ => rfl, fun _ => rfl, fun _ => rfl⟩, RI__f h.2.1 f ⟨fun _ => rfl, rfl, trivial⟩, RW__f h.2.2.1 f ⟨fun _ => rfl, rfl, trivial⟩, EN__f h.2.2.2.1 f ⟨fun _ => rfl, fun _ => rfl, rfl, trivial⟩, ML__f h.2.2.2.2.1 f ⟨fun _ => rfl, fun _ => rfl, rfl, trivial⟩, MC__f h.2.2.2.2.2.1 f ⟨fun _ => rfl, rfl, rfl, trivial⟩, SH__f h.2.2.2.2.2.2.1 f ⟨fun _ => rfl, fun _ => rfl, fun _ => rfl, rfl, trivial⟩, FM__f h.2.2.2.2.2.2.2.1 f ⟨fun _ => rfl, fun _ => rfl, trivial⟩, rx_f h.2.2.2.2.2.2.2.2.1 (f 111 0 29 rfl) (f 111 0 47 rfl) (fun k j h => f k 0 j (by rcases h with rfl | rfl | rfl | rfl | rfl <;> rfl)), rz_f h.2.2.2.2.2.2.2.2.2.1 (f 111 0 29 rfl) (fun j => f 254 0 j rfl) (fun j => f 256 0 j rfl), ZS__f h.2.2.2.2.2.2.2.2.2.2.1 f ⟨fun _ => rfl, fun _ => rfl, trivial⟩, gx_f (x := -1) (y := -1) h.2.2.2.2.2.2.2.2.2.2.2 f ⟨fun _ => rfl, fun _ => rfl, fun _ => rfl⟩ (fun j _ => f 254 0 j rfl) (Or.inl rfl)⟩
theorem ir_parted {T T' : Zt} {c d k : Int} {r : Option Zv} (h : IR_ T) (p : po_X11_parted T c d k T' r) : IR_ T' := by
  obtain ⟨x, rfl, f, q⟩ := p
  exact ⟨CW_f h.1 f ⟨fun _ => rfl, fun _ => rfl, fun _ => rfl, fun _ => rfl, fun _ => rfl⟩, RI__f h.2.1 f ⟨fun _ => rfl, rfl, trivial⟩, RW__f h.2.2.1 f ⟨fun _ => rfl, rfl, trivial⟩, EN__f h.2.2.2.1 f ⟨fun _ => rfl, fun _ => rfl, rfl, trivial⟩, ML__f h.2.2.2.2.1 f ⟨fun _ => rfl, fun _ => rfl, rfl, trivial⟩, MC__f h.2.2.2.2.2.1 f ⟨fun _ => rfl, rfl, rfl, trivial⟩, SH__f h.2.2.2.2.2.2.1 f ⟨fun _ => rfl, fun _ => rfl, fun _ => rfl, rfl, trivial⟩, FM__f h.2.2.2.2.2.2.2.1 f ⟨fun _ => rfl, fun _ => rfl, trivial⟩, rx_f h.2.2.2.2.2.2.2.2.1 (f 111 0 29 rfl) (f 111 0 47 rfl) (fun k j h => f k 0 j (by rcases h with rfl | rfl | rfl | rfl | rfl <;> rfl)), rz_f h.2.2.2.2.2.2.2.2.2.1 (f 111 0 29 rfl) (fun j => f 254 0 j rfl) (fun j => f 256 0 j rfl), ZS__f h.2.2.2.2.2.2.2.2.2.2.1 f ⟨fun _ => rfl, fun _ => rfl, trivial⟩, gx_f (x := -1) (y := -1) h.2.2.2.2.2.2.2.2.2.2.2 f ⟨fun _ => rfl, fun _ => rfl, fun _ => rfl⟩ (fun j _ => f 254 0 j rfl) (Or.inl rfl)⟩
theorem ir_can {T T' : Zt} {c cl : Int} {r : Option Zv} (h : IR_ T) (p : po_X11_can T c cl T' r) : IR_ T' := by
  obtain ⟨x, rfl, f, q⟩ := p
  exact ⟨CW_f h.1 f ⟨fun _ => rfl, fun _ => rfl, fun _ => rfl, fun _ => rfl, fun _ => rfl⟩, RI__f h.2.1 f ⟨fun _ => rfl, rfl, trivial⟩, RW__f h.2.2.1 f ⟨fun _ => rfl, rfl, trivial⟩, EN__f h.2.2.2.1 f ⟨fun _ => rfl, fun _ => rfl, rfl, trivial⟩, ML__f h.2.2.2.2.1 f ⟨fun _ => rfl, fun _ => rfl, rfl, trivial⟩, MC__f h.2.2.2.2.2.1 f ⟨fun _ => rfl, rfl, rfl, trivial⟩, SH__f h.2.2.2.2.2.2.1 f ⟨fun _ => rfl, fun _ => rfl, fun _ => rfl, rfl, trivial⟩, FM__f h.2.2.2.2.2.2.2.1 f ⟨fun _ => rfl, fun _ => rfl, trivial⟩, rx_f h.2.2.2.2.2.2.2.2.1 (f 111 0 29 rfl) (f 111 0 47 rfl) (fun k j h => f k 0 j (by rcases h with rfl | rfl | rfl | rfl | rfl <;> rfl)), rz_f h.2.2.2.2.2.2.2.2.2.1 (f 111 0 29 rfl) (fun j => f 254 0 j rfl) (fun j => f 256 0 j rfl), ZS__f h.2.2.2.2.2.2.2.2.2.2.1 f ⟨fun _ => rfl, fun _ => rfl, trivial⟩, gx_f (x := -1) (y := -1) h.2.2.2.2.2.2.2.2.2.2.2 f ⟨fun _ => rfl, fun _ => rfl, fun _ => rfl⟩ (fun j _ => f 254 0 j rfl) (Or.inl rfl)⟩
theorem ir_firsts {T T' : Zt} {c cl : Int} {r : Option Zv} (h : IR_ T) (p : po_X11_firsts T c cl T' r) : IR_ T' := by
  obtain ⟨x, rfl, f, q⟩ := p
  exact ⟨CW_f h.1 f ⟨fun _ => rfl, fun _ => rfl, fun _ => rfl, fun _ => rfl, fun _ => rfl⟩, RI__f h.2.1 f ⟨fun _ => rfl, rfl, trivial⟩, RW__f h.2.2.1 f ⟨fun _ => rfl, rfl, trivial⟩, EN__f h.2.2.2.1 f ⟨fun _ => rfl, fun _ => rfl, rfl, trivial⟩, ML__f h.2.2.2.2.1 f ⟨fun _ => rfl, fun _ => rfl, rfl, trivial⟩, MC__f h.2.2.2.2.2.1 f ⟨fun _ => rfl, rfl, rfl, trivial⟩, SH__f h.2.2.2.2.2.2.1 f ⟨fun _ => rfl, fun _ => rfl, fun _ => rfl, rfl, trivial⟩, FM__f h.2.2.2.2.2.2.2.1 f ⟨fun _ => rfl, fun _ => rfl, trivial⟩, rx_f h.2.2.2.2.2.2.2.2.1 (f 111 0 29 rfl) (f 111 0 47 rfl) (fun k j h => f k 0 j (by rcases h with rfl | rfl | rfl | rfl | rfl <;> rfl)), rz_f h.2.2.2.2.2.2.2.2.2.1 (f 111 0 29 rfl) (fun j => f 254 0 j rfl) (fun j => f 256 0 j rfl), ZS__f h.2.2.2.2.2.2.2.2.2.2.1 f ⟨fun _ => rfl, fun _ => rfl, trivial⟩, gx_f (x := -1) (y := -1) h.2.2.2.2.2.2.2.2.2.2.2 f ⟨fun _ => rfl, fun _ => rfl, fun _ => rfl⟩ (fun j _ => f 254 0 j rfl) (Or.inl rfl)⟩
theorem ir_drawing {T T' : Zt} {g l : Int} {r : Option Zv} (h : IR_ T) (p : po_X11_drawing T g l T' r) : IR_ T' := by
  obtain ⟨x, rfl, f, q⟩ := p
  exact ⟨CW_f h.1 f ⟨fun _ => rfl, fun _ => rfl, fun _ => rfl, fun _ => rfl, fun _ => rfl⟩, RI__f h.2.1 f ⟨fun _ => rfl, rfl, trivial⟩, RW__f h.2.2.1 f ⟨fun _ => rfl, rfl, trivial⟩, EN__f h.2.2.2.1 f ⟨fun _ => rfl, fun _ => rfl, rfl, trivial⟩, ML__f h.2.2.2.2.1 f ⟨fun _ => rfl, fun _ => rfl, rfl, trivial⟩, MC__f h.2.2.2.2.2.1 f ⟨fun _ => rfl, rfl, rfl, trivial⟩, SH__f h.2.2.2.2.2.2.1 f ⟨fun _ => rfl, fun _ => rfl, fun _ => rfl, rfl, trivial⟩, FM__f h.2.2.2.2.2.2.2.1 f ⟨fun _ => rfl, fun _ => rfl, trivial⟩, rx_f h.2.2.2.2.2.2.2.2.1 (f 111 0 29 rfl) (f 111 0 47 rfl) (fun k j h => f k 0 j (by rcases h with rfl | rfl | rfl | rfl | rfl <;> rfl)), rz_f h.2.2.2.2.2.2.2.2.2.1 (f 111 0 29 rfl) (fun j => f 254 0 j rfl) (fun j => f 256 0 j rfl), ZS__f h.2.2.2.2.2.2.2.2.2.2.1 f ⟨fun _ => rfl, fun _ => rfl, trivial⟩, gx_f (x := -1) (y := -1) h.2.2.2.2.2.2.2.2.2.2.2 f ⟨fun _ => rfl, fun _ => rfl, fun _ => rfl⟩ (fun j _ => f 254 0 j rfl) (Or.inl rfl)⟩
theorem ir_pot {T T' : Zt} {cl p : Int} {r : Option Zv} (h : IR_ T) (p : po_X11_pot T cl p T' r) : IR_ T' := by
  obtain ⟨x, rfl, f, q⟩ := p
  exact ⟨CW_f h.1 f ⟨fun _ => rfl, fun _ => rfl, fun _ => rfl, fun _ => rfl, fun _ => rfl⟩, RI__f h.2.1 f ⟨fun _ => rfl, rfl, trivial⟩, RW__f h.2.2.1 f ⟨fun _ => rfl, rfl, trivial⟩, EN__f h.2.2.2.1 f ⟨fun _ => rfl, fun _ => rfl, rfl, trivial⟩, ML__f h.2.2.2.2.1 f ⟨fun _ => rfl, fun _ => rfl, rfl, trivial⟩, MC__f h.2.2.2.2.2.1 f ⟨fun _ => rfl, rfl, rfl, trivial⟩, SH__f h.2.2.2.2.2.2.1 f ⟨fun _ => rfl, fun _ => rfl, fun _ => rfl, rfl, trivial⟩, FM__f h.2.2.2.2.2.2.2.1 f ⟨fun _ => rfl, fun _ => rfl, trivial⟩, rx_f h.2.2.2.2.2.2.2.2.1 (f 111 0 29 rfl) (f 111 0 47 rfl) (fun k j h => f k 0 j (by rcases h with rfl | rfl | rfl | rfl | rfl <;> rfl)), rz_f h.2.2.2.2.2.2.2.2.2.1 (f 111 0 29 rfl) (fun j => f 254 0 j rfl) (fun j => f 256 0 j rfl), ZS__f h.2.2.2.2.2.2.2.2.2.2.1 f ⟨fun _ => rfl, fun _ => rfl, trivial⟩, gx_f (x := -1) (y := -1) h.2.2.2.2.2.2.2.2.2.2.2 f ⟨fun _ => rfl, fun _ => rfl, fun _ => rfl⟩ (fun j _ => f 254 0 j rfl) (Or.inl rfl)⟩
theorem ir_ways {T T' : Zt} {r : Option Zv} (h : IR_ T) (p : po_X11_ways T  T' r) : IR_ T' := by
  obtain ⟨x, rfl, f, q⟩ := p
  exact ⟨CW_f h.1 f ⟨fun _ => rfl, fun _ => rfl, fun _ => rfl, fun _ => rfl, fun _ => rfl⟩, RI__f h.2.1 f ⟨fun _ => rfl, rfl, trivial⟩, RW__f h.2.2.1 f ⟨fun _ => rfl, rfl, trivial⟩, EN__f h.2.2.2.1 f ⟨fun _ => rfl, fun _ => rfl, rfl, trivial⟩, ML__f h.2.2.2.2.1 f ⟨fun _ => rfl, fun _ => rfl, rfl, trivial⟩, MC__f h.2.2.2.2.2.1 f ⟨fun _ => rfl, rfl, rfl, trivial⟩, SH__f h.2.2.2.2.2.2.1 f ⟨fun _ => rfl, fun _ => rfl, fun _ => rfl, rfl, trivial⟩, FM__f h.2.2.2.2.2.2.2.1 f ⟨fun _ => rfl, fun _ => rfl, trivial⟩, rx_f h.2.2.2.2.2.2.2.2.1 (f 111 0 29 rfl) (f 111 0 47 rfl) (fun k j h => f k 0 j (by rcases h with rfl | rfl | rfl | rfl | rfl <;> rfl)), rz_f h.2.2.2.2.2.2.2.2.2.1 (f 111 0 29 rfl) (fun j => f 254 0 j rfl) (fun j => f 256 0 j rfl), ZS__f h.2.2.2.2.2.2.2.2.2.2.1 f ⟨fun _ => rfl, fun _ => rfl, trivial⟩, gx_f (x := -1) (y := -1) h.2.2.2.2.2.2.2.2.2.2.2 f ⟨fun _ => rfl, fun _ => rfl, fun _ => rfl⟩ (fun j _ => f 254 0 j rfl) (Or.inl rfl)⟩
theorem ir_chance {T T' : Zt} {cl g : Int} {r : Option Zv} (h : IR_ T) (p : po_X11_chance T cl g T' r) : IR_ T' := by
  obtain ⟨x, rfl, f, q⟩ := p
  exact ⟨CW_f h.1 f ⟨fun _ => rfl, fun _ => rfl, fun _ => rfl, fun _ => rfl, fun _ => rfl⟩, RI__f h.2.1 f ⟨fun _ => rfl, rfl, trivial⟩, RW__f h.2.2.1 f ⟨fun _ => rfl, rfl, trivial⟩, EN__f h.2.2.2.1 f ⟨fun _ => rfl, fun _ => rfl, rfl, trivial⟩, ML__f h.2.2.2.2.1 f ⟨fun _ => rfl, fun _ => rfl, rfl, trivial⟩, MC__f h.2.2.2.2.2.1 f ⟨fun _ => rfl, rfl, rfl, trivial⟩, SH__f h.2.2.2.2.2.2.1 f ⟨fun _ => rfl, fun _ => rfl, fun _ => rfl, rfl, trivial⟩, FM__f h.2.2.2.2.2.2.2.1 f ⟨fun _ => rfl, fun _ => rfl, trivial⟩, rx_f h.2.2.2.2.2.2.2.2.1 (f 111 0 29 rfl) (f 111 0 47 rfl) (fun k j h => f k 0 j (by rcases h with rfl | rfl | rfl | rfl | rfl <;> rfl)), rz_f h.2.2.2.2.2.2.2.2.2.1 (f 111 0 29 rfl) (fun j => f 254 0 j rfl) (fun j => f 256 0 j rfl), ZS__f h.2.2.2.2.2.2.2.2.2.2.1 f ⟨fun _ => rfl, fun _ => rfl, trivial⟩, gx_f (x := -1) (y := -1) h.2.2.2.2.2.2.2.2.2.2.2 f ⟨fun _ => rfl, fun _ => rfl, fun _ => rfl⟩ (fun j _ => f 254 0 j rfl) (Or.inl rfl)⟩
theorem ir_ball {T T' : Zt} {ta fi : Int} {r : Option Zv} (h : IR_ T) (p : po_X11_ball T ta fi T' r) : IR_ T' := by
  obtain ⟨x, rfl, f, q⟩ := p
  exact ⟨CW_f h.1 f ⟨fun _ => rfl, fun _ => rfl, fun _ => rfl, fun _ => rfl, fun _ => rfl⟩, RI__f h.2.1 f ⟨fun _ => rfl, rfl, trivial⟩, RW__f h.2.2.1 f ⟨fun _ => rfl, rfl, trivial⟩, EN__f h.2.2.2.1 f ⟨fun _ => rfl, fun _ => rfl, rfl, trivial⟩, ML__f h.2.2.2.2.1 f ⟨fun _ => rfl, fun _ => rfl, rfl, trivial⟩, MC__f h.2.2.2.2.2.1 f ⟨fun _ => rfl, rfl, rfl, trivial⟩, SH__f h.2.2.2.2.2.2.1 f ⟨fun _ => rfl, fun _ => rfl, fun _ => rfl, rfl, trivial⟩, FM__f h.2.2.2.2.2.2.2.1 f ⟨fun _ => rfl, fun _ => rfl, trivial⟩, rx_f h.2.2.2.2.2.2.2.2.1 (f 111 0 29 rfl) (f 111 0 47 rfl) (fun k j h => f k 0 j (by rcases h with rfl | rfl | rfl | rfl | rfl <;> rfl)), rz_f h.2.2.2.2.2.2.2.2.2.1 (f 111 0 29 rfl) (fun j => f 254 0 j rfl) (fun j => f 256 0 j rfl), ZS__f h.2.2.2.2.2.2.2.2.2.2.1 f ⟨fun _ => rfl, fun _ => rfl, trivial⟩, gx_f (x := -1) (y := -1) h.2.2.2.2.2.2.2.2.2.2.2 f ⟨fun _ => rfl, fun _ => rfl, fun _ => rfl⟩ (fun j _ => f 254 0 j rfl) (Or.inl rfl)⟩
theorem ir_assign {T T' : Zt} {d : Int} {r : Option Zv} (h : IR_ T) (p : po_X11_assign T d T' r) : IR_ T' := by
  obtain ⟨x, rfl, f, q⟩ := p
  exact ⟨CW_f h.1 f ⟨fun _ => rfl, fun _ => rfl, fun _ => rfl, fun _ => rfl, fun _ => rfl⟩, RI__f h.2.1 f ⟨fun _ => rfl, rfl, trivial⟩, RW__f h.2.2.1 f ⟨fun _ => rfl, rfl, trivial⟩, EN__f h.2.2.2.1 f ⟨fun _ => rfl, fun _ => rfl, rfl, trivial⟩, ML__f h.2.2.2.2.1 f ⟨fun _ => rfl, fun _ => rfl, rfl, trivial⟩, MC__f h.2.2.2.2.2.1 f ⟨fun _ => rfl, rfl, rfl, trivial⟩, SH__f h.2.2.2.2.2.2.1 f ⟨fun _ => rfl, fun _ => rfl, fun _ => rfl, rfl, trivial⟩, FM__f h.2.2.2.2.2.2.2.1 f ⟨fun _ => rfl, fun _ => rfl, trivial⟩, rx_f h.2.2.2.2.2.2.2.2.1 (f 111 0 29 rfl) (f 111 0 47 rfl) (fun k j h => f k 0 j (by rcases h with rfl | rfl | rfl | rfl | rfl <;> rfl)), rz_f h.2.2.2.2.2.2.2.2.2.1 (f 111 0 29 rfl) (fun j => f 254 0 j rfl) (fun j => f 256 0 j rfl), ZS__f h.2.2.2.2.2.2.2.2.2.2.1 f ⟨fun _ => rfl, fun _ => rfl, trivial⟩, gx_f (x := -1) (y := -1) h.2.2.2.2.2.2.2.2.2.2.2 f ⟨fun _ => rfl, fun _ => rfl, fun _ => rfl⟩ (fun j _ => f 254 0 j rfl) (Or.inl rfl)⟩
theorem ir_plan {T T' : Zt} {c g : Int} {r : Option Zv} (hT : ok_T T) (h : IR_ T) (p : po_X11_plan_k T c g T' r) : IR_ T' := by
  obtain ⟨x, rfl, f, q⟩ := p
  rcases q with ⟨-, e⟩ | ⟨c0, c1, a, l4, e1, e2, e3⟩
  · rw [← e]; exact h
  · have hb_29 : 0 ≤ T 111 0 29 ∧ T 111 0 29 ≤ 400 := bd_f hT 111 29 (by decide +kernel : (tf_ 111)[29]? = some (0, 0, 0, 400)) 0
    have rx := rx_am h.2.2.2.2.2.2.2.2.1 h.2.2.2.2.2.2.2.2.2.1 (by omega) a.1 l4 (f 111 0 47 rfl) (fun z => f 252 0 z rfl) (fun j => f 254 0 j rfl) (fun j => f 256 0 j rfl) (fun j hj => ⟨(a.2.1 j hj).2.2.2.2.2.2.2.1, (a.2.1 j hj).2.2.2.2.2.2.2.2⟩) (fun j u v => (a.2.2.1 j u v).2.2)
    exact ⟨CW_f h.1 f ⟨fun _ => rfl, fun _ => rfl, fun _ => rfl, fun _ => rfl, fun _ => rfl⟩, RI__f h.2.1 f ⟨fun _ => rfl, rfl, trivial⟩, RW__f h.2.2.1 f ⟨fun _ => rfl, rfl, trivial⟩, EN__f h.2.2.2.1 f ⟨fun _ => rfl, fun _ => rfl, rfl, trivial⟩, ml_p h.2.2.2.2.1 a.1 e1 e2 e3, mc_p h.2.2.2.2.2.1 c1 a (f 111 0 6 rfl), sh_p h.2.2.2.2.2.2.1 h.2.1 ⟨c0, c1⟩ a (fun j => f 239 0 j rfl) (fun j => f 205 0 j rfl), fm_p h.2.2.2.2.2.2.2.1 a (fun j => f 244 0 j rfl), rx.1, rx.2, ZS__f h.2.2.2.2.2.2.2.2.2.2.1 f ⟨fun _ => rfl, fun _ => rfl, trivial⟩, gx_f (x := -1) (y := -1) h.2.2.2.2.2.2.2.2.2.2.2 f ⟨fun _ => rfl, fun _ => rfl, fun _ => rfl⟩ (fun j _ => f 254 0 j rfl) (Or.inl rfl)⟩
-- Math.max, min and abs of ints, by the library's contracts
section J2
variable {Y : Zm} {T0 T : Zt} {P : Zt → Option Zv → Prop} {bc bs : Nat} {pc : Int} {ls : Zl} {rest : List Zv}
theorem j_mx {idx : Nat} {a b : Int} (hml : Cond.methodLink Y.1 idx Lib.Math.max.name ∈ lw_g) (hst : Cond.static Lib.Math.max.name ∈ lw_g) (hin : Cond.initialized "java/lang/Math" ∈ lw_g) (hco : Cond.code Lib.Math.max.name Lib.Math.max.code 2 (some .int) ∈ lw_g) (hd : decode Y.2.1 pc.toNat = .ok (.invokestatic idx, 3)) (hp : 0 ≤ pc) (hf : 1 ≤ Y.2.2.2.2.frames) (hlo : 21 ≤ Y.2.2.2.2.locals) (hrest : rest.length ≤ 4)
    (k : J_ Y T0 P bc bs (pc + 3) ls (vI (if a < b then b else a) :: rest) T) : J_ Y T0 P bc bs pc ls (vI b :: vI a :: rest) T := by
  intro l p e s m args below meth c D cA ad0 A X ad H locs cells slots lsC hc hs hR hS hB hT hL hl hln
  have ab : -2147483648 ≤ b ∧ b ≤ 2147483647 := ok_head hL
  have aa : -2147483648 ≤ a ∧ a ≤ 2147483647 := ok_head (ok_tail hL)
  have w := X.2.2.2.2.2.1
  have sm := en_sum (ad := ad) rest
  have kk := k l p e s m args below meth c D cA ad0 A X ad H locs cells slots lsC hc hs hR hS hB hT (ok_push (show ok_v T (vI (if a < b then b else a)) from (by split; exact ab; exact aa)) (ok_tail (ok_tail hL))) hl hln
  refine va_mmax (x := Int32.ofInt a) (y := Int32.ofInt b) X.1 X.2.1 (X.2.2.1.trans hl.1.symm) X.2.2.2.2.2.2.1 (w _ hml) (w _ hst) (w _ hin) (w _ hco) hf (by omega) (by omega) (by omega) hd ?_
  have e1 : (if Int32.ofInt a < Int32.ofInt b then Int32.ofInt b else Int32.ofInt a) = Int32.ofInt (if a < b then b else a) := by
    by_cases z : a < b
    · rw [if_pos z, if_pos ((i3_lt aa ab).mpr z)]
    · rw [if_neg z, if_neg (fun q => z ((i3_lt aa ab).mp q))]
  rw [e1]
  rw [show (pc + 3).toNat = pc.toNat + 3 by omega] at kk
  exact kk
end J2
section J3
variable {Y : Zm} {T0 T : Zt} {P : Zt → Option Zv → Prop} {bc bs : Nat} {pc : Int} {ls : Zl} {rest : List Zv}
theorem j_mn {idx : Nat} {a b : Int} (hml : Cond.methodLink Y.1 idx Lib.Math.min.name ∈ lw_g) (hst : Cond.static Lib.Math.min.name ∈ lw_g) (hin : Cond.initialized "java/lang/Math" ∈ lw_g) (hco : Cond.code Lib.Math.min.name Lib.Math.min.code 2 (some .int) ∈ lw_g) (hd : decode Y.2.1 pc.toNat = .ok (.invokestatic idx, 3)) (hp : 0 ≤ pc) (hf : 1 ≤ Y.2.2.2.2.frames) (hlo : 21 ≤ Y.2.2.2.2.locals) (hrest : rest.length ≤ 4)
    (k : J_ Y T0 P bc bs (pc + 3) ls (vI (if b < a then b else a) :: rest) T) : J_ Y T0 P bc bs pc ls (vI b :: vI a :: rest) T := by
  intro l p e s m args below meth c D cA ad0 A X ad H locs cells slots lsC hc hs hR hS hB hT hL hl hln
  have ab : -2147483648 ≤ b ∧ b ≤ 2147483647 := ok_head hL
  have aa : -2147483648 ≤ a ∧ a ≤ 2147483647 := ok_head (ok_tail hL)
  have w := X.2.2.2.2.2.1
  have sm := en_sum (ad := ad) rest
  have kk := k l p e s m args below meth c D cA ad0 A X ad H locs cells slots lsC hc hs hR hS hB hT (ok_push (show ok_v T (vI (if b < a then b else a)) from (by split; exact ab; exact aa)) (ok_tail (ok_tail hL))) hl hln
  refine va_mmin (x := Int32.ofInt a) (y := Int32.ofInt b) X.1 X.2.1 (X.2.2.1.trans hl.1.symm) X.2.2.2.2.2.2.1 (w _ hml) (w _ hst) (w _ hin) (w _ hco) hf (by omega) (by omega) (by omega) hd ?_
  have e1 : (if Int32.ofInt b < Int32.ofInt a then Int32.ofInt b else Int32.ofInt a) = Int32.ofInt (if b < a then b else a) := by
    by_cases z : b < a
    · rw [if_pos z, if_pos ((i3_lt ab aa).mpr z)]
    · rw [if_neg z, if_neg (fun q => z ((i3_lt ab aa).mp q))]
  rw [e1]
  rw [show (pc + 3).toNat = pc.toNat + 3 by omega] at kk
  exact kk
theorem j_ab {idx : Nat} {a : Int} (ha : -2147483647 ≤ a) (hml : Cond.methodLink Y.1 idx Lib.Math.abs.name ∈ lw_g) (hst : Cond.static Lib.Math.abs.name ∈ lw_g) (hin : Cond.initialized "java/lang/Math" ∈ lw_g) (hco : Cond.code Lib.Math.abs.name Lib.Math.abs.code 1 (some .int) ∈ lw_g) (hd : decode Y.2.1 pc.toNat = .ok (.invokestatic idx, 3)) (hp : 0 ≤ pc) (hf : 1 ≤ Y.2.2.2.2.frames) (hlo : 21 ≤ Y.2.2.2.2.locals) (hrest : rest.length ≤ 4)
    (k : J_ Y T0 P bc bs (pc + 3) ls (vI (if 0 ≤ a then a else -a) :: rest) T) : J_ Y T0 P bc bs pc ls (vI a :: rest) T := by
  intro l p e s m args below meth c D cA ad0 A X ad H locs cells slots lsC hc hs hR hS hB hT hL hl hln
  have aa : -2147483648 ≤ a ∧ a ≤ 2147483647 := ok_head hL
  have w := X.2.2.2.2.2.1
  have sm := en_sum (ad := ad) rest
  have kk := k l p e s m args below meth c D cA ad0 A X ad H locs cells slots lsC hc hs hR hS hB hT (ok_push (show ok_v T (vI (if 0 ≤ a then a else -a)) from (by split; exact aa; exact ⟨by omega, by omega⟩)) (ok_tail hL)) hl hln
  refine va_mabs (x := Int32.ofInt a) X.1 X.2.1 (X.2.2.1.trans hl.1.symm) X.2.2.2.2.2.2.1 (w _ hml) (w _ hst) (w _ hin) (w _ hco) hf (by omega) (by omega) (by omega) hd ?_
  have e1 : (if 0 ≤ Int32.ofInt a then Int32.ofInt a else 0 - Int32.ofInt a) = Int32.ofInt (if 0 ≤ a then a else -a) := by
    have z0 : (0 : Int32) ≤ Int32.ofInt a ↔ 0 ≤ a := by
      rw [Int32.le_iff_toInt_le, i3_t aa.1 aa.2]; exact Iff.rfl
    by_cases z : 0 ≤ a
    · rw [if_pos z, if_pos (z0.mpr z)]
    · rw [if_neg z, if_neg (fun q => z (z0.mp q)), Int32.ofInt_neg]; exact Int32.zero_sub _
  rw [e1]
  rw [show (pc + 3).toNat = pc.toNat + 3 by omega] at kk
  exact kk
end J3
-- a static call of the nest's host: SportsHouse.isSide, out of Play
section J4
variable {Y Yc : Zm} {T0 T : Zt} {P : Zt → Option Zv → Prop} {bc bs : Nat} {pc : Int} {ls : Zl} {rest : List Zv} {Qp : Zt → Option Zv → Prop}
abbrev yN_ : MethodName := ⟨"SportsHouse", "isSide", "(I)Z"⟩
def cn_ (Yc : Zm) (n : Nat) : Prop := GoodIn lw_g (.code yN_ Yc.2.1 Yc.2.2.1 Yc.2.2.2.1 :: lw_g) ∧ Cond.static yN_ ∈ lw_g ∧ Cond.initialized "SportsHouse" ∈ lw_g ∧ (yN_.cls ≠ "java/lang/invoke/MethodHandle" ∧ yN_.cls ≠ "java/lang/invoke/VarHandle" ∧ (parseMethodDescriptor yN_.desc).map (fun d => d.parameters.length) = some n)
theorem j_callN {n : Nat} (as : List Zv) (hY1 : Y.1 = "SportsHouse$Play") (hC : Ct_ yN_ Yc T as Qp) (hcv : cn_ Yc n) (hd : decode Y.2.1 pc.toNat = .ok (.invokestatic 89, 3)) (hp : 0 ≤ pc) (hn : as.length = n) (hrm : rf_ Yc Y = true) (hrest : rest.length ≤ 4) (hmc : Yc.2.2.2.2.cells ≤ bc) (hms : Yc.2.2.2.2.slots ≤ bs) {st0 : List Zv} (hst : st0 = as.reverse ++ rest) (kk : ∀ (T' : Zt) (r : Option Zv), Qp T' r → J_ Y T0 P (bc - Yc.2.2.2.2.cells) (bs - Yc.2.2.2.2.slots) (pc + 3) ls (r.toList ++ rest) T') : J_ Y T0 P bc bs pc ls st0 T := by
  subst hst
  intro l p e s m args below meth c D cA ad0 A X ad H locs cells slots lsC hc hs hR hS hB hT hL hl hln
  obtain ⟨hG, hst, hini, hdd⟩ := hcv
  simp only [rf_, Bool.and_eq_true, decide_eq_true_eq] at hrm
  have hLr : ok_l T ls rest := ⟨hL.1, fun v hv => hL.2 v (by simp [hv])⟩
  have hAA : ∀ q, A_ ad T H.size q → A q := by
    rintro q (⟨k, i, ha, rfl⟩ | h)
    · exact Rp_in hR ha
    · exact X.2.2.2.2.2.2.2.2.2.1 q (Nat.le_trans hS.1 h)
  have w := X.2.2.2.2.2.1
  have hN : va_Nw (.methodLinkNest Y.1 89 yN_ "SportsHouse") s := by
    rw [hY1]
    exact X.2.2.2.2.2.2.2.2.1.2.2.2.2.2
  refine j_back X hc hs hR hS hB hLr hl hln hp hmc hms (va_runSN (host := "SportsHouse") (As := as.map (en_v ad)) (rest := rest.map (en_v ad)) ⟨X.1, X.2.1, X.2.2.1, X.2.2.2.2.2.2.1, X.2.2.2.2.2.1⟩ (hC l D cA ad H.size) ⟨va_cnB n w hG rfl rfl rfl hN (w _ hini) hdd hrm, w _ hst, trivial⟩ ⟨pc_blind, fun U hU hW => ⟨rfl, by rw [hU], by rw [hU]; exact Rp_A hR (fun _ _ _ _ => trivial), va_K.moved hW.alike X.2.2.2.2.2.2.2.1, ex_warm hW X.2.2.2.2.2.2.2.2.1, se_call X.2.2.2.2.2.2.2.2.2.2.1 hS hAA hU hW (fun k i hk => hB.2 k i (Or.inl hk)), hT, fun v hv => hL.2 v (by simp [hv])⟩⟩ rfl (by rw [List.length_map]; exact hn) (hl.1) ?_ (lv_room ?_) hd ⟨by omega, by omega⟩) (fun T' r h => kk T' r h)
  · show List.map (en_v ad) (as.reverse ++ rest) = _
    rw [List.map_append, List.map_reverse]
  · have := en_sum (ad := ad) rest
    omega
end J4
-- a reference put into a field (contest): the picture keeps the index and one
section J5
variable {Y : Zm} {T0 T : Zt} {P : Zt → Option Zv → Prop} {bc bs : Nat} {pc : Int} {ls : Zl} {st : List Zv}
theorem ok_upR {T : Zt} (hT : ok_T T) {k j k1 c0 : Nat} {lo hi : Int} (hf : (tf_ k)[j]? = some (c0, k1, lo, hi)) {i x : Int} (h1 : lo ≤ x) (h2 : x ≤ hi) (hv : ok_v T (fv_ c0 k1 x i)) : ok_T (up_ T k i (j : Int) x) := by
  obtain ⟨a1, a2, a3, a4, a5, a6, a7, a8, a9⟩ := hT
  have hal := al_up (T := T) (k := k) (i := i) (j := (j : Int)) (x := x) (by omega)
  have hk := tf_lt hf
  refine ⟨fun k' t' n' lo' hi' h i' x' hx => ?_, fun k' j' c k'' lo' hi' h i' => ?_, fun i' => ?_, fun k' i' hl j' c k'' lo' hi' h => ?_, fun i' x' hx' h => ?_, fun i' x' hx' h => ?_, fun k' i' h q => ?_, fun k' i' o h q => (a8 k' i' o h ((hal _ _).mp q)).imp (hal _ _).mpr (hal _ _).mpr, fun i' h q => a9 i' (by rw [up_n (fun e => by omega)] at h; exact h) ((hal _ _).mp q)⟩
  · rw [up_n (fun e => by rw [e.1, tf_ta hf] at h; cases h)]
    exact a1 k' t' n' lo' hi' h i' x' hx
  · by_cases e : k' = k ∧ i' = i ∧ (j' : Int) = (j : Int)
    · obtain ⟨rfl, rfl, e3⟩ := e
      have e3 : j' = j := by omega
      subst e3
      rw [hf] at h
      cases h
      rw [up_s]
      exact ⟨h1, h2⟩
    · rw [up_n e]
      exact a2 k' j' c k'' lo' hi' h i'
  · rw [up_n (fun e => by omega)]
    exact a3 i'
  · by_cases e : k' = k ∧ i' = i ∧ (j' : Int) = (j : Int)
    · obtain ⟨rfl, rfl, e3⟩ := e
      have e3 : j' = j := by omega
      subst e3
      rw [hf] at h
      cases h
      rw [up_s]
      exact okv_mono (fun k i => (hal k i).mpr) hv
    · rw [up_n e]
      exact okv_mono (fun k i => (hal k i).mpr) (a4 k' i' ((hal k' i').mp hl) j' c k'' lo' hi' h)
  · rw [up_n (fun e => by omega)] at h
    exact (hal _ _).mpr (a5 i' x' hx' h)
  · rw [up_n (fun e => by omega)] at h
    exact (hal _ _).mpr (a6 i' x' hx' h)
  · exact a7 k' i' h ((hal _ _).mp q)
-- cells
def fr5_ (own : String) (idx ci j : Nat) : Prop := ∃ (C : String) (Tb : u_T) (N : Nat), vwCl[ci]? = some (C, Tb, N) ∧ j < N ∧ N = (tf_ (100 + ci)).length ∧ Cond.fieldLink own idx (Tb j).1 (Tb j).2.1 (Tb j).2.2.1 ∈ lw_g ∧ (Tb j).2.2.2 = false ∧ ∀ a : Nat, ∃ ty, parseFieldDescriptor (Tb j).2.2.1 = some ty ∧ narrow ty (.ref a) = .ref a ∧ fits ty (.ref a) = true
/-- a reference is put into a field that holds an index and one -/
theorem j_putR {ci j k' idx : Nat} {lo hi i x : Int} (hp : 0 ≤ pc) (hf : fr5_ Y.1 idx ci j) (ht : (tf_ (100 + ci))[j]? = some (5, k', lo, hi)) (hd : decode Y.2.1 pc.toNat = .ok (.putfield idx, 3)) (h0 : 0 ≤ x) (h1 : lo ≤ x + 1) (h2 : x + 1 ≤ hi) (k : J_ Y T0 P bc bs (pc + 3) ls st (up_ T (100 + ci) i (j : Int) (x + 1))) : J_ Y T0 P bc bs pc ls (vR k' x :: vR (100 + ci) i :: st) T := by
  intro l p e s m args below meth c0 D cA ad0 A X ad H locs cells slots lsC hc hs hR hS hB hT hL hl hn
  have hal : al_ T (100 + ci) i := ok_al (v := none) (by omega) (ok_head (ok_tail hL))
  have hup := al_up (T := T) (k := 100 + ci) (i := i) (j := (j : Int)) (x := x + 1) (by omega)
  obtain ⟨ids, q0, hq, hids, hP, hD⟩ := rp_at hR hal
  obtain ⟨C, Tb, N, hC, hjN, hN, hlk, hfin, hds⟩ := hf
  obtain ⟨hin, ⟨ty0, hty⟩, hnm⟩ := cl_in hC
  have hw := wd_get (cA := cA) (ad := ad) (T := T) hq
  rw [ce_ob (cl_lt hC)] at hw
  obtain ⟨ty, hty1, hnar, hfit⟩ := hds (ad k' x)
  have ev : fv_ 5 k' (x + 1) i = vR k' x := by
    show (if x + 1 = 0 then vN else vR k' (x + 1 - 1)) = _
    rw [if_neg (by omega), show x + 1 - 1 = x by omega]
  refine va_put (D := D) (ci := ci) (C := C) (T := Tb) (N := N) (own := Y.1) (ref := (Tb j).1) (index := idx) (ty := ty) (v := .ref (ad k' x)) X.1 X.2.1 X.2.2.2.2.2.1 hin ty0 hty hnm X.2.2.2.2.2.2.1 X.2.2.2.2.2.2.2.1 hP hD hS q0 hw hC j hjN (X.2.2.2.2.2.1 _ hlk) (fun _ h => h) hfin hty1 hnar hfit (by rw [List.length_map, List.length_zipIdx, ← hN]; exact hjN) hd (fun H1 locs1 hP1 hD1 hS1 => ?_)
  have e1 : ((tf_ (100 + ci)).zipIdx.map fun q => en_v ad (fv_ q.1.1 q.1.2.1 (T (100 + ci) i (q.2 : Int)) i)).set j (.ref (ad k' x)) = (tf_ (100 + ci)).zipIdx.map fun q => en_v ad (fv_ q.1.1 q.1.2.1 (up_ T (100 + ci) i (j : Int) (x + 1) (100 + ci) i (q.2 : Int)) i) := by
    apply List.ext_getElem?
    intro n
    rw [List.getElem?_set]
    by_cases en : j = n
    · subst en
      rw [if_pos rfl, if_pos (by rw [List.length_map, List.length_zipIdx, ← hN]; exact hjN), fs_at (T := up_ T (100 + ci) i (j : Int) (x + 1)) ht, up_s, ev]
      rfl
    · rw [if_neg en, List.getElem?_map, List.getElem?_map, List.getElem?_zipIdx]
      cases hn9 : (tf_ (100 + ci))[n]? with
      | none => rfl
      | some q =>
        simp only [Option.map_some]
        rw [up_n (fun q => by omega)]
  have e2 : (wd_ cA ad T ids).set q0 (ad (100 + ci) i, .inr (ci, ((tf_ (100 + ci)).zipIdx.map fun q => en_v ad (fv_ q.1.1 q.1.2.1 (T (100 + ci) i (q.2 : Int)) i)).set j (.ref (ad k' x)))) = wd_ cA ad (up_ T (100 + ci) i (j : Int) (x + 1)) ids := by
    rw [e1, ← ce_ob (cl_lt hC) (T := up_ T (100 + ci) i (j : Int) (x + 1)) (cA := cA)]
    exact wd_set hD hq (fun k' i' h => up_o h)
  rw [e2] at hP1 hD1
  have k2 := k l p e s m args below meth c0 D cA ad0 A X ad H1 locs1 cells slots lsC hc hs ⟨ids, fun k i => (hup k i).trans (hids k i), hP1, hD1⟩ hS1 ⟨fun k i h => (hup k i).mpr (hB.1 k i h), hB.2⟩ (ok_upR hT ht h1 h2 (by rw [ev]; exact ok_head hL)) ⟨fun k9 v h => okv_mono (fun k i => (hup k i).mpr) (hL.1 k9 v h), fun v h => okv_mono (fun k i => (hup k i).mpr) ((ok_tail (ok_tail hL)).2 v h)⟩ hl hn
  rw [show (pc + 3).toNat = pc.toNat + 3 by omega] at k2
  exact k2
theorem j_nm {U : Zt} (h : ∀ V, V = U → J_ Y T0 P bc bs pc ls st V) : J_ Y T0 P bc bs pc ls st U := h U rfl
end J5
