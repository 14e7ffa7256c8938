abbrev cX11_competition : ByteArray := prog_13_method_18_code
def yX11_competition : MethodName := ⟨RX11, "competition", "()I"⟩
def zX11_competition : Zm := (RX11, cX11_competition, 3, (some .int), { frames := 5, cells := 0, slots := 0, locals := 107 })
theorem bk_X11_competition_113 : ck_ fX11 (some .int) cX11_competition 113 [.iload 2, .iconst 23, .if_icmp .ge 145, .aload 0, .tableswitch 0 11 5 #[], .iconst 23, .aload 0, .tableswitch 0 11 6 #[], .imul, .iload 2, .iadd, .aload 0, .tableswitch 0 11 4 #[], .iload 2, .iaload, .iastore, .iinc 2 1, .goto 113] 145 = true := by decide +kernel
theorem bk_X11_competition_145 : ck_ fX11 (some .int) cX11_competition 145 [.aload 0, .dup, .tableswitch 0 11 6 #[], .iconst 1, .iadd, .tableswitch 1 11 6 #[], .aload 0, .tableswitch 0 11 6 #[], .iconst 1, .isub, .ireturn] 162 = true := by decide +kernel
theorem bk_X11_competition_83 : ck_ fX11 (some .int) cX11_competition 83 [.aload 0, .iconst 0, .tableswitch 1 11 1 #[], .aload 0, .aload 0, .tableswitch 0 11 63 #[], .tableswitch 1 11 2 #[], .aload 0, .tableswitch 0 11 62 #[], .ifCond .eq 111, .iconst (-10), .aload 0, .tableswitch 0 11 62 #[], .isub, .ireturn] 111 = true := by decide +kernel
theorem bk_X11_competition_111 : ck_ fX11 (some .int) cX11_competition 111 [.iconst 0, .istore 2] 113 = true := by decide +kernel
theorem bk_X11_competition_70 : ck_ fX11 (some .int) cX11_competition 70 [.iconst 0, .istore 1, .iload 1, .ifCond .eq 37, .aload 0] 77 = true := by decide +kernel
theorem cl_X11_314 : cv_ RX11 314 yX11_readStatement zX11_readStatement 11 0 := ⟨gi_V (lw_at 1804 (by decide +kernel) rfl : Cond.methodLink RX11 314 yX11_readStatement ∈ lw_g) (lw_at 1806 (by decide +kernel) rfl : Cond.instanceMethod yX11_readStatement ∈ lw_g) (lw_sel 56 rfl : Cond.selects yX11_readStatement.cls yX11_readStatement yX11_readStatement ∈ lw_g) (lw_at 10 (by decide +kernel) rfl : Cond.initialized yX11_readStatement.cls ∈ lw_g) (lw_at 1807 (by decide +kernel) rfl : Cond.code yX11_readStatement cX11_readStatement 2 none ∈ lw_g), ⟨by decide, by decide, by decide +kernel⟩, ⟨_, _, rfl⟩⟩
theorem bk_X11_competition_80 : ck_ fX11 (some .int) cX11_competition 80 [.goto 37] 83 = true := by decide +kernel
theorem bk_X11_competition_37 : ck_ fX11 (some .int) cX11_competition 37 [.iload 1, .ifCond .eq 83, .aload 0, .tableswitch 0 11 62 #[], .ifCond .ne 83, .aload 0] 49 = true := by decide +kernel
theorem bk_X11_competition_52 : ck_ fX11 (some .int) cX11_competition 52 [.aload 0, .tableswitch 0 11 62 #[], .ifCond .ne 70, .aload 0, .tableswitch 0 11 58 #[], .ifCond .eq 70, .iconst 1, .goto 71] 70 = true := by decide +kernel
theorem bk_X11_competition_71 : ck_ fX11 (some .int) cX11_competition 71 [.istore 1, .iload 1, .ifCond .eq 37, .aload 0] 77 = true := by decide +kernel
theorem bk_X11_competition_0 : ck_ fX11 (some .int) cX11_competition 0 [.aload 0, .tableswitch 0 11 6 #[], .iconst 4, .if_icmp .ne 16, .aload 0, .iconst (-1), .tableswitch 1 11 2 #[], .iconst (-5), .ireturn] 16 = true := by decide +kernel
theorem bk_X11_competition_16 : ck_ fX11 (some .int) cX11_competition 16 [.aload 0, .iconst 0, .tableswitch 1 11 57 #[], .aload 0, .iconst 0, .tableswitch 1 11 62 #[], .aload 0, .iconst (-1), .tableswitch 1 11 63 #[], .aload 0] 32 = true := by decide +kernel
theorem cl_X11_311 : cv_ RX11 311 yX11_layDefaults zX11_layDefaults 11 0 := ⟨gi_V (lw_at 1786 (by decide +kernel) rfl : Cond.methodLink RX11 311 yX11_layDefaults ∈ lw_g) (lw_at 1788 (by decide +kernel) rfl : Cond.instanceMethod yX11_layDefaults ∈ lw_g) (lw_sel 33 rfl : Cond.selects yX11_layDefaults.cls yX11_layDefaults yX11_layDefaults ∈ lw_g) (lw_at 10 (by decide +kernel) rfl : Cond.initialized yX11_layDefaults.cls ∈ lw_g) (lw_at 1789 (by decide +kernel) rfl : Cond.code yX11_layDefaults cX11_layDefaults 2 none ∈ lw_g), ⟨by decide, by decide, by decide +kernel⟩, ⟨_, _, rfl⟩⟩
theorem bk_X11_competition_35 : ck_ fX11 (some .int) cX11_competition 35 [.iconst 1, .istore 1] 37 = true := by decide +kernel
abbrev po_X11_competition (T : Zt) : Zt → Option Zv → Prop := fun T' r => ∃ x : Int, r = some (vI x) ∧ fr_ [(111, [1, 2, 6, 57, 58, 59, 60, 61, 62, 63]), (204, []), (269, []), (270, []), (205, [])] T T' ∧ ((x < 0 ∧ T' 111 0 6 = T 111 0 6 ∨ x = T 111 0 6 ∧ T' 111 0 6 = x + 1) ∧ RI_ T' ∧ RW_ T')
set_option maxHeartbeats 4000000 in
theorem ct_X11_competition {T : Zt} (hC : CW_ T) (hRI : RI_ T) (hRW : RW_ T) : Ct_ yX11_competition zX11_competition T [vR 111 0] (po_X11_competition T) := by
  refine ct_of (by decide) rfl rfl (Nat.le_of_ble_eq_true rfl) (fun hT hav => ?_)
  have hz : zX11_competition.2.2.2.1 = some .boolean → ∀ (T' : Zt) (x : Int), po_X11_competition T T' (some (vI x)) → 0 ≤ x ∧ x ≤ 1 := fun h => by cases h
  have hb_1 : 0 ≤ T 111 0 1 ∧ T 111 0 1 ≤ 400 := bd_f hT 111 1 (by decide +kernel : (tf_ 111)[1]? = some (0, 0, 0, 400)) 0
  have hb_6 : 0 ≤ T 111 0 6 ∧ T 111 0 6 ≤ 4 := bd_f hT 111 6 (by decide +kernel : (tf_ 111)[6]? = some (0, 0, 0, 4)) 0
  show J_ zX11_competition T (po_X11_competition T) 0 0 0 [some (vR 111 0), none, none] [] T
  have c_83 : ∀ (T4 : Zt), (fr_ [(111, [57, 58, 59, 60, 61, 62, 63]), (204, []), (269, []), (270, [])] T T4) → (0 ≤ T 111 0 6 ∧ T 111 0 6 < 4) → (FI_ T4) → (T4 111 0 62 = 0 → T4 204 0 2 ≤ T4 204 0 1 ∧ T4 204 0 3 ≤ T4 204 0 2) → J_ zX11_competition T (po_X11_competition T) 0 0 83 [some (vR 111 0), none, none] [] T4 := by
    intro T4 hf_83 a4 g4 w4
    have c_113 : ∀ (nn : Nat) (k : Int) (T2 : Zt), ((23 - k).toNat) ≤ nn → (fr_ [(111, [1, 2, 57, 58, 59, 60, 61, 62, 63]), (204, []), (269, []), (270, []), (205, [])] T T2) → (0 ≤ k ∧ k ≤ 23) → (FI_ T2) → (T2 204 0 2 ≤ T2 204 0 1 ∧ T2 204 0 3 ≤ T2 204 0 2 ∧ 0 ≤ T2 111 0 1 ∧ T2 111 0 1 ≤ 400) → (∀ j : Int, 0 ≤ j → j < k → T2 205 0 (23 * T 111 0 6 + j) = T2 204 0 j) → (∀ j : Int, j < 23 * T 111 0 6 → T2 205 0 j = T 205 0 j) → J_ zX11_competition T (po_X11_competition T) 0 0 113 [some (vR 111 0), none, some (vI k)] [] T2 := by
      intro nn
      induction nn using Nat.strongRecOn with
      | _ nn ih_113 =>
        intro k T2 hm_113 hf_113 k1 g2 w2 r1 r2
        refine j_blk (F := fX11) tb_X11 (by decide) bk_X11_competition_113 hz (fun K hK => ?_)
        refine And.intro (fun c1 => ?_) (fun c1 => ?_)
        · refine hK 145 [some (vR 111 0), none, some (vI k)] [] T2 ?_
          refine j_blk (F := fX11) tb_X11 (by decide) bk_X11_competition_145 hz (fun K hK => ?_)
          intro b2 b2b
          have e3 : T2 111 0 6 = T 111 0 6 := hf_113 111 0 6 rfl
          rw [e3] at b2 b2b ⊢
          refine rg_i (by omega) ?_
          refine bd_i (by omega) ?_
          refine sx_nm (fun U4 hU4 => ?_)
          have e5 := up_f hU4
          intro b6 b6b
          have e7 : U4 111 0 6 = (T 111 0 6) + 1 := up_f hU4
          rw [e7] at b6 b6b ⊢
          refine rg_i (by omega) ?_
          refine (show po_X11_competition T U4 (some (vI (((T 111 0 6) + 1) - 1))) from ?_)
          have e8 : U4 111 0 6 = (T 111 0 6) + 1 := up_f hU4
          have ec : U4 111 0 6 = T 111 0 6 + 1 := by omega
          have ek : ∀ j, U4 205 0 j = T2 205 0 j := fun j => up_k hU4 (by decide) 0 j
          refine ⟨_, rfl, fr_u (fr_t (fr_0 _ _) (fr_s hf_113 rfl)) hU4 rfl, by omega, fun c w a b d e => ?_, fun c a b => ?_⟩
          · rw [ek]
            by_cases z : c = T 111 0 6
            · subst z; rw [r1 w d (by omega)]; exact g2 w d e
            · rw [r2 _ (by omega)]; exact hRI c w a (by omega) d e
          · rw [ek, ek, ek]
            by_cases z : c = T 111 0 6
            · subst z; rw [r1 1 (by omega) (by omega), r1 2 (by omega) (by omega), r1 3 (by omega) (by omega)]; omega
            · rw [r2 _ (by omega), r2 _ (by omega), r2 _ (by omega)]; exact hRW c a (by omega)
        · intro b9 b9b
          have e10 : T2 111 0 6 = T 111 0 6 := hf_113 111 0 6 rfl
          rw [e10] at b9 b9b ⊢
          refine rg_i (by omega) ?_
          refine rg_i (by omega) ?_
          refine ix_i (by omega) ?_
          intro b11 b11b
          refine iy_i (by omega) (by omega) ?_
          refine sx_nm (fun U12 hU12 => ?_)
          have e13 := up_f hU12
          refine rg_i (by omega) ?_
          refine hK 113 [some (vR 111 0), none, some (vI (k + 1))] [] U12 ?_
          have e14 : U12 204 0 2 = T2 204 0 2 := up_k hU12 (by decide) 0 2
          have e15 : U12 204 0 1 = T2 204 0 1 := up_k hU12 (by decide) 0 1
          have e16 : U12 204 0 3 = T2 204 0 3 := up_k hU12 (by decide) 0 3
          have e17 : U12 111 0 1 = T2 111 0 1 := up_k hU12 (by decide) 0 1
          refine ih_113 _ ?_ (k + 1) U12 (Nat.le_refl _) ?_ ?_ ?_ ?_ ?_ ?_
          · omega
          · exact fr_u (fr_t (fr_0 _ _) (fr_s hf_113 rfl)) hU12 rfl
          · omega
          · exact FI__f (ws := [(205, [])]) g2 (fr_u (fr_0 _ _) hU12 rfl) ⟨fun _ => rfl, trivial⟩
          · omega
          · intro j a b
            by_cases z : j = k
            · subst z; rw [up_f hU12]; exact (up_k hU12 (by decide) 0 j).symm
            · rw [up_g hU12 (by omega), up_k hU12 (by decide)]; exact r1 j a (by omega)
          · intro j a
            rw [up_g hU12 (by omega)]; exact r2 j a
    refine j_blk (F := fX11) tb_X11 (by decide) bk_X11_competition_83 hz (fun K hK => ?_)
    refine bd_i (by omega) ?_
    refine sx_nm (fun U18 hU18 => ?_)
    have e19 := up_f hU18
    intro b20 b20b
    have e21 : U18 111 0 63 = T4 111 0 63 := up_j hU18 (by decide) 111 0
    rw [e21] at b20 b20b ⊢
    refine bd_i (by omega) ?_
    refine sx_nm (fun U22 hU22 => ?_)
    have e23 := up_f hU22
    intro b24 b24b
    have e25 : U22 111 0 62 = T4 111 0 62 := (up_j hU22 (by decide) 111 0).trans (up_j hU18 (by decide) 111 0)
    rw [e25] at b24 b24b ⊢
    refine And.intro (fun c26 => ?_) (fun c26 => ?_)
    · refine hK 111 [some (vR 111 0), none, none] [] U22 ?_
      refine j_blk (F := fX11) tb_X11 (by decide) bk_X11_competition_111 hz (fun K hK => ?_)
      refine hK 113 [some (vR 111 0), none, some (vI 0)] [] U22 ?_
      have e27 : U22 204 0 2 = T4 204 0 2 := (up_k hU22 (by decide) 0 2).trans (up_k hU18 (by decide) 0 2)
      have e28 : U22 204 0 1 = T4 204 0 1 := (up_k hU22 (by decide) 0 1).trans (up_k hU18 (by decide) 0 1)
      have e29 : U22 204 0 3 = T4 204 0 3 := (up_k hU22 (by decide) 0 3).trans (up_k hU18 (by decide) 0 3)
      have e30 : U22 111 0 1 = 0 := (up_j hU22 (by decide) 111 0).trans (up_f hU18)
      refine c_113 _ 0 U22 (Nat.le_refl _) ?_ ?_ ?_ ?_ ?_ ?_
      · exact fr_u (fr_u (fr_t (fr_0 _ _) (fr_s hf_83 rfl)) hU18 rfl) hU22 rfl
      · omega
      · exact FI__f (ws := [(111, [2, 1])]) g4 (fr_u (fr_u (fr_0 _ _) hU18 rfl) hU22 rfl) ⟨fun _ => rfl, trivial⟩
      · omega
      · intro j a b; omega
      · exact fun j _ => (show fr_ [(111, [2, 1, 57, 58, 59, 60, 61, 62, 63]), (204, []), (269, []), (270, [])] T U22 from fr_u (fr_u (fr_t (fr_0 _ _) (fr_s hf_83 rfl)) hU18 rfl) hU22 rfl) 205 0 j rfl
    · intro b31 b31b
      have e32 : U22 111 0 62 = T4 111 0 62 := (up_j hU22 (by decide) 111 0).trans (up_j hU18 (by decide) 111 0)
      rw [e32] at b31 b31b ⊢
      refine rg_i (by omega) ?_
      refine (show po_X11_competition T U22 (some (vI ((-10) - (T4 111 0 62)))) from ?_)
      have e33 : U22 111 0 6 = T 111 0 6 := (up_j hU22 (by decide) 111 0).trans ((up_j hU18 (by decide) 111 0).trans (hf_83 111 0 6 rfl))
      exact ⟨_, rfl, fr_u (fr_u (fr_t (fr_0 _ _) (fr_s hf_83 rfl)) hU18 rfl) hU22 rfl, by omega, RI__f (ws := [(111, [2, 1, 57, 58, 59, 60, 61, 62, 63]), (204, []), (269, []), (270, [])]) hRI (fr_u (fr_u (fr_t (fr_0 _ _) (fr_s hf_83 rfl)) hU18 rfl) hU22 rfl) ⟨fun _ => rfl, rfl, trivial⟩, RW__f (ws := [(111, [2, 1, 57, 58, 59, 60, 61, 62, 63]), (204, []), (269, []), (270, [])]) hRW (fr_u (fr_u (fr_t (fr_0 _ _) (fr_s hf_83 rfl)) hU18 rfl) hU22 rfl) ⟨fun _ => rfl, rfl, trivial⟩⟩
  have c_37 : ∀ (nn : Nat) (mo : Int) (T1 : Zt), ((2 * (6 * (T 111 0 1 - T1 111 0 57) + 5 - T1 111 0 62) + mo).toNat) ≤ nn → (fr_ [(111, [57, 58, 59, 60, 61, 62, 63]), (204, []), (269, []), (270, [])] T T1) → (0 ≤ mo ∧ mo ≤ 1) → (T 111 0 6 < 4 ∧ T1 111 0 57 ≤ T 111 0 1 ∧ 0 ≤ T1 111 0 57 ∧ 0 ≤ T1 111 0 62 ∧ T1 111 0 62 ≤ 5) → (FI_ T1) → (T1 111 0 62 = 0 → T1 204 0 2 ≤ T1 204 0 1 ∧ T1 204 0 3 ≤ T1 204 0 2) → J_ zX11_competition T (po_X11_competition T) 0 0 37 [some (vR 111 0), some (vI mo), none] [] T1 := by
    intro nn
    induction nn using Nat.strongRecOn with
    | _ nn ih_37 =>
      intro mo T1 hm_37 hf_37 m1 a1 g1 w1
      have c_70 : ∀ (T3 : Zt), (fr_ [(111, [57, 58, 59, 60, 61, 62, 63])] T1 T3) → (T3 111 0 57 ≤ T 111 0 1 ∧ T1 111 0 57 ≤ T3 111 0 57 ∧ 0 ≤ T3 111 0 62 ∧ T3 111 0 62 ≤ 5 ∧ mo = 1 ∧ T1 111 0 62 = 0) → J_ zX11_competition T (po_X11_competition T) 0 0 70 [some (vR 111 0), none, none] [] T3 := by
        intro T3 hf_70 a3
        refine j_blk (F := fX11) tb_X11 (by decide) bk_X11_competition_70 hz (fun K hK => ?_)
        refine And.intro (fun c34 => ?_) (fun c34 => ?_)
        · refine hK 37 [some (vR 111 0), some (vI 0), none] [] T3 ?_
          have e35 : T3 204 0 2 = T1 204 0 2 := hf_70 204 0 2 rfl
          have e36 : T3 204 0 1 = T1 204 0 1 := hf_70 204 0 1 rfl
          have e37 : T3 204 0 3 = T1 204 0 3 := hf_70 204 0 3 rfl
          refine ih_37 _ ?_ 0 T3 (Nat.le_refl _) ?_ ?_ ?_ ?_ ?_
          · omega
          · exact fr_t (fr_t (fr_0 _ _) (fr_s hf_37 rfl)) (fr_s hf_70 rfl)
          · omega
          · omega
          · exact FI__f (ws := [(111, [57, 58, 59, 60, 61, 62, 63])]) g1 (fr_t (fr_0 _ _) (fr_s hf_70 rfl)) ⟨fun _ => rfl, trivial⟩
          have e38 : T3 204 0 1 = T1 204 0 1 := hf_70 204 0 1 rfl
          have e39 : T3 204 0 2 = T1 204 0 2 := hf_70 204 0 2 rfl
          have e40 : T3 204 0 3 = T1 204 0 3 := hf_70 204 0 3 rfl
          · omega
        · refine hK 77 [some (vR 111 0), some (vI 0), none] [vR 111 0] T3 ?_
          have e41 : T3 204 0 1 = T1 204 0 1 := hf_70 204 0 1 rfl
          have e42 : T3 204 0 2 = T1 204 0 2 := hf_70 204 0 2 rfl
          have e43 : T3 204 0 3 = T1 204 0 3 := hf_70 204 0 3 rfl
          have e44 : T3 111 0 1 = T 111 0 1 := (hf_70 111 0 1 rfl).trans (hf_37 111 0 1 rfl)
          refine j_callV (y := yX11_readStatement) (Yc := zX11_readStatement) (rest := []) [] (ct_X11_readStatement (T := T3) (by omega) (by exact CX_f (ws := [(111, [57, 58, 59, 60, 61, 62, 63]), (204, []), (269, []), (270, [])]) hC (fr_t (fr_t (fr_0 _ _) (fr_s hf_37 rfl)) (fr_s hf_70 rfl)) ⟨fun _ => rfl, fun _ => rfl, fun _ => rfl, fun _ => rfl, fun _ => rfl, trivial⟩) (by exact FI__f (ws := [(111, [57, 58, 59, 60, 61, 62, 63])]) g1 (fr_t (fr_0 _ _) (fr_s hf_70 rfl)) ⟨fun _ => rfl, trivial⟩) (by (intro z9; omega)) (by omega)) cl_X11_314 (by decide +kernel) (by decide) rfl (by decide +kernel) (Nat.le_of_ble_eq_true rfl) (by decide) (by decide) rfl ?_
          rintro U45 _ ⟨rfl, fU45, ⟨qU45a, qU45b, qU45c, qU45d, qU45e⟩⟩
          show J_ zX11_competition T (po_X11_competition T) 0 0 80 [some (vR 111 0), some (vI 0), none] [] U45
          refine j_ok (fun hTu _ => ?_)
          have hbu : 0 ≤ U45 111 0 62 ∧ U45 111 0 62 ≤ 5 := bd_f hTu 111 62 (by decide +kernel : (tf_ 111)[62]? = some (0, 0, 0, 5)) 0
          have hbv : 0 ≤ U45 111 0 57 ∧ U45 111 0 57 ≤ 400 := bd_f hTu 111 57 (by decide +kernel : (tf_ 111)[57]? = some (0, 0, 0, 400)) 0
          refine j_blk (F := fX11) tb_X11 (by decide) bk_X11_competition_80 hz (fun K hK => ?_)
          refine hK 37 [some (vR 111 0), some (vI 0), none] [] U45 ?_
          refine ih_37 _ ?_ 0 U45 (Nat.le_refl _) ?_ ?_ ?_ ?_ ?_
          · omega
          · exact fr_t (fr_t (fr_t (fr_0 _ _) (fr_s hf_37 rfl)) (fr_s hf_70 rfl)) (fr_s fU45 rfl)
          · omega
          · omega
          · exact qU45d
          · omega
      refine j_blk (F := fX11) tb_X11 (by decide) bk_X11_competition_37 hz (fun K hK => ?_)
      refine And.intro (fun c46 => ?_) (fun c46 => ?_)
      · refine hK 83 [some (vR 111 0), some (vI mo), none] [] T1 ?_
        refine j_drop [some (vR 111 0), none, none] (fun k v hk => ?_) rfl ?_
        · match k, hk with
          | 0, hk => exact hk
          | 1, hk => cases hk
          | 2, hk => cases hk
          | k + 3, hk => cases hk
        refine c_83 T1 ?_ ?_ ?_ ?_
        · exact fr_t (fr_0 _ _) (fr_s hf_37 rfl)
        · omega
        · exact g1
        · omega
      · intro b47 b47b
        refine And.intro (fun c48 => ?_) (fun c48 => ?_)
        · refine hK 83 [some (vR 111 0), some (vI mo), none] [] T1 ?_
          refine j_drop [some (vR 111 0), none, none] (fun k v hk => ?_) rfl ?_
          · match k, hk with
            | 0, hk => exact hk
            | 1, hk => cases hk
            | 2, hk => cases hk
            | k + 3, hk => cases hk
          refine c_83 T1 ?_ ?_ ?_ ?_
          · exact fr_t (fr_0 _ _) (fr_s hf_37 rfl)
          · omega
          · exact g1
          · omega
        · refine hK 49 [some (vR 111 0), some (vI mo), none] [vR 111 0] T1 ?_
          have e49 : T1 111 0 1 = T 111 0 1 := hf_37 111 0 1 rfl
          refine j_callV (y := yX11_take) (Yc := zX11_take) (rest := []) [] (ct_X11_take (T := T1) (by omega)) cl_X11_291 (by decide +kernel) (by decide) rfl (by decide +kernel) (Nat.le_of_ble_eq_true rfl) (by decide) (by decide) rfl ?_
          rintro U50 _ ⟨rfl, fU50, qU50⟩
          show J_ zX11_competition T (po_X11_competition T) 0 0 52 [some (vR 111 0), some (vI mo), none] [] U50
          refine j_blk (F := fX11) tb_X11 (by decide) bk_X11_competition_52 hz (fun K hK => ?_)
          intro b51 b51b
          refine And.intro (fun c52 => ?_) (fun c52 => ?_)
          · refine hK 70 [some (vR 111 0), some (vI mo), none] [] U50 ?_
            refine j_drop [some (vR 111 0), none, none] (fun k v hk => ?_) rfl ?_
            · match k, hk with
              | 0, hk => exact hk
              | 1, hk => cases hk
              | 2, hk => cases hk
              | k + 3, hk => cases hk
            refine c_70 U50 ?_ ?_
            · exact fr_t (fr_0 _ _) (fr_s fU50 rfl)
            · omega
          · intro b53 b53b
            refine And.intro (fun c54 => ?_) (fun c54 => ?_)
            · refine hK 70 [some (vR 111 0), some (vI mo), none] [] U50 ?_
              refine j_drop [some (vR 111 0), none, none] (fun k v hk => ?_) rfl ?_
              · match k, hk with
                | 0, hk => exact hk
                | 1, hk => cases hk
                | 2, hk => cases hk
                | k + 3, hk => cases hk
              refine c_70 U50 ?_ ?_
              · exact fr_t (fr_0 _ _) (fr_s fU50 rfl)
              · omega
            · refine hK 71 [some (vR 111 0), some (vI mo), none] [vI 1] U50 ?_
              refine j_blk (F := fX11) tb_X11 (by decide) bk_X11_competition_71 hz (fun K hK => ?_)
              refine And.intro (fun c55 => ?_) (fun c55 => ?_)
              · refine hK 37 [some (vR 111 0), some (vI 1), none] [] U50 ?_
                have e56 : U50 204 0 2 = T1 204 0 2 := fU50 204 0 2 rfl
                have e57 : U50 204 0 1 = T1 204 0 1 := fU50 204 0 1 rfl
                have e58 : U50 204 0 3 = T1 204 0 3 := fU50 204 0 3 rfl
                refine ih_37 _ ?_ 1 U50 (Nat.le_refl _) ?_ ?_ ?_ ?_ ?_
                · omega
                · exact fr_t (fr_t (fr_0 _ _) (fr_s hf_37 rfl)) (fr_s fU50 rfl)
                · omega
                · omega
                · exact FI__f (ws := [(111, [57, 58, 59, 60, 61, 62, 63])]) g1 (fr_t (fr_0 _ _) (fr_s fU50 rfl)) ⟨fun _ => rfl, trivial⟩
                have e59 : U50 204 0 1 = T1 204 0 1 := fU50 204 0 1 rfl
                have e60 : U50 204 0 2 = T1 204 0 2 := fU50 204 0 2 rfl
                have e61 : U50 204 0 3 = T1 204 0 3 := fU50 204 0 3 rfl
                · omega
              · refine hK 77 [some (vR 111 0), some (vI 1), none] [vR 111 0] U50 ?_
                have e62 : U50 204 0 1 = T1 204 0 1 := fU50 204 0 1 rfl
                have e63 : U50 204 0 2 = T1 204 0 2 := fU50 204 0 2 rfl
                have e64 : U50 204 0 3 = T1 204 0 3 := fU50 204 0 3 rfl
                have e65 : U50 111 0 1 = T 111 0 1 := (fU50 111 0 1 rfl).trans (hf_37 111 0 1 rfl)
                refine j_callV (y := yX11_readStatement) (Yc := zX11_readStatement) (rest := []) [] (ct_X11_readStatement (T := U50) (by omega) (by exact CX_f (ws := [(111, [57, 58, 59, 60, 61, 62, 63]), (204, []), (269, []), (270, [])]) hC (fr_t (fr_t (fr_0 _ _) (fr_s hf_37 rfl)) (fr_s fU50 rfl)) ⟨fun _ => rfl, fun _ => rfl, fun _ => rfl, fun _ => rfl, fun _ => rfl, trivial⟩) (by exact FI__f (ws := [(111, [57, 58, 59, 60, 61, 62, 63])]) g1 (fr_t (fr_0 _ _) (fr_s fU50 rfl)) ⟨fun _ => rfl, trivial⟩) (by (intro z9; omega)) (by omega)) cl_X11_314 (by decide +kernel) (by decide) rfl (by decide +kernel) (Nat.le_of_ble_eq_true rfl) (by decide) (by decide) rfl ?_
                rintro U66 _ ⟨rfl, fU66, ⟨qU66a, qU66b, qU66c, qU66d, qU66e⟩⟩
                show J_ zX11_competition T (po_X11_competition T) 0 0 80 [some (vR 111 0), some (vI 1), none] [] U66
                refine j_ok (fun hTu _ => ?_)
                have hbu : 0 ≤ U66 111 0 62 ∧ U66 111 0 62 ≤ 5 := bd_f hTu 111 62 (by decide +kernel : (tf_ 111)[62]? = some (0, 0, 0, 5)) 0
                have hbv : 0 ≤ U66 111 0 57 ∧ U66 111 0 57 ≤ 400 := bd_f hTu 111 57 (by decide +kernel : (tf_ 111)[57]? = some (0, 0, 0, 400)) 0
                refine j_blk (F := fX11) tb_X11 (by decide) bk_X11_competition_80 hz (fun K hK => ?_)
                refine hK 37 [some (vR 111 0), some (vI 1), none] [] U66 ?_
                refine ih_37 _ ?_ 1 U66 (Nat.le_refl _) ?_ ?_ ?_ ?_ ?_
                · omega
                · exact fr_t (fr_t (fr_t (fr_0 _ _) (fr_s hf_37 rfl)) (fr_s fU50 rfl)) (fr_s fU66 rfl)
                · omega
                · omega
                · exact qU66d
                · omega
  refine j_blk (F := fX11) tb_X11 (by decide) bk_X11_competition_0 hz (fun K hK => ?_)
  intro b67 b67b
  refine And.intro (fun c68 => ?_) (fun c68 => ?_)
  · refine hK 16 [some (vR 111 0), none, none] [] T ?_
    refine j_blk (F := fX11) tb_X11 (by decide) bk_X11_competition_16 hz (fun K hK => ?_)
    refine bd_i (by omega) ?_
    refine sx_nm (fun U69 hU69 => ?_)
    have e70 := up_f hU69
    refine bd_i (by omega) ?_
    refine sx_nm (fun U71 hU71 => ?_)
    have e72 := up_f hU71
    refine bd_i (by omega) ?_
    refine sx_nm (fun U73 hU73 => ?_)
    have e74 := up_f hU73
    refine hK 32 [some (vR 111 0), none, none] [vR 111 0] U73 ?_
    refine j_callV (y := yX11_layDefaults) (Yc := zX11_layDefaults) (rest := []) [] (ct_X11_layDefaults (T := U73)) cl_X11_311 (by decide +kernel) (by decide) rfl (by decide +kernel) (Nat.le_of_ble_eq_true rfl) (by decide) (by decide) rfl ?_
    rintro U75 _ ⟨rfl, fU75, ⟨qU75a, qU75b⟩⟩
    show J_ zX11_competition T (po_X11_competition T) 0 0 35 [some (vR 111 0), none, none] [] U75
    refine j_blk (F := fX11) tb_X11 (by decide) bk_X11_competition_35 hz (fun K hK => ?_)
    refine hK 37 [some (vR 111 0), some (vI 1), none] [] U75 ?_
    have e76 : U75 111 0 57 = 0 := (fU75 111 0 57 rfl).trans ((up_j hU73 (by decide) 111 0).trans ((up_j hU71 (by decide) 111 0).trans (up_f hU69)))
    have e77 : U75 111 0 62 = 0 := (fU75 111 0 62 rfl).trans ((up_j hU73 (by decide) 111 0).trans (up_f hU71))
    refine c_37 _ 1 U75 (Nat.le_refl _) ?_ ?_ ?_ ?_ ?_
    · exact fr_t (fr_u (fr_u (fr_u (fr_0 _ _) hU69 rfl) hU71 rfl) hU73 rfl) (fr_s fU75 rfl)
    · omega
    · omega
    · exact qU75a
    · omega
  · refine bd_i (by omega) ?_
    refine sx_nm (fun U78 hU78 => ?_)
    have e79 := up_f hU78
    refine (show po_X11_competition T U78 (some (vI (-5))) from ?_)
    have e80 : U78 111 0 6 = T 111 0 6 := up_j hU78 (by decide) 111 0
    exact ⟨_, rfl, fr_u (fr_0 _ _) hU78 rfl, by omega, RI__f (ws := [(111, [2])]) hRI (fr_u (fr_0 _ _) hU78 rfl) ⟨fun _ => rfl, rfl, trivial⟩, RW__f (ws := [(111, [2])]) hRW (fr_u (fr_0 _ _) hU78 rfl) ⟨fun _ => rfl, rfl, trivial⟩⟩
abbrev cX11_fault : ByteArray := prog_13_method_19_code
def yX11_fault : MethodName := ⟨RX11, "fault", "()I"⟩
def zX11_fault : Zm := (RX11, cX11_fault, 1, (some .int), { frames := 0, cells := 0, slots := 0, locals := 0 })
theorem bk_X11_fault_0 : ck_ fX11 (some .int) cX11_fault 0 [.aload 0, .tableswitch 0 11 2 #[], .ireturn] 5 = true := by decide +kernel
abbrev po_X11_fault (T : Zt) : Zt → Option Zv → Prop := fun T' r => T = T' ∧ ∃ x : Int, r = some (vI x) ∧ (True)
set_option maxHeartbeats 4000000 in
theorem ct_X11_fault {T : Zt} : Ct_ yX11_fault zX11_fault T [vR 111 0] (po_X11_fault T) := by
  refine ct_of (by decide) rfl rfl (Nat.le_of_ble_eq_true rfl) (fun hT hav => ?_)
  have hz : zX11_fault.2.2.2.1 = some .boolean → ∀ (T' : Zt) (x : Int), po_X11_fault T T' (some (vI x)) → 0 ≤ x ∧ x ≤ 1 := fun h => by cases h
  show J_ zX11_fault T (po_X11_fault T) 0 0 0 [some (vR 111 0)] [] T
  refine j_blk (F := fX11) tb_X11 (by decide) bk_X11_fault_0 hz (fun K hK => ?_)
  intro b1 b1b
  refine (show po_X11_fault T T (some (vI (T 111 0 2))) from ?_)
  exact ⟨rfl, _, rfl, by trivial⟩
abbrev cX11_rule : ByteArray := prog_13_method_20_code
def yX11_rule : MethodName := ⟨RX11, "rule", "(II)I"⟩
def zX11_rule : Zm := (RX11, cX11_rule, 3, (some .int), { frames := 2, cells := 0, slots := 0, locals := 43 })
theorem bk_X11_rule_0 : ck_ fX11 (some .int) cX11_rule 0 [.iload 1, .aload 0, .tableswitch 0 11 6 #[]] 5 = true := by decide +kernel
theorem cl_X11_317 : cs_ RX11 317 yX11_isOf zX11_isOf 2 := ⟨gi_S (lw_at 1832 (by decide +kernel) rfl : Cond.methodLink RX11 317 yX11_isOf ∈ lw_g) (lw_at 1833 (by decide +kernel) rfl : Cond.static yX11_isOf ∈ lw_g) (lw_at 10 (by decide +kernel) rfl : Cond.initialized yX11_isOf.cls ∈ lw_g) (lw_at 1834 (by decide +kernel) rfl : Cond.code yX11_isOf cX11_isOf 2 (some .boolean) ∈ lw_g), ⟨by decide, by decide, by decide +kernel⟩⟩
theorem bk_X11_rule_8 : ck_ fX11 (some .int) cX11_rule 8 [.ifCond .ne 14, .iconst (-2), .ireturn] 14 = true := by decide +kernel
theorem bk_X11_rule_14 : ck_ fX11 (some .int) cX11_rule 14 [.iload 2, .iconst 0, .iconst 22] 18 = true := by decide +kernel
theorem bk_X11_rule_21 : ck_ fX11 (some .int) cX11_rule 21 [.ifCond .eq 33, .aload 0, .iload 1, .iload 2] 27 = true := by decide +kernel
theorem bk_X11_rule_33 : ck_ fX11 (some .int) cX11_rule 33 [.iconst (-3), .ireturn] 36 = true := by decide +kernel
theorem cl_X11_321 : cv_ RX11 321 yX11_rule0 zX11_rule0 11 2 := ⟨gi_V (lw_at 1835 (by decide +kernel) rfl : Cond.methodLink RX11 321 yX11_rule0 ∈ lw_g) (lw_at 1837 (by decide +kernel) rfl : Cond.instanceMethod yX11_rule0 ∈ lw_g) (lw_sel 59 rfl : Cond.selects yX11_rule0.cls yX11_rule0 yX11_rule0 ∈ lw_g) (lw_at 10 (by decide +kernel) rfl : Cond.initialized yX11_rule0.cls ∈ lw_g) (lw_at 1838 (by decide +kernel) rfl : Cond.code yX11_rule0 cX11_rule0 3 (some .int) ∈ lw_g), ⟨by decide, by decide, by decide +kernel⟩, ⟨_, _, rfl⟩⟩
theorem bk_X11_rule_30 : ck_ fX11 (some .int) cX11_rule 30 [.goto 35] 33 = true := by decide +kernel
theorem bk_X11_rule_35 : ck_ fX11 (some .int) cX11_rule 35 [.ireturn] 36 = true := by decide +kernel
abbrev po_X11_rule (T : Zt) (c w : Int) : Zt → Option Zv → Prop := fun T' r => T = T' ∧ ∃ x : Int, r = some (vI x) ∧ (True)
set_option maxHeartbeats 4000000 in
theorem ct_X11_rule {T : Zt} {c w : Int} : Ct_ yX11_rule zX11_rule T [vR 111 0, vI c, vI w] (po_X11_rule T c w) := by
  refine ct_of (by decide) rfl rfl (Nat.le_of_ble_eq_true rfl) (fun hT hav => ?_)
  have hr_c : -2147483648 ≤ c ∧ c ≤ 2147483647 := hav (vI c) (by simp)
  have hr_w : -2147483648 ≤ w ∧ w ≤ 2147483647 := hav (vI w) (by simp)
  have hz : zX11_rule.2.2.2.1 = some .boolean → ∀ (T' : Zt) (x : Int), po_X11_rule T c w T' (some (vI x)) → 0 ≤ x ∧ x ≤ 1 := fun h => by cases h
  have hb_6 : 0 ≤ T 111 0 6 ∧ T 111 0 6 ≤ 4 := bd_f hT 111 6 (by decide +kernel : (tf_ 111)[6]? = some (0, 0, 0, 4)) 0
  show J_ zX11_rule T (po_X11_rule T c w) 0 0 0 [some (vR 111 0), some (vI c), some (vI w)] [] T
  refine j_blk (F := fX11) tb_X11 (by decide) bk_X11_rule_0 hz (fun K hK => ?_)
  intro b1 b1b
  refine hK 5 [some (vR 111 0), some (vI c), some (vI w)] [vI (T 111 0 6), vI c] T ?_
  refine j_callS (y := yX11_isOf) (Yc := zX11_isOf) (rest := []) [vI c, vI (T 111 0 6)] (ct_X11_isOf (T := T) (by omega)) cl_X11_317 (by decide +kernel) (by decide) rfl (by decide +kernel) (Nat.le_of_ble_eq_true rfl) (by decide) (by decide) rfl ?_
  rintro _ _ ⟨rfl, x2, rfl, hx2⟩
  show J_ zX11_rule T (po_X11_rule T c w) 0 0 8 [some (vR 111 0), some (vI c), some (vI w)] [vI x2] T
  refine j_blk (F := fX11) tb_X11 (by decide) bk_X11_rule_8 hz (fun K hK => ?_)
  refine And.intro (fun c3 => ?_) (fun c3 => ?_)
  · refine hK 14 [some (vR 111 0), some (vI c), some (vI w)] [] T ?_
    refine j_blk (F := fX11) tb_X11 (by decide) bk_X11_rule_14 hz (fun K hK => ?_)
    refine hK 18 [some (vR 111 0), some (vI c), some (vI w)] [vI 22, vI 0, vI w] T ?_
    refine j_callS (y := yX11_in) (Yc := zX11_in) (rest := []) [vI w, vI 0, vI 22] (ct_X11_in (T := T)) cl_X11_255 (by decide +kernel) (by decide) rfl (by decide +kernel) (Nat.le_of_ble_eq_true rfl) (by decide) (by decide) rfl ?_
    rintro _ _ ⟨rfl, x4, rfl, hx4⟩
    show J_ zX11_rule T (po_X11_rule T c w) 0 0 21 [some (vR 111 0), some (vI c), some (vI w)] [vI x4] T
    refine j_blk (F := fX11) tb_X11 (by decide) bk_X11_rule_21 hz (fun K hK => ?_)
    refine And.intro (fun c5 => ?_) (fun c5 => ?_)
    · refine hK 33 [some (vR 111 0), some (vI c), some (vI w)] [] T ?_
      refine j_blk (F := fX11) tb_X11 (by decide) bk_X11_rule_33 hz (fun K hK => ?_)
      refine (show po_X11_rule T c w T (some (vI (-3))) from ?_)
      exact ⟨rfl, _, rfl, by trivial⟩
    · refine hK 27 [some (vR 111 0), some (vI c), some (vI w)] [vI w, vI c, vR 111 0] T ?_
      refine j_callV (y := yX11_rule0) (Yc := zX11_rule0) (rest := []) [vI c, vI w] (ct_X11_rule0 (T := T) (by omega) (by omega)) cl_X11_321 (by decide +kernel) (by decide) rfl (by decide +kernel) (Nat.le_of_ble_eq_true rfl) (by decide) (by decide) rfl ?_
      rintro _ _ ⟨rfl, rfl⟩
      show J_ zX11_rule T (po_X11_rule T c w) 0 0 30 [some (vR 111 0), some (vI c), some (vI w)] [vI (T 205 0 (23 * c + w))] T
      refine j_blk (F := fX11) tb_X11 (by decide) bk_X11_rule_30 hz (fun K hK => ?_)
      refine hK 35 [some (vR 111 0), some (vI c), some (vI w)] [vI (T 205 0 (23 * c + w))] T ?_
      refine j_blk (F := fX11) tb_X11 (by decide) bk_X11_rule_35 hz (fun K hK => ?_)
      refine (show po_X11_rule T c w T (some (vI (T 205 0 (23 * c + w)))) from ?_)
      exact ⟨rfl, _, rfl, by trivial⟩
  · refine (show po_X11_rule T c w T (some (vI (-2))) from ?_)
    exact ⟨rfl, _, rfl, by trivial⟩
