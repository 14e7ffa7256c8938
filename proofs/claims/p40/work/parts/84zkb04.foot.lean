theorem bk_X11_playFootball_e_0 : ck_ fX11 none cX11_playFootball 0 [.iload 2] 1 = true := by decide +kernel
theorem bk_X11_playFootball_e_36 : ck_ fX11 none cX11_playFootball 36 [.aload 0, .iload 1, .iconst 0, .aload 0, .iload 1, .iconst 0] 42 = true := by decide +kernel
theorem bk_X11_playFootball_e_45 : ck_ fX11 none cX11_playFootball 45 [.iconst 1, .fadd] 47 = true := by decide +kernel
theorem bk_X11_playFootball_e_50 : ck_ fX11 none cX11_playFootball 50 [.aload 0, .tableswitch 0 11 35 #[], .iload 1, .aload 0, .iload 1, .iconst 0] 58 = true := by decide +kernel
theorem bk_X11_playFootball_e_61 : ck_ fX11 none cX11_playFootball 61 [.iconst 3, .if_icmp .ne 69, .iconst 2, .goto 70] 69 = true := by decide +kernel
theorem bk_X11_playFootball_e_69 : ck_ fX11 none cX11_playFootball 69 [.iconst 1, .iastore, .goto 172] 74 = true := by decide +kernel
theorem bk_X11_playFootball_e_172 : ck_ fX11 none cX11_playFootball 172 [.return_] 173 = true := by decide +kernel
theorem bk_X11_playFootball_e_70 : ck_ fX11 none cX11_playFootball 70 [.iastore, .goto 172] 74 = true := by decide +kernel
theorem bk_X11_playFootball_e_74 : ck_ fX11 none cX11_playFootball 74 [.aload 0, .iload 1, .iload 3, .iconst 1] 78 = true := by decide +kernel
theorem bk_X11_playFootball_e_81 : ck_ fX11 none cX11_playFootball 81 [.goto 172] 84 = true := by decide +kernel
theorem bk_X11_playFootball_e_84 : ck_ fX11 none cX11_playFootball 84 [.aload 0, .iload 1, .iconst 1, .iload 3, .isub, .iconst 1] 90 = true := by decide +kernel
theorem bk_X11_playFootball_e_93 : ck_ fX11 none cX11_playFootball 93 [.goto 172] 96 = true := by decide +kernel
theorem bk_X11_playFootball_e_96 : ck_ fX11 none cX11_playFootball 96 [.aload 0, .iconst 2, .iload 1, .imul, .iload 3, .iadd, .iload 4] 104 = true := by decide +kernel
theorem bk_X11_playFootball_e_107 : ck_ fX11 none cX11_playFootball 107 [.istore 6, .aload 0, .tableswitch 0 11 42 #[], .iload 6, .dup2, .iaload, .iconst 1, .fadd, .iastore, .aload 0, .tableswitch 0 11 42 #[], .iload 6, .iaload, .iconst 2, .if_icmp .ne 172, .aload 0, .iload 1, .iload 3, .iload 6] 136 = true := by decide +kernel
theorem bk_X11_playFootball_e_139 : ck_ fX11 none cX11_playFootball 139 [.goto 172] 142 = true := by decide +kernel
theorem bk_X11_playFootball_e_142 : ck_ fX11 none cX11_playFootball 142 [.aload 0, .iload 1, .iload 3, .aload 0, .iconst 2, .iload 1, .imul, .iload 3, .iadd, .iload 4] 153 = true := by decide +kernel
theorem bk_X11_playFootball_e_159 : ck_ fX11 none cX11_playFootball 159 [.goto 172] 162 = true := by decide +kernel
theorem bk_X11_playFootball_e_162 : ck_ fX11 none cX11_playFootball 162 [.aload 0, .iload 1, .iload 3, .iload 4, .iload 5] 169 = true := by decide +kernel
abbrev po_X11_playFootball_e (T : Zt) (ru : Int → Int) (bu : Int) (m k s p q : Int) : Zt → Option Zv → Prop := fun T' r => r = none ∧ fr_ [(244, []), (241, []), (242, []), (243, []), (245, []), (246, []), (236, []), (237, []), (235, [])] T T' ∧ (FM_ T' ∧ SO_ T T' m ∧ SB1_ T' m (bu + 4) ∧ ro9_ T T' m ∧ rp9_ T' m = pfR_ ru (rp9_ T m) m k s p q)
set_option maxHeartbeats 4000000 in
theorem ct_X11_playFootball_e {T : Zt} {ru : Int → Int} {bu : Int} {m k s p q : Int} (h1 : 0 ≤ m ∧ m < T 111 0 29) (hmc : MC_ T) (hri : RI_ T) (hfm : FM_ T) (hgo : T 235 0 m = 1) (hk : 0 ≤ k ∧ k ≤ 5) (hs : k = 0 ∨ (0 ≤ s ∧ s ≤ 1)) (hp : k = 0 ∨ SL_ T (2 * m + s) p) (hq : k = 5 → SL_ T (2 * m + s) q) (hrl : RLR_ T m ru) (hbu : 9 ≤ bu ∧ bu ≤ 19000) (hsb : SB1_ T m bu) : Ct_ yX11_playFootball zX11_playFootball T [vR 111 0, vI m, vI k, vI s, vI p, vI q] (po_X11_playFootball_e T ru bu m k s p q) := by
  refine ct_of (by decide) rfl rfl (Nat.le_of_ble_eq_true rfl) (fun hT hav => ?_)
  have hr_m : -2147483648 ≤ m ∧ m ≤ 2147483647 := hav (vI m) (by simp)
  have hr_k : -2147483648 ≤ k ∧ k ≤ 2147483647 := hav (vI k) (by simp)
  have hr_s : -2147483648 ≤ s ∧ s ≤ 2147483647 := hav (vI s) (by simp)
  have hr_p : -2147483648 ≤ p ∧ p ≤ 2147483647 := hav (vI p) (by simp)
  have hr_q : -2147483648 ≤ q ∧ q ≤ 2147483647 := hav (vI q) (by simp)
  have hz : zX11_playFootball.2.2.2.1 = some .boolean → ∀ (T' : Zt) (x : Int), po_X11_playFootball_e T ru bu m k s p q T' (some (vI x)) → 0 ≤ x ∧ x ≤ 1 := fun h => by cases h
  have hb_29 : 0 ≤ T 111 0 29 ∧ T 111 0 29 ≤ 400 := bd_f hT 111 29 (by decide +kernel : (tf_ 111)[29]? = some (0, 0, 0, 400)) 0
  have z103_0 : rp9_ T m 103 4 = T 246 0 (8 * m + 0) := rp_v rfl rfl (by show 8 * m = _; omega)
  show J_ zX11_playFootball T (po_X11_playFootball_e T ru bu m k s p q) 0 0 0 [some (vR 111 0), some (vI m), some (vI k), some (vI s), some (vI p), some (vI q), none] [] T
  refine j_blk (F := fX11) tb_X11 (by decide) bk_X11_playFootball_e_0 hz (fun K hK => ?_)
  refine hK 1 [some (vR 111 0), some (vI m), some (vI k), some (vI s), some (vI p), some (vI q), none] [vI k] T ?_
  by_cases z1_0 : k = 0
  · refine j_tsI (pc := 1) 0 (off := 35) (tgt := 36) (by decide) ds_X11_playFootball_1 (by omega) (by decide) rfl (by decide) (by decide) ?_
    refine j_blk (F := fX11) tb_X11 (by decide) bk_X11_playFootball_e_36 hz (fun K hK => ?_)
    refine hK 42 [some (vR 111 0), some (vI m), some (vI k), some (vI s), some (vI p), some (vI q), none] [vI 0, vI m, vR 111 0, vI 0, vI m, vR 111 0] T ?_
    refine j_callV (y := yX11_liveOf) (Yc := zX11_liveOf) (rest := [vI 0, vI m, vR 111 0]) [vI m, vI 0] (ct_X11_liveOf (T := T) (by omega) (by omega)) cl_X11_400 (by decide +kernel) (by decide) rfl (by decide +kernel) (Nat.le_of_ble_eq_true rfl) (by decide) (by decide) rfl ?_
    rintro _ _ ⟨rfl, rfl⟩
    show J_ zX11_playFootball T (po_X11_playFootball_e T ru bu m k s p q) 0 0 45 [some (vR 111 0), some (vI m), some (vI k), some (vI s), some (vI p), some (vI q), none] [vI (T 246 0 (8 * m + 0)), vI 0, vI m, vR 111 0] T
    refine j_blk (F := fX11) tb_X11 (by decide) bk_X11_playFootball_e_45 hz (fun K hK => ?_)
    intro w2 w2b
    refine hK 47 [some (vR 111 0), some (vI m), some (vI k), some (vI s), some (vI p), some (vI q), none] [vI (wr_ ((T 246 0 (8 * m + 0)) + 1)), vI 0, vI m, vR 111 0] T ?_
    refine j_callV (y := yX11_setLive) (Yc := zX11_setLive) (rest := []) [vI m, vI 0, vI (wr_ ((T 246 0 (8 * m + 0)) + 1))] (ct_X11_setLive_e (T := T) (by omega) (by omega)) cl_X11_410 (by decide +kernel) (by decide) rfl (by decide +kernel) (Nat.le_of_ble_eq_true rfl) (by decide) (by decide) rfl ?_
    rintro U3 _ ⟨rfl, hU3⟩
    show J_ zX11_playFootball T (po_X11_playFootball_e T ru bu m k s p q) 0 0 50 [some (vR 111 0), some (vI m), some (vI k), some (vI s), some (vI p), some (vI q), none] [] U3
    refine j_blk (F := fX11) tb_X11 (by decide) bk_X11_playFootball_e_50 hz (fun K hK => ?_)
    refine hK 58 [some (vR 111 0), some (vI m), some (vI k), some (vI s), some (vI p), some (vI q), none] [vI 0, vI m, vR 111 0, vI m, vR 235 0] U3 ?_
    refine j_callV (y := yX11_liveOf) (Yc := zX11_liveOf) (rest := [vI m, vR 235 0]) [vI m, vI 0] (ct_X11_liveOf (T := U3) (by omega) (by omega)) cl_X11_400 (by decide +kernel) (by decide) rfl (by decide +kernel) (Nat.le_of_ble_eq_true rfl) (by decide) (by decide) rfl ?_
    rintro _ _ ⟨rfl, rfl⟩
    have e4 : U3 246 0 (8 * m + 0) = wr_ ((T 246 0 (8 * m + 0)) + 1) := up_f hU3
    rw [e4]
    show J_ zX11_playFootball T (po_X11_playFootball_e T ru bu m k s p q) 0 0 61 [some (vR 111 0), some (vI m), some (vI k), some (vI s), some (vI p), some (vI q), none] [vI (wr_ ((T 246 0 (8 * m + 0)) + 1)), vI m, vR 235 0] U3
    refine j_blk (F := fX11) tb_X11 (by decide) bk_X11_playFootball_e_61 hz (fun K hK => ?_)
    refine And.intro (fun c5 => ?_) (fun c5 => ?_)
    · refine hK 69 [some (vR 111 0), some (vI m), some (vI k), some (vI s), some (vI p), some (vI q), none] [vI m, vR 235 0] U3 ?_
      refine j_blk (F := fX11) tb_X11 (by decide) bk_X11_playFootball_e_69 hz (fun K hK => ?_)
      refine iy_i (by omega) (by omega) ?_
      refine sx_nm (fun U6 hU6 => ?_)
      have e7 := up_f hU6
      refine hK 172 [some (vR 111 0), some (vI m), some (vI k), some (vI s), some (vI p), some (vI q), none] [] U6 ?_
      refine j_blk (F := fX11) tb_X11 (by decide) bk_X11_playFootball_e_172 hz (fun K hK => ?_)
      refine (show po_X11_playFootball_e T ru bu m k s p q U6 (none) from ?_)
      have rU3 : rp9_ U3 m = u2_ (rp9_ T m) 103 4 (wr_ ((T 246 0 (8 * m + 0)) + 1)) := by rw [rp_u (m := m) (k := 103) (j := 4) hU3 rfl rfl (by show 8 * m = _; omega)]
      have rU6 : rp9_ U6 m = u2_ (u2_ (rp9_ T m) 103 4 (wr_ ((T 246 0 (8 * m + 0)) + 1))) 103 3 1 := by rw [rp_u (m := m) (k := 103) (j := 3) hU6 rfl rfl (by show m = _; omega), rU3]
      refine ⟨rfl, fr_u (fr_u (fr_0 _ _) hU3 rfl) hU6 rfl, fm_1 (FM__f (ws := [(246, [])]) (hfm) (fr_u (fr_0 _ _) hU3 rfl) ⟨fun _ => rfl, fun _ => rfl, trivial⟩) hU6 ((up_k hU3 (by decide) 0 m).trans hgo), so_f (ws := [(235, [])]) (so_f (ws := [(246, [])]) (so_r) (fr_u (fr_0 _ _) hU3 rfl) ⟨fun _ => rfl, fun _ => rfl, fun _ => rfl⟩) (fr_u (fr_0 _ _) hU6 rfl) ⟨fun _ => rfl, fun _ => rfl, fun _ => rfl⟩, sb1_f (ws := [(235, [])]) (sb1_f (ws := [(246, [])]) (sb1_m (c := bu + 4) hsb (by omega)) (fr_u (fr_0 _ _) hU3 rfl) ⟨fun _ => rfl, fun _ => rfl, fun _ => rfl⟩) (fr_u (fr_0 _ _) hU6 rfl) ⟨fun _ => rfl, fun _ => rfl, fun _ => rfl⟩, ro_u (m := m) (k := 103) (j := 3) (ro_u (m := m) (k := 103) (j := 4) (ro_r) hU3 rfl rfl (by show 8 * m = _; omega)) hU6 rfl rfl (by show m = _; omega), ?_⟩
      exact Eq.trans rU6 (Eq.symm (by have g9 := pfR__2 (r := ru) (a := rp9_ T m) (m := m) (k := k) (s := s) (q := p) (o := q) (show k = 0 by (try simp only [z103_0]); omega) (show ¬ (wr_ ((rp9_ T m) 103 4 + 1) = 3) by (try simp only [z103_0]); omega); (try simp only [z103_0] at g9); exact g9))
    · refine hK 70 [some (vR 111 0), some (vI m), some (vI k), some (vI s), some (vI p), some (vI q), none] [vI 2, vI m, vR 235 0] U3 ?_
      refine j_blk (F := fX11) tb_X11 (by decide) bk_X11_playFootball_e_70 hz (fun K hK => ?_)
      refine iy_i (by omega) (by omega) ?_
      refine sx_nm (fun U8 hU8 => ?_)
      have e9 := up_f hU8
      refine hK 172 [some (vR 111 0), some (vI m), some (vI k), some (vI s), some (vI p), some (vI q), none] [] U8 ?_
      refine j_blk (F := fX11) tb_X11 (by decide) bk_X11_playFootball_e_172 hz (fun K hK => ?_)
      refine (show po_X11_playFootball_e T ru bu m k s p q U8 (none) from ?_)
      have rU3 : rp9_ U3 m = u2_ (rp9_ T m) 103 4 (wr_ ((T 246 0 (8 * m + 0)) + 1)) := by rw [rp_u (m := m) (k := 103) (j := 4) hU3 rfl rfl (by show 8 * m = _; omega)]
      have rU8 : rp9_ U8 m = u2_ (u2_ (rp9_ T m) 103 4 (wr_ ((T 246 0 (8 * m + 0)) + 1))) 103 3 2 := by rw [rp_u (m := m) (k := 103) (j := 3) hU8 rfl rfl (by show m = _; omega), rU3]
      refine ⟨rfl, fr_u (fr_u (fr_0 _ _) hU3 rfl) hU8 rfl, fm_w (FM__f (ws := [(246, [])]) (hfm) (fr_u (fr_0 _ _) hU3 rfl) ⟨fun _ => rfl, fun _ => rfl, trivial⟩) hU8 (by decide), so_f (ws := [(235, [])]) (so_f (ws := [(246, [])]) (so_r) (fr_u (fr_0 _ _) hU3 rfl) ⟨fun _ => rfl, fun _ => rfl, fun _ => rfl⟩) (fr_u (fr_0 _ _) hU8 rfl) ⟨fun _ => rfl, fun _ => rfl, fun _ => rfl⟩, sb1_f (ws := [(235, [])]) (sb1_f (ws := [(246, [])]) (sb1_m (c := bu + 4) hsb (by omega)) (fr_u (fr_0 _ _) hU3 rfl) ⟨fun _ => rfl, fun _ => rfl, fun _ => rfl⟩) (fr_u (fr_0 _ _) hU8 rfl) ⟨fun _ => rfl, fun _ => rfl, fun _ => rfl⟩, ro_u (m := m) (k := 103) (j := 3) (ro_u (m := m) (k := 103) (j := 4) (ro_r) hU3 rfl rfl (by show 8 * m = _; omega)) hU8 rfl rfl (by show m = _; omega), ?_⟩
      exact Eq.trans rU8 (Eq.symm (by have g9 := pfR__1 (r := ru) (a := rp9_ T m) (m := m) (k := k) (s := s) (q := p) (o := q) (show k = 0 by (try simp only [z103_0]); omega) (show wr_ ((rp9_ T m) 103 4 + 1) = 3 by (try simp only [z103_0]); omega); (try simp only [z103_0] at g9); exact g9))
  by_cases z1_1 : k = 1
  · refine j_tsI (pc := 1) 1 (off := 73) (tgt := 74) (by decide) ds_X11_playFootball_1 (by omega) (by decide) rfl (by decide) (by decide) ?_
    refine j_blk (F := fX11) tb_X11 (by decide) bk_X11_playFootball_e_74 hz (fun K hK => ?_)
    refine hK 78 [some (vR 111 0), some (vI m), some (vI k), some (vI s), some (vI p), some (vI q), none] [vI 1, vI s, vI m, vR 111 0] T ?_
    refine j_callV (y := yX11_addScore) (Yc := zX11_addScore) (rest := []) [vI m, vI s, vI 1] (ct_X11_addScore_e (T := T) (bu := bu) (by omega) (by omega) (by omega) (hsb)) cl_X11_413 (by decide +kernel) (by decide) rfl (by decide +kernel) (Nat.le_of_ble_eq_true rfl) (by decide) (by decide) rfl ?_
    rintro U10 _ ⟨rfl, fU10, ⟨qU10o, qU10b, qU10f, qU10p, qU10e⟩⟩
    show J_ zX11_playFootball T (po_X11_playFootball_e T ru bu m k s p q) 0 0 81 [some (vR 111 0), some (vI m), some (vI k), some (vI s), some (vI p), some (vI q), none] [] U10
    refine j_blk (F := fX11) tb_X11 (by decide) bk_X11_playFootball_e_81 hz (fun K hK => ?_)
    refine hK 172 [some (vR 111 0), some (vI m), some (vI k), some (vI s), some (vI p), some (vI q), none] [] U10 ?_
    refine j_blk (F := fX11) tb_X11 (by decide) bk_X11_playFootball_e_172 hz (fun K hK => ?_)
    refine (show po_X11_playFootball_e T ru bu m k s p q U10 (none) from ?_)
    have rU10 : rp9_ U10 m = adR_ (rp9_ T m) s 1 := qU10e
    refine ⟨rfl, fr_t (fr_0 _ _) (fr_s fU10 rfl), FM__f (ws := [(236, []), (237, [])]) (hfm) fU10 ⟨fun _ => rfl, fun _ => rfl, trivial⟩, so_t (so_r) qU10o (fun j => rfl), qU10b, ro_t (ro_r) qU10p, ?_⟩
    first
    | exact Eq.trans rU10 (Eq.symm (by have g9 := pfR__3 (r := ru) (a := rp9_ T m) (m := m) (k := k) (s := s) (q := p) (o := q) (show ¬ (k = 0) by (try simp only [z103_0]); omega) (show k = 1 by (try simp only [z103_0]); omega); (try simp only [z103_0] at g9); exact g9))
    | exact Eq.trans rU10 (Eq.symm (by have g9 := pfR__4 (r := ru) (a := rp9_ T m) (m := m) (k := k) (s := s) (q := p) (o := q) (show ¬ (k = 0) by (try simp only [z103_0]); omega) (show ¬ (k = 1) by (try simp only [z103_0]); omega) (show k = 2 by (try simp only [z103_0]); omega); (try simp only [z103_0] at g9); exact g9))
    | (exfalso; omega)
  by_cases z1_2 : k = 2
  · refine j_tsI (pc := 1) 2 (off := 83) (tgt := 84) (by decide) ds_X11_playFootball_1 (by omega) (by decide) rfl (by decide) (by decide) ?_
    refine j_blk (F := fX11) tb_X11 (by decide) bk_X11_playFootball_e_84 hz (fun K hK => ?_)
    refine rg_i (by omega) ?_
    refine hK 90 [some (vR 111 0), some (vI m), some (vI k), some (vI s), some (vI p), some (vI q), none] [vI 1, vI (1 - s), vI m, vR 111 0] T ?_
    refine j_callV (y := yX11_addScore) (Yc := zX11_addScore) (rest := []) [vI m, vI (1 - s), vI 1] (ct_X11_addScore_e (T := T) (bu := bu) (by omega) (by omega) (by omega) (hsb)) cl_X11_413 (by decide +kernel) (by decide) rfl (by decide +kernel) (Nat.le_of_ble_eq_true rfl) (by decide) (by decide) rfl ?_
    rintro U11 _ ⟨rfl, fU11, ⟨qU11o, qU11b, qU11f, qU11p, qU11e⟩⟩
    show J_ zX11_playFootball T (po_X11_playFootball_e T ru bu m k s p q) 0 0 93 [some (vR 111 0), some (vI m), some (vI k), some (vI s), some (vI p), some (vI q), none] [] U11
    refine j_blk (F := fX11) tb_X11 (by decide) bk_X11_playFootball_e_93 hz (fun K hK => ?_)
    refine hK 172 [some (vR 111 0), some (vI m), some (vI k), some (vI s), some (vI p), some (vI q), none] [] U11 ?_
    refine j_blk (F := fX11) tb_X11 (by decide) bk_X11_playFootball_e_172 hz (fun K hK => ?_)
    refine (show po_X11_playFootball_e T ru bu m k s p q U11 (none) from ?_)
    have rU11 : rp9_ U11 m = adR_ (rp9_ T m) (1 - s) 1 := qU11e
    refine ⟨rfl, fr_t (fr_0 _ _) (fr_s fU11 rfl), FM__f (ws := [(236, []), (237, [])]) (hfm) fU11 ⟨fun _ => rfl, fun _ => rfl, trivial⟩, so_t (so_r) qU11o (fun j => rfl), qU11b, ro_t (ro_r) qU11p, ?_⟩
    first
    | exact Eq.trans rU11 (Eq.symm (by have g9 := pfR__3 (r := ru) (a := rp9_ T m) (m := m) (k := k) (s := s) (q := p) (o := q) (show ¬ (k = 0) by (try simp only [z103_0]); omega) (show k = 1 by (try simp only [z103_0]); omega); (try simp only [z103_0] at g9); exact g9))
    | exact Eq.trans rU11 (Eq.symm (by have g9 := pfR__4 (r := ru) (a := rp9_ T m) (m := m) (k := k) (s := s) (q := p) (o := q) (show ¬ (k = 0) by (try simp only [z103_0]); omega) (show ¬ (k = 1) by (try simp only [z103_0]); omega) (show k = 2 by (try simp only [z103_0]); omega); (try simp only [z103_0] at g9); exact g9))
    | (exfalso; omega)
  by_cases z1_3 : k = 3
  · refine j_tsI (pc := 1) 3 (off := 95) (tgt := 96) (by decide) ds_X11_playFootball_1 (by omega) (by decide) rfl (by decide) (by decide) ?_
    refine j_blk (F := fX11) tb_X11 (by decide) bk_X11_playFootball_e_96 hz (fun K hK => ?_)
    refine rg_i (by omega) ?_
    refine rg_i (by omega) ?_
    refine hK 104 [some (vR 111 0), some (vI m), some (vI k), some (vI s), some (vI p), some (vI q), none] [vI p, vI ((2 * m) + s), vR 111 0] T ?_
    refine j_callV (y := yX11_slotOf) (Yc := zX11_slotOf) (rest := []) [vI ((2 * m) + s), vI p] (ct_X11_slotOf_e (T := T) (m := m) (s := s) (by omega) ⟨rfl, by omega, by omega⟩) cl_X11_378 (by decide +kernel) (by decide) rfl (by decide +kernel) (Nat.le_of_ble_eq_true rfl) (by decide) (by decide) rfl ?_
    rintro _ _ ⟨rfl, x12, rfl, hx12, hx12e⟩
    have hx12c := ab_c hx12e
    show J_ zX11_playFootball T (po_X11_playFootball_e T ru bu m k s p q) 0 0 107 [some (vR 111 0), some (vI m), some (vI k), some (vI s), some (vI p), some (vI q), none] [vI x12] T
    have yy : 10 * (2 * m + s) ≤ x12 ∧ x12 < 10 * (2 * m + s) + 10 ∧ x12 < 10 * (2 * m + s) + T 239 0 (2 * m + s) := by
      rcases hx12 with z | z
      · rcases hp with y | y
        · omega
        · exact absurd y z.2
      · exact ⟨z.1, z.2.1, z.2.2.2⟩
    have hyo := hsb.2.2 x12 (by omega) (by omega)
    have z473 : rp9_ T m 473 (x12 - 20 * m) = T 242 0 x12 := rp_v (dm_473 (by omega)) rfl (by show 20 * m + (x12 - 20 * m) = _; omega)
    refine j_blk (F := fX11) tb_X11 (by decide) bk_X11_playFootball_e_107 hz (fun K hK => ?_)
    refine ix_i (by omega) ?_
    intro b13 b13b
    intro w14 w14b
    refine iy_i (by omega) (by omega) ?_
    refine sx_nm (fun U15 hU15 => ?_)
    have e16 := up_f hU15
    refine ix_i (by omega) ?_
    intro b17 b17b
    have e18 : U15 242 0 x12 = wr_ ((T 242 0 x12) + 1) := up_f hU15
    rw [e18] at b17 b17b ⊢
    refine And.intro (fun c19 => ?_) (fun c19 => ?_)
    · refine hK 172 [some (vR 111 0), some (vI m), some (vI k), some (vI s), some (vI p), some (vI q), some (vI x12)] [] U15 ?_
      refine j_blk (F := fX11) tb_X11 (by decide) bk_X11_playFootball_e_172 hz (fun K hK => ?_)
      refine (show po_X11_playFootball_e T ru bu m k s p q U15 (none) from ?_)
      have rU15 : rp9_ U15 m = u2_ (rp9_ T m) 473 (x12 - 20 * m) (wr_ ((T 242 0 x12) + 1)) := by rw [rp_u (m := m) (k := 473) (j := x12 - 20 * m) hU15 (dm_473 (by omega)) rfl (by show 20 * m + (x12 - 20 * m) = _; omega)]
      have wv1 : wr_ ((T 242 0 x12) + 1) = ((T 242 0 x12) + 1) := wr_i (by omega)
      refine ⟨rfl, fr_u (fr_0 _ _) hU15 rfl, FM__f (ws := [(242, [])]) (hfm) (fr_u (fr_0 _ _) hU15 rfl) ⟨fun _ => rfl, fun _ => rfl, trivial⟩, so_y (so_r) hU15 (2 * m + s) (by omega), sb1_y (sb1_m (c := bu + 4) hsb (by omega)) hU15 (by omega), ro_u (m := m) (k := 473) (j := x12 - 20 * m) (ro_r) hU15 (dm_473 (by omega)) rfl (by show 20 * m + (x12 - 20 * m) = _; omega), ?_⟩
      exact Eq.trans rU15 (Eq.symm (by have g9 := pfR__6 (r := ru) (a := rp9_ T m) (m := m) (k := k) (s := s) (q := p) (o := q) (show ¬ (k = 0) by (try simp only [z103_0, ← hx12e, z473]); omega) (show ¬ (k = 1) by (try simp only [z103_0, ← hx12e, z473]); omega) (show ¬ (k = 2) by (try simp only [z103_0, ← hx12e, z473]); omega) (show k = 3 by (try simp only [z103_0, ← hx12e, z473]); omega) (show ¬ (wr_ ((rp9_ T m) 473 (ab9_ m (slR_ (rp9_ T m) s p) - 20 * m) + 1) = 2) by (try simp only [z103_0, ← hx12e, z473]); omega); (try simp only [z103_0, ← hx12e, z473] at g9); exact g9))
    · refine hK 136 [some (vR 111 0), some (vI m), some (vI k), some (vI s), some (vI p), some (vI q), some (vI x12)] [vI x12, vI s, vI m, vR 111 0] U15 ?_
      have e20 : U15 111 0 29 = T 111 0 29 := up_k hU15 (by decide) 0 29
      have wv2 : wr_ ((T 242 0 x12) + 1) = ((T 242 0 x12) + 1) := wr_i (by omega)
      refine j_callV (y := yX11_sendOff) (Yc := zX11_sendOff) (rest := []) [vI m, vI s, vI x12] (ct_X11_sendOff_e (T := U15) (ru := ru) (bu := bu + 4) (by omega) (by omega) (by omega) (MC__f (ws := [(242, [])]) hmc (fr_u (fr_0 _ _) hU15 rfl) ⟨fun _ => rfl, rfl, rfl, trivial⟩) (RI__f (ws := [(242, [])]) hri (fr_u (fr_0 _ _) hU15 rfl) ⟨fun _ => rfl, rfl, trivial⟩) (FM__f (ws := [(242, [])]) (hfm) (fr_u (fr_0 _ _) hU15 rfl) ⟨fun _ => rfl, fun _ => rfl, trivial⟩) (rlr_f (ws := [(242, [])]) hrl (fr_u (fr_0 _ _) hU15 rfl) (fun _ => rfl) (fun _ => rfl)) (by omega) (sb1_y (sb1_m (c := bu + 4) hsb (by omega)) hU15 (by omega))) cl_X11_416 (by decide +kernel) (by decide) rfl (by decide +kernel) (Nat.le_of_ble_eq_true rfl) (by decide) (by decide) rfl ?_
      rintro U21 _ ⟨rfl, fU21, ⟨qU21, qU21o, qU21b, qU21p, qU21e⟩⟩
      show J_ zX11_playFootball T (po_X11_playFootball_e T ru bu m k s p q) 0 0 139 [some (vR 111 0), some (vI m), some (vI k), some (vI s), some (vI p), some (vI q), some (vI x12)] [] U21
      refine j_blk (F := fX11) tb_X11 (by decide) bk_X11_playFootball_e_139 hz (fun K hK => ?_)
      refine hK 172 [some (vR 111 0), some (vI m), some (vI k), some (vI s), some (vI p), some (vI q), some (vI x12)] [] U21 ?_
      refine j_blk (F := fX11) tb_X11 (by decide) bk_X11_playFootball_e_172 hz (fun K hK => ?_)
      refine (show po_X11_playFootball_e T ru bu m k s p q U21 (none) from ?_)
      have rU15 : rp9_ U15 m = u2_ (rp9_ T m) 473 (x12 - 20 * m) (wr_ ((T 242 0 x12) + 1)) := by rw [rp_u (m := m) (k := 473) (j := x12 - 20 * m) hU15 (dm_473 (by omega)) rfl (by show 20 * m + (x12 - 20 * m) = _; omega)]
      have rU21 : rp9_ U21 m = soR_ ru (u2_ (rp9_ T m) 473 (x12 - 20 * m) (wr_ ((T 242 0 x12) + 1))) m s x12 := by rw [qU21e, rU15]
      refine ⟨rfl, fr_t (fr_u (fr_0 _ _) hU15 rfl) (fr_s fU21 rfl), qU21, so_t (so_y (so_r) hU15 (2 * m + s) (by omega)) qU21o (fun j => up_k hU15 (by decide) 0 j), qU21b, ro_t (ro_u (m := m) (k := 473) (j := x12 - 20 * m) (ro_r) hU15 (dm_473 (by omega)) rfl (by show 20 * m + (x12 - 20 * m) = _; omega)) qU21p, ?_⟩
      exact Eq.trans rU21 (Eq.symm (by have g9 := pfR__5 (r := ru) (a := rp9_ T m) (m := m) (k := k) (s := s) (q := p) (o := q) (show ¬ (k = 0) by (try simp only [z103_0, ← hx12e, z473]); omega) (show ¬ (k = 1) by (try simp only [z103_0, ← hx12e, z473]); omega) (show ¬ (k = 2) by (try simp only [z103_0, ← hx12e, z473]); omega) (show k = 3 by (try simp only [z103_0, ← hx12e, z473]); omega) (show wr_ ((rp9_ T m) 473 (ab9_ m (slR_ (rp9_ T m) s p) - 20 * m) + 1) = 2 by (try simp only [z103_0, ← hx12e, z473]); omega); (try simp only [z103_0, ← hx12e, z473] at g9); exact g9))
  by_cases z1_4 : k = 4
  · refine j_tsI (pc := 1) 4 (off := 141) (tgt := 142) (by decide) ds_X11_playFootball_1 (by omega) (by decide) rfl (by decide) (by decide) ?_
    refine j_blk (F := fX11) tb_X11 (by decide) bk_X11_playFootball_e_142 hz (fun K hK => ?_)
    refine rg_i (by omega) ?_
    refine rg_i (by omega) ?_
    refine hK 153 [some (vR 111 0), some (vI m), some (vI k), some (vI s), some (vI p), some (vI q), none] [vI p, vI ((2 * m) + s), vR 111 0, vI s, vI m, vR 111 0] T ?_
    refine j_callV (y := yX11_slotOf) (Yc := zX11_slotOf) (rest := [vI s, vI m, vR 111 0]) [vI ((2 * m) + s), vI p] (ct_X11_slotOf_e (T := T) (m := m) (s := s) (by omega) ⟨rfl, by omega, by omega⟩) cl_X11_378 (by decide +kernel) (by decide) rfl (by decide +kernel) (Nat.le_of_ble_eq_true rfl) (by decide) (by decide) rfl ?_
    rintro _ _ ⟨rfl, x22, rfl, hx22, hx22e⟩
    have hx22c := ab_c hx22e
    show J_ zX11_playFootball T (po_X11_playFootball_e T ru bu m k s p q) 0 0 156 [some (vR 111 0), some (vI m), some (vI k), some (vI s), some (vI p), some (vI q), none] [vI x22, vI s, vI m, vR 111 0] T
    have yy : 10 * (2 * m + s) ≤ x22 ∧ x22 < 10 * (2 * m + s) + 10 ∧ x22 < 10 * (2 * m + s) + T 239 0 (2 * m + s) := by
      rcases hx22 with z | z
      · rcases hp with y | y
        · omega
        · exact absurd y z.2
      · exact ⟨z.1, z.2.1, z.2.2.2⟩
    have hyo := hsb.2.2 x22 (by omega) (by omega)
    have z473 : rp9_ T m 473 (x22 - 20 * m) = T 242 0 x22 := rp_v (dm_473 (by omega)) rfl (by show 20 * m + (x22 - 20 * m) = _; omega)
    refine j_callV (y := yX11_sendOff) (Yc := zX11_sendOff) (rest := []) [vI m, vI s, vI x22] (ct_X11_sendOff_e (T := T) (ru := ru) (bu := bu + 4) (by omega) (by omega) (by omega) (hmc) (hri) (hfm) (hrl) (by omega) (sb1_m (c := bu + 4) hsb (by omega))) cl_X11_416 (by decide +kernel) (by decide) rfl (by decide +kernel) (Nat.le_of_ble_eq_true rfl) (by decide) (by decide) rfl ?_
    rintro U23 _ ⟨rfl, fU23, ⟨qU23, qU23o, qU23b, qU23p, qU23e⟩⟩
    show J_ zX11_playFootball T (po_X11_playFootball_e T ru bu m k s p q) 0 0 159 [some (vR 111 0), some (vI m), some (vI k), some (vI s), some (vI p), some (vI q), none] [] U23
    refine j_blk (F := fX11) tb_X11 (by decide) bk_X11_playFootball_e_159 hz (fun K hK => ?_)
    refine hK 172 [some (vR 111 0), some (vI m), some (vI k), some (vI s), some (vI p), some (vI q), none] [] U23 ?_
    refine j_blk (F := fX11) tb_X11 (by decide) bk_X11_playFootball_e_172 hz (fun K hK => ?_)
    refine (show po_X11_playFootball_e T ru bu m k s p q U23 (none) from ?_)
    have rU23 : rp9_ U23 m = soR_ ru (rp9_ T m) m s x22 := qU23e
    refine ⟨rfl, fr_t (fr_0 _ _) (fr_s fU23 rfl), qU23, so_t (so_r) qU23o (fun j => rfl), qU23b, ro_t (ro_r) qU23p, ?_⟩
    exact Eq.trans rU23 (Eq.symm (by have g9 := pfR__7 (r := ru) (a := rp9_ T m) (m := m) (k := k) (s := s) (q := p) (o := q) (show ¬ (k = 0) by (try simp only [z103_0, ← hx22e, z473]); omega) (show ¬ (k = 1) by (try simp only [z103_0, ← hx22e, z473]); omega) (show ¬ (k = 2) by (try simp only [z103_0, ← hx22e, z473]); omega) (show ¬ (k = 3) by (try simp only [z103_0, ← hx22e, z473]); omega) (show k = 4 by (try simp only [z103_0, ← hx22e, z473]); omega); (try simp only [z103_0, ← hx22e, z473] at g9); exact g9))
  refine j_tsO (pc := 1) (tgt := 162) (by decide) ds_X11_playFootball_1 (by omega) (by decide) (by decide) ?_
  refine j_blk (F := fX11) tb_X11 (by decide) bk_X11_playFootball_e_162 hz (fun K hK => ?_)
  refine hK 169 [some (vR 111 0), some (vI m), some (vI k), some (vI s), some (vI p), some (vI q), none] [vI q, vI p, vI s, vI m, vR 111 0] T ?_
  refine j_callV (y := yX11_substitute) (Yc := zX11_substitute) (rest := []) [vI m, vI s, vI p, vI q] (ct_X11_substitute_e (T := T) (by omega) (by omega) (by rcases hp with z | z; omega; exact z) (by exact hq (by omega))) cl_X11_419 (by decide +kernel) (by decide) rfl (by decide +kernel) (Nat.le_of_ble_eq_true rfl) (by decide) (by decide) rfl ?_
  rintro U24 _ ⟨rfl, fU24, ⟨qU24p, qU24e⟩⟩
  show J_ zX11_playFootball T (po_X11_playFootball_e T ru bu m k s p q) 0 0 172 [some (vR 111 0), some (vI m), some (vI k), some (vI s), some (vI p), some (vI q), none] [] U24
  refine j_blk (F := fX11) tb_X11 (by decide) bk_X11_playFootball_e_172 hz (fun K hK => ?_)
  refine (show po_X11_playFootball_e T ru bu m k s p q U24 (none) from ?_)
  have rU24 : rp9_ U24 m = suR_ (rp9_ T m) m s p q := qU24e
  refine ⟨rfl, fr_t (fr_0 _ _) (fr_s fU24 rfl), FM__f (ws := [(245, []), (241, []), (246, [])]) (hfm) fU24 ⟨fun _ => rfl, fun _ => rfl, trivial⟩, so_f (ws := [(245, []), (241, []), (246, [])]) (so_r) fU24 ⟨fun _ => rfl, fun _ => rfl, fun _ => rfl⟩, sb1_f (ws := [(245, []), (241, []), (246, [])]) (sb1_m (c := bu + 4) hsb (by omega)) fU24 ⟨fun _ => rfl, fun _ => rfl, fun _ => rfl⟩, ro_t (ro_r) qU24p, ?_⟩
  exact Eq.trans rU24 (Eq.symm (by have g9 := pfR__8 (r := ru) (a := rp9_ T m) (m := m) (k := k) (s := s) (q := p) (o := q) (show ¬ (k = 0) by (try simp only [z103_0]); omega) (show ¬ (k = 1) by (try simp only [z103_0]); omega) (show ¬ (k = 2) by (try simp only [z103_0]); omega) (show ¬ (k = 3) by (try simp only [z103_0]); omega) (show ¬ (k = 4) by (try simp only [z103_0]); omega); (try simp only [z103_0] at g9); exact g9))
