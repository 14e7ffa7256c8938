theorem bk_X3_playVolleyball_e_0 : ck_ fX3 none cX3_playVolleyball 0 [.aload 0, .tableswitch 0 3 5 #[], .iload 1, .if_icmp .eq 13, .aload 0, .iload 1] 10 = true := qck_r (nn_ _) (by decide +kernel)
theorem bs_X3_playVolleyball_e_0 {P : Zt → Option Zv → Prop} (K : Int → Zl → List Zv → Zt → Prop) : sx_ K P [.aload 0, .tableswitch 0 3 5 #[], .iload 1, .if_icmp .eq 13, .aload 0, .iload 1] 10 = x_aload 0 (x_g0 103 5 0 1 (x_iload 1 (x_if_icmp .eq 13 K (x_aload 0 (x_iload 1 (K 10)))))) := ((xe_aload 0).trans (congrArg (x_aload 0) ((xe_g0 (kk := 103) rfl tl_3_5).trans (congrArg (x_g0 103 5 0 1) ((xe_iload 1).trans (congrArg (x_iload 1) ((xe_if_icmp .eq 13).trans (congrArg (x_if_icmp .eq 13 K) ((xe_aload 0).trans (congrArg (x_aload 0) ((xe_iload 1).trans (congrArg (x_iload 1) xe_nil))))))))))))
theorem bk_X3_playVolleyball_e_13 : ck_ fX3 none cX3_playVolleyball 13 [.aload 0, .iload 1, .tableswitch 1 3 5 #[], .aload 0, .tableswitch 0 3 6 #[], .iload 1, .dup2, .iaload, .iconst 1, .fadd, .iastore, .aload 0, .tableswitch 0 3 4 #[], .iconst 4, .if_icmp .ne 52, .iconst 3, .aload 0, .tableswitch 0 3 0 #[], .iconst 11, .iaload, .imul, .iconst 4, .iadd, .iconst 5, .idiv, .goto 59] 52 = true := qck_r (nn_ _) (by decide +kernel)
theorem bs_X3_playVolleyball_e_13 {P : Zt → Option Zv → Prop} (K : Int → Zl → List Zv → Zt → Prop) : sx_ K P [.aload 0, .iload 1, .tableswitch 1 3 5 #[], .aload 0, .tableswitch 0 3 6 #[], .iload 1, .dup2, .iaload, .iconst 1, .fadd, .iastore, .aload 0, .tableswitch 0 3 4 #[], .iconst 4, .if_icmp .ne 52, .iconst 3, .aload 0, .tableswitch 0 3 0 #[], .iconst 11, .iaload, .imul, .iconst 4, .iadd, .iconst 5, .idiv, .goto 59] 52 = x_aload 0 (x_iload 1 (x_p 103 5 0 1 (x_aload 0 (x_g2 103 466 (x_iload 1 (x_dup2 (x_iaload (x_iconst 1 (x_fadd (x_iastore (x_aload 0 (x_g0 103 4 (-2147483648) 2147483647 (x_iconst 4 (x_if_icmp .ne 52 K (x_iconst 3 (x_aload 0 (x_g3 103 401 0 (x_iconst 11 (x_iaload (x_imul (x_iconst 4 (x_iadd (x_iconst 5 (x_idiv (x_goto 59 K))))))))))))))))))))))))) := ((xe_aload 0).trans (congrArg (x_aload 0) ((xe_iload 1).trans (congrArg (x_iload 1) ((xe_p (kk := 103) rfl tl_3_5).trans (congrArg (x_p 103 5 0 1) ((xe_aload 0).trans (congrArg (x_aload 0) ((xe_g2 (kk := 103) rfl tl_3_6).trans (congrArg (x_g2 103 466) ((xe_iload 1).trans (congrArg (x_iload 1) ((xe_dup2).trans (congrArg (x_dup2) ((xe_iaload).trans (congrArg (x_iaload) ((xe_iconst 1).trans (congrArg (x_iconst 1) ((xe_fadd).trans (congrArg (x_fadd) ((xe_iastore).trans (congrArg (x_iastore) ((xe_aload 0).trans (congrArg (x_aload 0) ((xe_g0 (kk := 103) rfl tl_3_4).trans (congrArg (x_g0 103 4 (-2147483648) 2147483647) ((xe_iconst 4).trans (congrArg (x_iconst 4) ((xe_if_icmp .ne 52).trans (congrArg (x_if_icmp .ne 52 K) ((xe_iconst 3).trans (congrArg (x_iconst 3) ((xe_aload 0).trans (congrArg (x_aload 0) ((xe_g3 (kk := 103) rfl tl_3_0).trans (congrArg (x_g3 103 401 0) ((xe_iconst 11).trans (congrArg (x_iconst 11) ((xe_iaload).trans (congrArg (x_iaload) ((xe_imul).trans (congrArg (x_imul) ((xe_iconst 4).trans (congrArg (x_iconst 4) ((xe_iadd).trans (congrArg (x_iadd) ((xe_iconst 5).trans (congrArg (x_iconst 5) ((xe_idiv).trans (congrArg (x_idiv) (xe_goto 59)))))))))))))))))))))))))))))))))))))))))))))))))))
theorem bk_X3_playVolleyball_e_52 : ck_ fX3 none cX3_playVolleyball 52 [.aload 0, .tableswitch 0 3 0 #[], .iconst 11, .iaload, .istore 2, .aload 0, .tableswitch 0 3 6 #[], .iload 1, .iload 2] 66 = true := qck_r (nn_ _) (by decide +kernel)
theorem bs_X3_playVolleyball_e_52 {P : Zt → Option Zv → Prop} (K : Int → Zl → List Zv → Zt → Prop) : sx_ K P [.aload 0, .tableswitch 0 3 0 #[], .iconst 11, .iaload, .istore 2, .aload 0, .tableswitch 0 3 6 #[], .iload 1, .iload 2] 66 = x_aload 0 (x_g3 103 401 0 (x_iconst 11 (x_iaload (x_istore 2 (x_aload 0 (x_g2 103 466 (x_iload 1 (x_iload 2 (K 66))))))))) := ((xe_aload 0).trans (congrArg (x_aload 0) ((xe_g3 (kk := 103) rfl tl_3_0).trans (congrArg (x_g3 103 401 0) ((xe_iconst 11).trans (congrArg (x_iconst 11) ((xe_iaload).trans (congrArg (x_iaload) ((xe_istore 2).trans (congrArg (x_istore 2) ((xe_aload 0).trans (congrArg (x_aload 0) ((xe_g2 (kk := 103) rfl tl_3_6).trans (congrArg (x_g2 103 466) ((xe_iload 1).trans (congrArg (x_iload 1) ((xe_iload 2).trans (congrArg (x_iload 2) xe_nil))))))))))))))))))
theorem bk_X3_playVolleyball_e_69 : ck_ fX3 none cX3_playVolleyball 69 [.ifCond .ne 73, .return_] 73 = true := qck_r (nn_ _) (by decide +kernel)
theorem bs_X3_playVolleyball_e_69 {P : Zt → Option Zv → Prop} (K : Int → Zl → List Zv → Zt → Prop) : sx_ K P [.ifCond .ne 73, .return_] 73 = x_ifCond .ne 73 K (x_return_ P) := ((xe_ifCond .ne 73).trans (congrArg (x_ifCond .ne 73 K) (xe_return_)))
theorem bk_X3_playVolleyball_e_73 : ck_ fX3 none cX3_playVolleyball 73 [.aload 0, .tableswitch 0 3 6 #[], .iconst 0] 78 = true := qck_r (nn_ _) (by decide +kernel)
theorem bs_X3_playVolleyball_e_73 {P : Zt → Option Zv → Prop} (K : Int → Zl → List Zv → Zt → Prop) : sx_ K P [.aload 0, .tableswitch 0 3 6 #[], .iconst 0] 78 = x_aload 0 (x_g2 103 466 (x_iconst 0 (K 78))) := ((xe_aload 0).trans (congrArg (x_aload 0) ((xe_g2 (kk := 103) rfl tl_3_6).trans (congrArg (x_g2 103 466) ((xe_iconst 0).trans (congrArg (x_iconst 0) xe_nil))))))
theorem bk_X3_playVolleyball_e_81 : ck_ fX3 none cX3_playVolleyball 81 [.aload 0, .tableswitch 0 3 8 #[], .iload 1, .dup2, .iaload, .iconst 1, .fadd, .iastore, .aload 0, .tableswitch 0 3 8 #[], .iload 1, .iaload, .iconst 3, .if_icmp .ne 107, .aload 0, .iconst 1, .tableswitch 1 3 3 #[], .return_] 107 = true := qck_r (nn_ _) (by decide +kernel)
theorem bs_X3_playVolleyball_e_81 {P : Zt → Option Zv → Prop} (K : Int → Zl → List Zv → Zt → Prop) : sx_ K P [.aload 0, .tableswitch 0 3 8 #[], .iload 1, .dup2, .iaload, .iconst 1, .fadd, .iastore, .aload 0, .tableswitch 0 3 8 #[], .iload 1, .iaload, .iconst 3, .if_icmp .ne 107, .aload 0, .iconst 1, .tableswitch 1 3 3 #[], .return_] 107 = x_aload 0 (x_g2 103 468 (x_iload 1 (x_dup2 (x_iaload (x_iconst 1 (x_fadd (x_iastore (x_aload 0 (x_g2 103 468 (x_iload 1 (x_iaload (x_iconst 3 (x_if_icmp .ne 107 K (x_aload 0 (x_iconst 1 (x_p 103 3 0 1 (x_return_ P))))))))))))))))) := ((xe_aload 0).trans (congrArg (x_aload 0) ((xe_g2 (kk := 103) rfl tl_3_8).trans (congrArg (x_g2 103 468) ((xe_iload 1).trans (congrArg (x_iload 1) ((xe_dup2).trans (congrArg (x_dup2) ((xe_iaload).trans (congrArg (x_iaload) ((xe_iconst 1).trans (congrArg (x_iconst 1) ((xe_fadd).trans (congrArg (x_fadd) ((xe_iastore).trans (congrArg (x_iastore) ((xe_aload 0).trans (congrArg (x_aload 0) ((xe_g2 (kk := 103) rfl tl_3_8).trans (congrArg (x_g2 103 468) ((xe_iload 1).trans (congrArg (x_iload 1) ((xe_iaload).trans (congrArg (x_iaload) ((xe_iconst 3).trans (congrArg (x_iconst 3) ((xe_if_icmp .ne 107).trans (congrArg (x_if_icmp .ne 107 K) ((xe_aload 0).trans (congrArg (x_aload 0) ((xe_iconst 1).trans (congrArg (x_iconst 1) ((xe_p (kk := 103) rfl tl_3_3).trans (congrArg (x_p 103 3 0 1) (xe_return_)))))))))))))))))))))))))))))))))))
theorem bk_X3_playVolleyball_e_107 : ck_ fX3 none cX3_playVolleyball 107 [.aload 0, .dup, .tableswitch 0 3 4 #[], .iconst 1, .fadd, .tableswitch 1 3 4 #[], .aload 0, .aload 0, .tableswitch 0 3 4 #[], .iconst 1, .iand, .tableswitch 1 3 5 #[], .return_] 128 = true := qck_r (nn_ _) (by decide +kernel)
theorem bs_X3_playVolleyball_e_107 {P : Zt → Option Zv → Prop} (K : Int → Zl → List Zv → Zt → Prop) : sx_ K P [.aload 0, .dup, .tableswitch 0 3 4 #[], .iconst 1, .fadd, .tableswitch 1 3 4 #[], .aload 0, .aload 0, .tableswitch 0 3 4 #[], .iconst 1, .iand, .tableswitch 1 3 5 #[], .return_] 128 = x_aload 0 (x_dup (x_g0 103 4 (-2147483648) 2147483647 (x_iconst 1 (x_fadd (x_p 103 4 (-2147483648) 2147483647 (x_aload 0 (x_aload 0 (x_g0 103 4 (-2147483648) 2147483647 (x_iconst 1 (x_iand (x_p 103 5 0 1 (x_return_ P)))))))))))) := ((xe_aload 0).trans (congrArg (x_aload 0) ((xe_dup).trans (congrArg (x_dup) ((xe_g0 (kk := 103) rfl tl_3_4).trans (congrArg (x_g0 103 4 (-2147483648) 2147483647) ((xe_iconst 1).trans (congrArg (x_iconst 1) ((xe_fadd).trans (congrArg (x_fadd) ((xe_p (kk := 103) rfl tl_3_4).trans (congrArg (x_p 103 4 (-2147483648) 2147483647) ((xe_aload 0).trans (congrArg (x_aload 0) ((xe_aload 0).trans (congrArg (x_aload 0) ((xe_g0 (kk := 103) rfl tl_3_4).trans (congrArg (x_g0 103 4 (-2147483648) 2147483647) ((xe_iconst 1).trans (congrArg (x_iconst 1) ((xe_iand).trans (congrArg (x_iand) ((xe_p (kk := 103) rfl tl_3_5).trans (congrArg (x_p 103 5 0 1) (xe_return_)))))))))))))))))))))))))
theorem bk_X3_playVolleyball_e_59 : ck_ fX3 none cX3_playVolleyball 59 [.istore 2, .aload 0, .tableswitch 0 3 6 #[], .iload 1, .iload 2] 66 = true := qck_r (nn_ _) (by decide +kernel)
theorem bs_X3_playVolleyball_e_59 {P : Zt → Option Zv → Prop} (K : Int → Zl → List Zv → Zt → Prop) : sx_ K P [.istore 2, .aload 0, .tableswitch 0 3 6 #[], .iload 1, .iload 2] 66 = x_istore 2 (x_aload 0 (x_g2 103 466 (x_iload 1 (x_iload 2 (K 66))))) := ((xe_istore 2).trans (congrArg (x_istore 2) ((xe_aload 0).trans (congrArg (x_aload 0) ((xe_g2 (kk := 103) rfl tl_3_6).trans (congrArg (x_g2 103 466) ((xe_iload 1).trans (congrArg (x_iload 1) ((xe_iload 2).trans (congrArg (x_iload 2) xe_nil))))))))))
abbrev po_X3_playVolleyball_e (T : Zt) (p : Int) (ru : Int → Int) (s : Int) : Zt → Option Zv → Prop := fun T' r => r = none ∧ fr_ [(471, []), (103, [3, 4, 5]), (466, []), (468, [])] T T' ∧ (oi_ T T' p ∧ (T' 103 p 3 = 0 → 1 ≤ T' 470 p 0 ∧ 1 ≤ T' 470 p 1) ∧ rs9_ T' p = pv9_ ru (rs9_ T p) s)
set_option maxHeartbeats 4000000 in
theorem ct_X3_playVolleyball_e {T : Zt} {p : Int} {ru : Int → Int} {s : Int} (hr : RLP_ T p ru) (hs : 0 ≤ s ∧ s ≤ 1) (hfd : 1 ≤ T 470 p 0 ∧ 1 ≤ T 470 p 1) : Ct_ yX3_playVolleyball zX3_playVolleyball T [vR 103 p, vI s] (po_X3_playVolleyball_e T p ru s) := by
  refine ct_of pn_3 rfl rfl (Nat.le_of_ble_eq_true rfl) (fun hT hav => ?_)
  have hr_s : -2147483648 ≤ s ∧ s ≤ 2147483647 := hav (vI s) (List.mem_cons_of_mem _ List.mem_cons_self)
  have hz : zX3_playVolleyball.2.2.2.1 = some .boolean → ∀ (T' : Zt) (x : Int), po_X3_playVolleyball_e T p ru s T' (some (vI x)) → 0 ≤ x ∧ x ≤ 1 := fun h => by cases h
  have hr0 := hr 0 (by decide) (by decide)
  have hr9 := hr 9 (by decide) (by decide)
  have hr10 := hr 10 (by decide) (by decide)
  have hr11 := hr 11 (by decide) (by decide)
  have hr12 := hr 12 (by decide) (by decide)
  have hfx : 1 ≤ T 470 p s := by rcases (by omega : s = 0 ∨ s = 1) with z | z <;> rw [z] <;> omega
  show J_ zX3_playVolleyball T (po_X3_playVolleyball_e T p ru s) 0 0 0 [some (vR 103 p), some (vI s), none] [] T
  refine j_blx (F := fX3) tb_X3 (nn_ _) bk_X3_playVolleyball_e_0 bs_X3_playVolleyball_e_0 hz (fun K hK => ?_)
  intro b1 b1b
  refine And.intro (fun c2 => ?_) (fun c2 => ?_)
  · refine hK 13 _ [] T ?_
    refine j_blx (F := fX3) tb_X3 (nn_ _) bk_X3_playVolleyball_e_13 bs_X3_playVolleyball_e_13 hz (fun K hK => ?_)
    refine bd_i (by omega) ?_
    refine x_nm (fun U3 hU3 => ?_)
    have e4 := up_f hU3
    refine ix_i (by omega) ?_
    intro b5 b5b
    have e6 : U3 466 p s = T 466 p s := up_k hU3 (by exact Nat.ne_of_beq_eq_false rfl) p s
    rw [e6] at b5 b5b ⊢
    intro w7 w7b
    refine iy_i (by omega) (by omega) ?_
    refine x_nm (fun U8 hU8 => ?_)
    have e9 := up_f hU8
    intro b10 b10b
    have e11 : U8 103 p 4 = T 103 p 4 := (up_k hU8 (by exact Nat.ne_of_beq_eq_false rfl) p 4).trans (up_j hU3 (by decide) 103 p)
    rw [e11] at b10 b10b ⊢
    refine And.intro (fun c12 => ?_) (fun c12 => ?_)
    · refine hK 52 _ [] U8 ?_
      refine j_blx (F := fX3) tb_X3 (nn_ _) bk_X3_playVolleyball_e_52 bs_X3_playVolleyball_e_52 hz (fun K hK => ?_)
      have e14 : U8 103 p 0 = T 103 p 0 := (up_k hU8 (by exact Nat.ne_of_beq_eq_false rfl) p 0).trans (up_j hU3 (by decide) 103 p)
      refine ix_i (by omega) ?_
      intro b15 b15b
      have e16 : U8 401 (T 103 p 0) 11 = T 401 (T 103 p 0) 11 := (up_k hU8 (by exact Nat.ne_of_beq_eq_false rfl) (T 103 p 0) 11).trans (up_k hU3 (by exact Nat.ne_of_beq_eq_false rfl) (T 103 p 0) 11)
      have e17 : U8 401 (U8 103 p 0) 11 = T 401 (T 103 p 0) 11 := by rw [e14]; exact e16
      rw [e17] at b15 b15b ⊢
      refine hK 66 [some (vR 103 p), some (vI s), some (vI (T 401 (T 103 p 0) 11))] [vI (T 401 (T 103 p 0) 11), vI s, vR 466 p] U8 ?_
      have e18 : U8 466 p s = wr_ ((T 466 p s) + 1) := up_f hU8
      have e19 : U8 466 p (1 - s) = T 466 p (1 - s) := (up_g hU8 (by omega)).trans (up_k hU3 (by exact Nat.ne_of_beq_eq_false rfl) p (1 - s))
      refine j_callS (y := yX3_isWon) (Yc := zX3_isWon) (rest := []) [vR 466 p, vI s, vI (T 401 (T 103 p 0) 11)] (ct_X3_isWon_466_e (T := U8) (by omega)) cl_X3_125 (qd_c (by decide +kernel)) (nn_ _) rfl (rf_of rfl) (Nat.le_of_ble_eq_true rfl) (Nat.le_of_ble_eq_true rfl) (Nat.le_of_ble_eq_true rfl) rfl ?_
      rintro _ _ ⟨rfl, x20, rfl, hx20⟩
      rw [e18, e19] at hx20
      show J_ zX3_playVolleyball T (po_X3_playVolleyball_e T p ru s) 0 0 69 _ [vI x20] U8
      refine j_blx (F := fX3) tb_X3 (nn_ _) bk_X3_playVolleyball_e_69 bs_X3_playVolleyball_e_69 hz (fun K hK => ?_)
      refine And.intro (fun c21 => ?_) (fun c21 => ?_)
      · replace hx20 := hx20.resolve_right (fun z => c21 z.1)
        clear c21
        refine hK 73 _ [] U8 ?_
        refine j_blx (F := fX3) tb_X3 (nn_ _) bk_X3_playVolleyball_e_73 bs_X3_playVolleyball_e_73 hz (fun K hK => ?_)
        refine hK 78 _ [vI 0, vR 466 p] U8 ?_
        refine j_callS (y := yJ7_fill_53178) (Yc := zJ7_fill_53178) (rest := []) [vR 466 p, vI 0] (ct_J7_fill_466_e (T := U8) (by omega)) cl_X3_62 (qd_c (by decide +kernel)) (nn_ _) rfl (rf_of rfl) (Nat.le_of_ble_eq_true rfl) (Nat.le_of_ble_eq_true rfl) (Nat.le_of_ble_eq_true rfl) rfl ?_
        rintro U22 _ ⟨rfl, fU22, qU22o, qU22, qU22e⟩
        show J_ zX3_playVolleyball T (po_X3_playVolleyball_e T p ru s) 0 0 81 _ [] U22
        refine j_blx (F := fX3) tb_X3 (nn_ _) bk_X3_playVolleyball_e_81 bs_X3_playVolleyball_e_81 hz (fun K hK => ?_)
        refine ix_i (by omega) ?_
        intro b23 b23b
        have e24 : U22 468 p s = T 468 p s := (fU22 468 p s rfl).trans ((up_k hU8 (by exact Nat.ne_of_beq_eq_false rfl) p s).trans (up_k hU3 (by exact Nat.ne_of_beq_eq_false rfl) p s))
        rw [e24] at b23 b23b ⊢
        intro w25 w25b
        refine iy_i (by omega) (by omega) ?_
        refine x_nm (fun U26 hU26 => ?_)
        have e27 := up_f hU26
        refine ix_i (by omega) ?_
        intro b28 b28b
        have e29 : U26 468 p s = wr_ ((T 468 p s) + 1) := up_f hU26
        rw [e29] at b28 b28b ⊢
        refine And.intro (fun c30 => ?_) (fun c30 => ?_)
        · refine hK 107 _ [] U26 ?_
          refine j_blx (F := fX3) tb_X3 (nn_ _) bk_X3_playVolleyball_e_107 bs_X3_playVolleyball_e_107 hz (fun K hK => ?_)
          intro b31 b31b
          have e32 : U26 103 p 4 = T 103 p 4 := (up_k hU26 (by exact Nat.ne_of_beq_eq_false rfl) p 4).trans ((fU22 103 p 4 rfl).trans ((up_k hU8 (by exact Nat.ne_of_beq_eq_false rfl) p 4).trans (up_j hU3 (by decide) 103 p)))
          rw [e32] at b31 b31b ⊢
          intro w33 w33b
          refine bd_i (by omega) ?_
          refine x_nm (fun U34 hU34 => ?_)
          have e35 := up_f hU34
          intro b36 b36b
          have e37 : U34 103 p 4 = wr_ ((T 103 p 4) + 1) := up_f hU34
          rw [e37] at b36 b36b ⊢
          intro w38 w38b
          have n39 := an_1b (wr_ ((T 103 p 4) + 1))
          refine bd_i (by omega) ?_
          refine x_nm (fun U40 hU40 => ?_)
          have e41 := up_f hU40
          refine (show po_X3_playVolleyball_e T p ru s U40 (none) from ?_)
          have e42 : U40 103 p 3 = T 103 p 3 := (up_j hU40 (by decide) 103 p).trans ((up_j hU34 (by decide) 103 p).trans ((up_k hU26 (by exact Nat.ne_of_beq_eq_false rfl) p 3).trans ((fU22 103 p 3 rfl).trans ((up_k hU8 (by exact Nat.ne_of_beq_eq_false rfl) p 3).trans (up_j hU3 (by decide) 103 p)))))
          have e43 : U40 470 p 0 = T 470 p 0 := (up_k hU40 (by exact Nat.ne_of_beq_eq_false rfl) p 0).trans ((up_k hU34 (by exact Nat.ne_of_beq_eq_false rfl) p 0).trans ((up_k hU26 (by exact Nat.ne_of_beq_eq_false rfl) p 0).trans ((fU22 470 p 0 rfl).trans ((up_k hU8 (by exact Nat.ne_of_beq_eq_false rfl) p 0).trans (up_k hU3 (by exact Nat.ne_of_beq_eq_false rfl) p 0)))))
          have e44 : U40 470 p 1 = T 470 p 1 := (up_k hU40 (by exact Nat.ne_of_beq_eq_false rfl) p 1).trans ((up_k hU34 (by exact Nat.ne_of_beq_eq_false rfl) p 1).trans ((up_k hU26 (by exact Nat.ne_of_beq_eq_false rfl) p 1).trans ((fU22 470 p 1 rfl).trans ((up_k hU8 (by exact Nat.ne_of_beq_eq_false rfl) p 1).trans (up_k hU3 (by exact Nat.ne_of_beq_eq_false rfl) p 1)))))
          have g45 : U40 470 p 0 = T 470 p 0 := (up_k hU40 (by exact Nat.ne_of_beq_eq_false rfl) p 0).trans ((up_k hU34 (by exact Nat.ne_of_beq_eq_false rfl) p 0).trans ((up_k hU26 (by exact Nat.ne_of_beq_eq_false rfl) p 0).trans ((fU22 470 p 0 rfl).trans ((up_k hU8 (by exact Nat.ne_of_beq_eq_false rfl) p 0).trans (up_k hU3 (by exact Nat.ne_of_beq_eq_false rfl) p 0)))))
          have g46 : U40 470 p 1 = T 470 p 1 := (up_k hU40 (by exact Nat.ne_of_beq_eq_false rfl) p 1).trans ((up_k hU34 (by exact Nat.ne_of_beq_eq_false rfl) p 1).trans ((up_k hU26 (by exact Nat.ne_of_beq_eq_false rfl) p 1).trans ((fU22 470 p 1 rfl).trans ((up_k hU8 (by exact Nat.ne_of_beq_eq_false rfl) p 1).trans (up_k hU3 (by exact Nat.ne_of_beq_eq_false rfl) p 1)))))
          have e47 : U40 103 p 3 = T 103 p 3 := (up_j hU40 (by decide) 103 p).trans ((up_j hU34 (by decide) 103 p).trans ((up_k hU26 (by exact Nat.ne_of_beq_eq_false rfl) p 3).trans ((fU22 103 p 3 rfl).trans ((up_k hU8 (by exact Nat.ne_of_beq_eq_false rfl) p 3).trans (up_j hU3 (by decide) 103 p)))))
          have rU3 : rs9_ U3 p = u2_ (rs9_ T p) 103 5 s := rs_u hU3 rfl
          have rU8 : rs9_ U8 p = u2_ (u2_ (rs9_ T p) 103 5 s) 466 s (wr_ ((T 466 p s) + 1)) := by rw [rs_u hU8 rfl, rU3]
          have rU22 : rs9_ U22 p = fy2_ (u2_ (u2_ (rs9_ T p) 103 5 s) 466 s (wr_ ((T 466 p s) + 1))) 466 2 0 := by rw [qU22e, rU8]
          have rU26 : rs9_ U26 p = u2_ (fy2_ (u2_ (u2_ (rs9_ T p) 103 5 s) 466 s (wr_ ((T 466 p s) + 1))) 466 2 0) 468 s (wr_ ((T 468 p s) + 1)) := by rw [rs_u hU26 rfl, rU22]
          have rU34 : rs9_ U34 p = u2_ (u2_ (fy2_ (u2_ (u2_ (rs9_ T p) 103 5 s) 466 s (wr_ ((T 466 p s) + 1))) 466 2 0) 468 s (wr_ ((T 468 p s) + 1))) 103 4 (wr_ ((T 103 p 4) + 1)) := by rw [rs_u hU34 rfl, rU26]
          have rU40 : rs9_ U40 p = u2_ (u2_ (u2_ (fy2_ (u2_ (u2_ (rs9_ T p) 103 5 s) 466 s (wr_ ((T 466 p s) + 1))) 466 2 0) 468 s (wr_ ((T 468 p s) + 1))) 103 4 (wr_ ((T 103 p 4) + 1))) 103 5 (an_ (wr_ ((T 103 p 4) + 1)) 1) := by rw [rs_u hU40 rfl, rU34]
          exact ⟨rfl, fr_u (fr_u (fr_u (fr_t (fr_u (fr_u (fr_0 _ _) hU3 rfl) hU8 rfl) (fr_s fU22 rfl)) hU26 rfl) hU34 rfl) hU40 rfl, oi_u (oi_u (oi_u (oi_t (oi_u (oi_u (oi_r) hU3) hU8) qU22o) hU26) hU34) hU40, by exact fun _ => by omega, Eq.trans rU40 (pv9__5 (r := ru) (a := (rs9_ T p)) (s := s) (show T 103 p 5 = s by omega) (show ¬ (T 103 p 4 = 4) by omega) (show ru 11 ≤ wr_ (T 466 p s + 1) ∧ 2 ≤ wr_ (wr_ (T 466 p s + 1) - T 466 p (1 - s)) by omega) (show ¬ (wr_ (T 468 p s + 1) = 3) by omega)).symm⟩
        · refine bd_i (by omega) ?_
          refine x_nm (fun U48 hU48 => ?_)
          have e49 := up_f hU48
          refine (show po_X3_playVolleyball_e T p ru s U48 (none) from ?_)
          have e50 : U48 103 p 3 = 1 := up_f hU48
          have e51 : U48 470 p 0 = T 470 p 0 := (up_k hU48 (by exact Nat.ne_of_beq_eq_false rfl) p 0).trans ((up_k hU26 (by exact Nat.ne_of_beq_eq_false rfl) p 0).trans ((fU22 470 p 0 rfl).trans ((up_k hU8 (by exact Nat.ne_of_beq_eq_false rfl) p 0).trans (up_k hU3 (by exact Nat.ne_of_beq_eq_false rfl) p 0))))
          have e52 : U48 470 p 1 = T 470 p 1 := (up_k hU48 (by exact Nat.ne_of_beq_eq_false rfl) p 1).trans ((up_k hU26 (by exact Nat.ne_of_beq_eq_false rfl) p 1).trans ((fU22 470 p 1 rfl).trans ((up_k hU8 (by exact Nat.ne_of_beq_eq_false rfl) p 1).trans (up_k hU3 (by exact Nat.ne_of_beq_eq_false rfl) p 1))))
          have g53 : U48 470 p 0 = T 470 p 0 := (up_k hU48 (by exact Nat.ne_of_beq_eq_false rfl) p 0).trans ((up_k hU26 (by exact Nat.ne_of_beq_eq_false rfl) p 0).trans ((fU22 470 p 0 rfl).trans ((up_k hU8 (by exact Nat.ne_of_beq_eq_false rfl) p 0).trans (up_k hU3 (by exact Nat.ne_of_beq_eq_false rfl) p 0))))
          have g54 : U48 470 p 1 = T 470 p 1 := (up_k hU48 (by exact Nat.ne_of_beq_eq_false rfl) p 1).trans ((up_k hU26 (by exact Nat.ne_of_beq_eq_false rfl) p 1).trans ((fU22 470 p 1 rfl).trans ((up_k hU8 (by exact Nat.ne_of_beq_eq_false rfl) p 1).trans (up_k hU3 (by exact Nat.ne_of_beq_eq_false rfl) p 1))))
          have e55 : U48 103 p 3 = 1 := up_f hU48
          have rU3 : rs9_ U3 p = u2_ (rs9_ T p) 103 5 s := rs_u hU3 rfl
          have rU8 : rs9_ U8 p = u2_ (u2_ (rs9_ T p) 103 5 s) 466 s (wr_ ((T 466 p s) + 1)) := by rw [rs_u hU8 rfl, rU3]
          have rU22 : rs9_ U22 p = fy2_ (u2_ (u2_ (rs9_ T p) 103 5 s) 466 s (wr_ ((T 466 p s) + 1))) 466 2 0 := by rw [qU22e, rU8]
          have rU26 : rs9_ U26 p = u2_ (fy2_ (u2_ (u2_ (rs9_ T p) 103 5 s) 466 s (wr_ ((T 466 p s) + 1))) 466 2 0) 468 s (wr_ ((T 468 p s) + 1)) := by rw [rs_u hU26 rfl, rU22]
          have rU48 : rs9_ U48 p = u2_ (u2_ (fy2_ (u2_ (u2_ (rs9_ T p) 103 5 s) 466 s (wr_ ((T 466 p s) + 1))) 466 2 0) 468 s (wr_ ((T 468 p s) + 1))) 103 3 1 := by rw [rs_u hU48 rfl, rU26]
          exact ⟨rfl, fr_u (fr_u (fr_t (fr_u (fr_u (fr_0 _ _) hU3 rfl) hU8 rfl) (fr_s fU22 rfl)) hU26 rfl) hU48 rfl, oi_u (oi_u (oi_t (oi_u (oi_u (oi_r) hU3) hU8) qU22o) hU26) hU48, by exact fun _ => by omega, Eq.trans rU48 (pv9__4 (r := ru) (a := (rs9_ T p)) (s := s) (show T 103 p 5 = s by omega) (show ¬ (T 103 p 4 = 4) by omega) (show ru 11 ≤ wr_ (T 466 p s + 1) ∧ 2 ≤ wr_ (wr_ (T 466 p s + 1) - T 466 p (1 - s)) by omega) (show wr_ (T 468 p s + 1) = 3 by omega)).symm⟩
      · replace hx20 := hx20.resolve_left (fun z => absurd (c21.symm.trans z.1) (by decide))
        clear c21
        refine (show po_X3_playVolleyball_e T p ru s U8 (none) from ?_)
        have e56 : U8 103 p 3 = T 103 p 3 := (up_k hU8 (by exact Nat.ne_of_beq_eq_false rfl) p 3).trans (up_j hU3 (by decide) 103 p)
        have e57 : U8 470 p 0 = T 470 p 0 := (up_k hU8 (by exact Nat.ne_of_beq_eq_false rfl) p 0).trans (up_k hU3 (by exact Nat.ne_of_beq_eq_false rfl) p 0)
        have e58 : U8 470 p 1 = T 470 p 1 := (up_k hU8 (by exact Nat.ne_of_beq_eq_false rfl) p 1).trans (up_k hU3 (by exact Nat.ne_of_beq_eq_false rfl) p 1)
        have g59 : U8 470 p 0 = T 470 p 0 := (up_k hU8 (by exact Nat.ne_of_beq_eq_false rfl) p 0).trans (up_k hU3 (by exact Nat.ne_of_beq_eq_false rfl) p 0)
        have g60 : U8 470 p 1 = T 470 p 1 := (up_k hU8 (by exact Nat.ne_of_beq_eq_false rfl) p 1).trans (up_k hU3 (by exact Nat.ne_of_beq_eq_false rfl) p 1)
        have e61 : U8 103 p 3 = T 103 p 3 := (up_k hU8 (by exact Nat.ne_of_beq_eq_false rfl) p 3).trans (up_j hU3 (by decide) 103 p)
        have rU3 : rs9_ U3 p = u2_ (rs9_ T p) 103 5 s := rs_u hU3 rfl
        have rU8 : rs9_ U8 p = u2_ (u2_ (rs9_ T p) 103 5 s) 466 s (wr_ ((T 466 p s) + 1)) := by rw [rs_u hU8 rfl, rU3]
        exact ⟨rfl, fr_u (fr_u (fr_0 _ _) hU3 rfl) hU8 rfl, oi_u (oi_u (oi_r) hU3) hU8, by exact fun _ => by omega, Eq.trans rU8 (pv9__6 (r := ru) (a := (rs9_ T p)) (s := s) (show T 103 p 5 = s by omega) (show ¬ (T 103 p 4 = 4) by omega) (show ¬ (ru 11 ≤ wr_ (T 466 p s + 1) ∧ 2 ≤ wr_ (wr_ (T 466 p s + 1) - T 466 p (1 - s))) by omega)).symm⟩
    · have e63 : U8 103 p 0 = T 103 p 0 := (up_k hU8 (by exact Nat.ne_of_beq_eq_false rfl) p 0).trans (up_j hU3 (by decide) 103 p)
      refine ix_i (by omega) ?_
      intro b64 b64b
      have e65 : U8 401 (T 103 p 0) 11 = T 401 (T 103 p 0) 11 := (up_k hU8 (by exact Nat.ne_of_beq_eq_false rfl) (T 103 p 0) 11).trans (up_k hU3 (by exact Nat.ne_of_beq_eq_false rfl) (T 103 p 0) 11)
      have e66 : U8 401 (U8 103 p 0) 11 = T 401 (T 103 p 0) 11 := by rw [e63]; exact e65
      rw [e66] at b64 b64b ⊢
      refine rg_i (by omega) ?_
      refine rg_i (by omega) ?_
      refine dv_i (by omega) ?_
      refine hK 59 [some (vR 103 p), some (vI s), none] [vI (((3 * (T 401 (T 103 p 0) 11)) + 4) / 5)] U8 ?_
      refine j_blx (F := fX3) tb_X3 (nn_ _) bk_X3_playVolleyball_e_59 bs_X3_playVolleyball_e_59 hz (fun K hK => ?_)
      refine hK 66 [some (vR 103 p), some (vI s), some (vI (((3 * (T 401 (T 103 p 0) 11)) + 4) / 5))] [vI (((3 * (T 401 (T 103 p 0) 11)) + 4) / 5), vI s, vR 466 p] U8 ?_
      have e67 : U8 466 p s = wr_ ((T 466 p s) + 1) := up_f hU8
      have e68 : U8 466 p (1 - s) = T 466 p (1 - s) := (up_g hU8 (by omega)).trans (up_k hU3 (by exact Nat.ne_of_beq_eq_false rfl) p (1 - s))
      refine j_callS (y := yX3_isWon) (Yc := zX3_isWon) (rest := []) [vR 466 p, vI s, vI (((3 * (T 401 (T 103 p 0) 11)) + 4) / 5)] (ct_X3_isWon_466_e (T := U8) (by omega)) cl_X3_125 (qd_c (by decide +kernel)) (nn_ _) rfl (rf_of rfl) (Nat.le_of_ble_eq_true rfl) (Nat.le_of_ble_eq_true rfl) (Nat.le_of_ble_eq_true rfl) rfl ?_
      rintro _ _ ⟨rfl, x69, rfl, hx69⟩
      rw [e67, e68] at hx69
      show J_ zX3_playVolleyball T (po_X3_playVolleyball_e T p ru s) 0 0 69 _ [vI x69] U8
      refine j_blx (F := fX3) tb_X3 (nn_ _) bk_X3_playVolleyball_e_69 bs_X3_playVolleyball_e_69 hz (fun K hK => ?_)
      refine And.intro (fun c70 => ?_) (fun c70 => ?_)
      · replace hx69 := hx69.resolve_right (fun z => c70 z.1)
        clear c70
        refine hK 73 _ [] U8 ?_
        refine j_blx (F := fX3) tb_X3 (nn_ _) bk_X3_playVolleyball_e_73 bs_X3_playVolleyball_e_73 hz (fun K hK => ?_)
        refine hK 78 _ [vI 0, vR 466 p] U8 ?_
        refine j_callS (y := yJ7_fill_53178) (Yc := zJ7_fill_53178) (rest := []) [vR 466 p, vI 0] (ct_J7_fill_466_e (T := U8) (by omega)) cl_X3_62 (qd_c (by decide +kernel)) (nn_ _) rfl (rf_of rfl) (Nat.le_of_ble_eq_true rfl) (Nat.le_of_ble_eq_true rfl) (Nat.le_of_ble_eq_true rfl) rfl ?_
        rintro U71 _ ⟨rfl, fU71, qU71o, qU71, qU71e⟩
        show J_ zX3_playVolleyball T (po_X3_playVolleyball_e T p ru s) 0 0 81 _ [] U71
        refine j_blx (F := fX3) tb_X3 (nn_ _) bk_X3_playVolleyball_e_81 bs_X3_playVolleyball_e_81 hz (fun K hK => ?_)
        refine ix_i (by omega) ?_
        intro b72 b72b
        have e73 : U71 468 p s = T 468 p s := (fU71 468 p s rfl).trans ((up_k hU8 (by exact Nat.ne_of_beq_eq_false rfl) p s).trans (up_k hU3 (by exact Nat.ne_of_beq_eq_false rfl) p s))
        rw [e73] at b72 b72b ⊢
        intro w74 w74b
        refine iy_i (by omega) (by omega) ?_
        refine x_nm (fun U75 hU75 => ?_)
        have e76 := up_f hU75
        refine ix_i (by omega) ?_
        intro b77 b77b
        have e78 : U75 468 p s = wr_ ((T 468 p s) + 1) := up_f hU75
        rw [e78] at b77 b77b ⊢
        refine And.intro (fun c79 => ?_) (fun c79 => ?_)
        · refine hK 107 _ [] U75 ?_
          refine j_blx (F := fX3) tb_X3 (nn_ _) bk_X3_playVolleyball_e_107 bs_X3_playVolleyball_e_107 hz (fun K hK => ?_)
          intro b80 b80b
          have e81 : U75 103 p 4 = T 103 p 4 := (up_k hU75 (by exact Nat.ne_of_beq_eq_false rfl) p 4).trans ((fU71 103 p 4 rfl).trans ((up_k hU8 (by exact Nat.ne_of_beq_eq_false rfl) p 4).trans (up_j hU3 (by decide) 103 p)))
          rw [e81] at b80 b80b ⊢
          intro w82 w82b
          refine bd_i (by omega) ?_
          refine x_nm (fun U83 hU83 => ?_)
          have e84 := up_f hU83
          intro b85 b85b
          have e86 : U83 103 p 4 = wr_ ((T 103 p 4) + 1) := up_f hU83
          rw [e86] at b85 b85b ⊢
          intro w87 w87b
          have n88 := an_1b (wr_ ((T 103 p 4) + 1))
          refine bd_i (by omega) ?_
          refine x_nm (fun U89 hU89 => ?_)
          have e90 := up_f hU89
          refine (show po_X3_playVolleyball_e T p ru s U89 (none) from ?_)
          have e91 : U89 103 p 3 = T 103 p 3 := (up_j hU89 (by decide) 103 p).trans ((up_j hU83 (by decide) 103 p).trans ((up_k hU75 (by exact Nat.ne_of_beq_eq_false rfl) p 3).trans ((fU71 103 p 3 rfl).trans ((up_k hU8 (by exact Nat.ne_of_beq_eq_false rfl) p 3).trans (up_j hU3 (by decide) 103 p)))))
          have e92 : U89 470 p 0 = T 470 p 0 := (up_k hU89 (by exact Nat.ne_of_beq_eq_false rfl) p 0).trans ((up_k hU83 (by exact Nat.ne_of_beq_eq_false rfl) p 0).trans ((up_k hU75 (by exact Nat.ne_of_beq_eq_false rfl) p 0).trans ((fU71 470 p 0 rfl).trans ((up_k hU8 (by exact Nat.ne_of_beq_eq_false rfl) p 0).trans (up_k hU3 (by exact Nat.ne_of_beq_eq_false rfl) p 0)))))
          have e93 : U89 470 p 1 = T 470 p 1 := (up_k hU89 (by exact Nat.ne_of_beq_eq_false rfl) p 1).trans ((up_k hU83 (by exact Nat.ne_of_beq_eq_false rfl) p 1).trans ((up_k hU75 (by exact Nat.ne_of_beq_eq_false rfl) p 1).trans ((fU71 470 p 1 rfl).trans ((up_k hU8 (by exact Nat.ne_of_beq_eq_false rfl) p 1).trans (up_k hU3 (by exact Nat.ne_of_beq_eq_false rfl) p 1)))))
          have g94 : U89 470 p 0 = T 470 p 0 := (up_k hU89 (by exact Nat.ne_of_beq_eq_false rfl) p 0).trans ((up_k hU83 (by exact Nat.ne_of_beq_eq_false rfl) p 0).trans ((up_k hU75 (by exact Nat.ne_of_beq_eq_false rfl) p 0).trans ((fU71 470 p 0 rfl).trans ((up_k hU8 (by exact Nat.ne_of_beq_eq_false rfl) p 0).trans (up_k hU3 (by exact Nat.ne_of_beq_eq_false rfl) p 0)))))
          have g95 : U89 470 p 1 = T 470 p 1 := (up_k hU89 (by exact Nat.ne_of_beq_eq_false rfl) p 1).trans ((up_k hU83 (by exact Nat.ne_of_beq_eq_false rfl) p 1).trans ((up_k hU75 (by exact Nat.ne_of_beq_eq_false rfl) p 1).trans ((fU71 470 p 1 rfl).trans ((up_k hU8 (by exact Nat.ne_of_beq_eq_false rfl) p 1).trans (up_k hU3 (by exact Nat.ne_of_beq_eq_false rfl) p 1)))))
          have e96 : U89 103 p 3 = T 103 p 3 := (up_j hU89 (by decide) 103 p).trans ((up_j hU83 (by decide) 103 p).trans ((up_k hU75 (by exact Nat.ne_of_beq_eq_false rfl) p 3).trans ((fU71 103 p 3 rfl).trans ((up_k hU8 (by exact Nat.ne_of_beq_eq_false rfl) p 3).trans (up_j hU3 (by decide) 103 p)))))
          have rU3 : rs9_ U3 p = u2_ (rs9_ T p) 103 5 s := rs_u hU3 rfl
          have rU8 : rs9_ U8 p = u2_ (u2_ (rs9_ T p) 103 5 s) 466 s (wr_ ((T 466 p s) + 1)) := by rw [rs_u hU8 rfl, rU3]
          have rU71 : rs9_ U71 p = fy2_ (u2_ (u2_ (rs9_ T p) 103 5 s) 466 s (wr_ ((T 466 p s) + 1))) 466 2 0 := by rw [qU71e, rU8]
          have rU75 : rs9_ U75 p = u2_ (fy2_ (u2_ (u2_ (rs9_ T p) 103 5 s) 466 s (wr_ ((T 466 p s) + 1))) 466 2 0) 468 s (wr_ ((T 468 p s) + 1)) := by rw [rs_u hU75 rfl, rU71]
          have rU83 : rs9_ U83 p = u2_ (u2_ (fy2_ (u2_ (u2_ (rs9_ T p) 103 5 s) 466 s (wr_ ((T 466 p s) + 1))) 466 2 0) 468 s (wr_ ((T 468 p s) + 1))) 103 4 (wr_ ((T 103 p 4) + 1)) := by rw [rs_u hU83 rfl, rU75]
          have rU89 : rs9_ U89 p = u2_ (u2_ (u2_ (fy2_ (u2_ (u2_ (rs9_ T p) 103 5 s) 466 s (wr_ ((T 466 p s) + 1))) 466 2 0) 468 s (wr_ ((T 468 p s) + 1))) 103 4 (wr_ ((T 103 p 4) + 1))) 103 5 (an_ (wr_ ((T 103 p 4) + 1)) 1) := by rw [rs_u hU89 rfl, rU83]
          exact ⟨rfl, fr_u (fr_u (fr_u (fr_t (fr_u (fr_u (fr_0 _ _) hU3 rfl) hU8 rfl) (fr_s fU71 rfl)) hU75 rfl) hU83 rfl) hU89 rfl, oi_u (oi_u (oi_u (oi_t (oi_u (oi_u (oi_r) hU3) hU8) qU71o) hU75) hU83) hU89, by exact fun _ => by omega, Eq.trans rU89 (pv9__2 (r := ru) (a := (rs9_ T p)) (s := s) (show T 103 p 5 = s by omega) (show T 103 p 4 = 4 by omega) (show (3 * ru 11 + 4) / 5 ≤ wr_ (T 466 p s + 1) ∧ 2 ≤ wr_ (wr_ (T 466 p s + 1) - T 466 p (1 - s)) by omega) (show ¬ (wr_ (T 468 p s + 1) = 3) by omega)).symm⟩
        · refine bd_i (by omega) ?_
          refine x_nm (fun U97 hU97 => ?_)
          have e98 := up_f hU97
          refine (show po_X3_playVolleyball_e T p ru s U97 (none) from ?_)
          have e99 : U97 103 p 3 = 1 := up_f hU97
          have e100 : U97 470 p 0 = T 470 p 0 := (up_k hU97 (by exact Nat.ne_of_beq_eq_false rfl) p 0).trans ((up_k hU75 (by exact Nat.ne_of_beq_eq_false rfl) p 0).trans ((fU71 470 p 0 rfl).trans ((up_k hU8 (by exact Nat.ne_of_beq_eq_false rfl) p 0).trans (up_k hU3 (by exact Nat.ne_of_beq_eq_false rfl) p 0))))
          have e101 : U97 470 p 1 = T 470 p 1 := (up_k hU97 (by exact Nat.ne_of_beq_eq_false rfl) p 1).trans ((up_k hU75 (by exact Nat.ne_of_beq_eq_false rfl) p 1).trans ((fU71 470 p 1 rfl).trans ((up_k hU8 (by exact Nat.ne_of_beq_eq_false rfl) p 1).trans (up_k hU3 (by exact Nat.ne_of_beq_eq_false rfl) p 1))))
          have g102 : U97 470 p 0 = T 470 p 0 := (up_k hU97 (by exact Nat.ne_of_beq_eq_false rfl) p 0).trans ((up_k hU75 (by exact Nat.ne_of_beq_eq_false rfl) p 0).trans ((fU71 470 p 0 rfl).trans ((up_k hU8 (by exact Nat.ne_of_beq_eq_false rfl) p 0).trans (up_k hU3 (by exact Nat.ne_of_beq_eq_false rfl) p 0))))
          have g103 : U97 470 p 1 = T 470 p 1 := (up_k hU97 (by exact Nat.ne_of_beq_eq_false rfl) p 1).trans ((up_k hU75 (by exact Nat.ne_of_beq_eq_false rfl) p 1).trans ((fU71 470 p 1 rfl).trans ((up_k hU8 (by exact Nat.ne_of_beq_eq_false rfl) p 1).trans (up_k hU3 (by exact Nat.ne_of_beq_eq_false rfl) p 1))))
          have e104 : U97 103 p 3 = 1 := up_f hU97
          have rU3 : rs9_ U3 p = u2_ (rs9_ T p) 103 5 s := rs_u hU3 rfl
          have rU8 : rs9_ U8 p = u2_ (u2_ (rs9_ T p) 103 5 s) 466 s (wr_ ((T 466 p s) + 1)) := by rw [rs_u hU8 rfl, rU3]
          have rU71 : rs9_ U71 p = fy2_ (u2_ (u2_ (rs9_ T p) 103 5 s) 466 s (wr_ ((T 466 p s) + 1))) 466 2 0 := by rw [qU71e, rU8]
          have rU75 : rs9_ U75 p = u2_ (fy2_ (u2_ (u2_ (rs9_ T p) 103 5 s) 466 s (wr_ ((T 466 p s) + 1))) 466 2 0) 468 s (wr_ ((T 468 p s) + 1)) := by rw [rs_u hU75 rfl, rU71]
          have rU97 : rs9_ U97 p = u2_ (u2_ (fy2_ (u2_ (u2_ (rs9_ T p) 103 5 s) 466 s (wr_ ((T 466 p s) + 1))) 466 2 0) 468 s (wr_ ((T 468 p s) + 1))) 103 3 1 := by rw [rs_u hU97 rfl, rU75]
          exact ⟨rfl, fr_u (fr_u (fr_t (fr_u (fr_u (fr_0 _ _) hU3 rfl) hU8 rfl) (fr_s fU71 rfl)) hU75 rfl) hU97 rfl, oi_u (oi_u (oi_t (oi_u (oi_u (oi_r) hU3) hU8) qU71o) hU75) hU97, by exact fun _ => by omega, Eq.trans rU97 (pv9__1 (r := ru) (a := (rs9_ T p)) (s := s) (show T 103 p 5 = s by omega) (show T 103 p 4 = 4 by omega) (show (3 * ru 11 + 4) / 5 ≤ wr_ (T 466 p s + 1) ∧ 2 ≤ wr_ (wr_ (T 466 p s + 1) - T 466 p (1 - s)) by omega) (show wr_ (T 468 p s + 1) = 3 by omega)).symm⟩
      · replace hx69 := hx69.resolve_left (fun z => absurd (c70.symm.trans z.1) (by decide))
        clear c70
        refine (show po_X3_playVolleyball_e T p ru s U8 (none) from ?_)
        have e105 : U8 103 p 3 = T 103 p 3 := (up_k hU8 (by exact Nat.ne_of_beq_eq_false rfl) p 3).trans (up_j hU3 (by decide) 103 p)
        have e106 : U8 470 p 0 = T 470 p 0 := (up_k hU8 (by exact Nat.ne_of_beq_eq_false rfl) p 0).trans (up_k hU3 (by exact Nat.ne_of_beq_eq_false rfl) p 0)
        have e107 : U8 470 p 1 = T 470 p 1 := (up_k hU8 (by exact Nat.ne_of_beq_eq_false rfl) p 1).trans (up_k hU3 (by exact Nat.ne_of_beq_eq_false rfl) p 1)
        have g108 : U8 470 p 0 = T 470 p 0 := (up_k hU8 (by exact Nat.ne_of_beq_eq_false rfl) p 0).trans (up_k hU3 (by exact Nat.ne_of_beq_eq_false rfl) p 0)
        have g109 : U8 470 p 1 = T 470 p 1 := (up_k hU8 (by exact Nat.ne_of_beq_eq_false rfl) p 1).trans (up_k hU3 (by exact Nat.ne_of_beq_eq_false rfl) p 1)
        have e110 : U8 103 p 3 = T 103 p 3 := (up_k hU8 (by exact Nat.ne_of_beq_eq_false rfl) p 3).trans (up_j hU3 (by decide) 103 p)
        have rU3 : rs9_ U3 p = u2_ (rs9_ T p) 103 5 s := rs_u hU3 rfl
        have rU8 : rs9_ U8 p = u2_ (u2_ (rs9_ T p) 103 5 s) 466 s (wr_ ((T 466 p s) + 1)) := by rw [rs_u hU8 rfl, rU3]
        exact ⟨rfl, fr_u (fr_u (fr_0 _ _) hU3 rfl) hU8 rfl, oi_u (oi_u (oi_r) hU3) hU8, by exact fun _ => by omega, Eq.trans rU8 (pv9__3 (r := ru) (a := (rs9_ T p)) (s := s) (show T 103 p 5 = s by omega) (show T 103 p 4 = 4 by omega) (show ¬ ((3 * ru 11 + 4) / 5 ≤ wr_ (T 466 p s + 1) ∧ 2 ≤ wr_ (wr_ (T 466 p s + 1) - T 466 p (1 - s))) by omega)).symm⟩
  · refine hK 10 _ [vI s, vR 103 p] T ?_
    refine j_callV (y := yX3_rotate) (Yc := zX3_rotate) (rest := []) [vI s] (ct_X3_rotate_e (T := T) (ru := ru) (by exact hr) (by omega) (by omega)) cl_X3_122 (qd_c (by decide +kernel)) (nn_ _) rfl (rf_of rfl) (Nat.le_of_ble_eq_true rfl) (Nat.le_of_ble_eq_true rfl) (Nat.le_of_ble_eq_true rfl) rfl ?_
    rintro U111 _ ⟨rfl, fU111, qU111o, qU111, qU111e⟩
    show J_ zX3_playVolleyball T (po_X3_playVolleyball_e T p ru s) 0 0 13 _ [] U111
    refine j_blx (F := fX3) tb_X3 (nn_ _) bk_X3_playVolleyball_e_13 bs_X3_playVolleyball_e_13 hz (fun K hK => ?_)
    refine bd_i (by omega) ?_
    refine x_nm (fun U112 hU112 => ?_)
    have e113 := up_f hU112
    refine ix_i (by omega) ?_
    intro b114 b114b
    have e115 : U112 466 p s = T 466 p s := (up_k hU112 (by exact Nat.ne_of_beq_eq_false rfl) p s).trans (fU111 466 p s rfl)
    rw [e115] at b114 b114b ⊢
    intro w116 w116b
    refine iy_i (by omega) (by omega) ?_
    refine x_nm (fun U117 hU117 => ?_)
    have e118 := up_f hU117
    intro b119 b119b
    have e120 : U117 103 p 4 = T 103 p 4 := (up_k hU117 (by exact Nat.ne_of_beq_eq_false rfl) p 4).trans ((up_j hU112 (by decide) 103 p).trans (fU111 103 p 4 rfl))
    rw [e120] at b119 b119b ⊢
    refine And.intro (fun c121 => ?_) (fun c121 => ?_)
    · refine hK 52 _ [] U117 ?_
      refine j_blx (F := fX3) tb_X3 (nn_ _) bk_X3_playVolleyball_e_52 bs_X3_playVolleyball_e_52 hz (fun K hK => ?_)
      have e123 : U117 103 p 0 = T 103 p 0 := (up_k hU117 (by exact Nat.ne_of_beq_eq_false rfl) p 0).trans ((up_j hU112 (by decide) 103 p).trans (fU111 103 p 0 rfl))
      refine ix_i (by omega) ?_
      intro b124 b124b
      have e125 : U117 401 (T 103 p 0) 11 = T 401 (T 103 p 0) 11 := (up_k hU117 (by exact Nat.ne_of_beq_eq_false rfl) (T 103 p 0) 11).trans ((up_k hU112 (by exact Nat.ne_of_beq_eq_false rfl) (T 103 p 0) 11).trans (fU111 401 (T 103 p 0) 11 rfl))
      have e126 : U117 401 (U117 103 p 0) 11 = T 401 (T 103 p 0) 11 := by rw [e123]; exact e125
      rw [e126] at b124 b124b ⊢
      refine hK 66 [some (vR 103 p), some (vI s), some (vI (T 401 (T 103 p 0) 11))] [vI (T 401 (T 103 p 0) 11), vI s, vR 466 p] U117 ?_
      have e127 : U117 466 p s = wr_ ((T 466 p s) + 1) := up_f hU117
      have e128 : U117 466 p (1 - s) = T 466 p (1 - s) := (up_g hU117 (by omega)).trans ((up_k hU112 (by exact Nat.ne_of_beq_eq_false rfl) p (1 - s)).trans (fU111 466 p (1 - s) rfl))
      refine j_callS (y := yX3_isWon) (Yc := zX3_isWon) (rest := []) [vR 466 p, vI s, vI (T 401 (T 103 p 0) 11)] (ct_X3_isWon_466_e (T := U117) (by omega)) cl_X3_125 (qd_c (by decide +kernel)) (nn_ _) rfl (rf_of rfl) (Nat.le_of_ble_eq_true rfl) (Nat.le_of_ble_eq_true rfl) (Nat.le_of_ble_eq_true rfl) rfl ?_
      rintro _ _ ⟨rfl, x129, rfl, hx129⟩
      rw [e127, e128] at hx129
      show J_ zX3_playVolleyball T (po_X3_playVolleyball_e T p ru s) 0 0 69 _ [vI x129] U117
      refine j_blx (F := fX3) tb_X3 (nn_ _) bk_X3_playVolleyball_e_69 bs_X3_playVolleyball_e_69 hz (fun K hK => ?_)
      refine And.intro (fun c130 => ?_) (fun c130 => ?_)
      · replace hx129 := hx129.resolve_right (fun z => c130 z.1)
        clear c130
        refine hK 73 _ [] U117 ?_
        refine j_blx (F := fX3) tb_X3 (nn_ _) bk_X3_playVolleyball_e_73 bs_X3_playVolleyball_e_73 hz (fun K hK => ?_)
        refine hK 78 _ [vI 0, vR 466 p] U117 ?_
        refine j_callS (y := yJ7_fill_53178) (Yc := zJ7_fill_53178) (rest := []) [vR 466 p, vI 0] (ct_J7_fill_466_e (T := U117) (by omega)) cl_X3_62 (qd_c (by decide +kernel)) (nn_ _) rfl (rf_of rfl) (Nat.le_of_ble_eq_true rfl) (Nat.le_of_ble_eq_true rfl) (Nat.le_of_ble_eq_true rfl) rfl ?_
        rintro U131 _ ⟨rfl, fU131, qU131o, qU131, qU131e⟩
        show J_ zX3_playVolleyball T (po_X3_playVolleyball_e T p ru s) 0 0 81 _ [] U131
        refine j_blx (F := fX3) tb_X3 (nn_ _) bk_X3_playVolleyball_e_81 bs_X3_playVolleyball_e_81 hz (fun K hK => ?_)
        refine ix_i (by omega) ?_
        intro b132 b132b
        have e133 : U131 468 p s = T 468 p s := (fU131 468 p s rfl).trans ((up_k hU117 (by exact Nat.ne_of_beq_eq_false rfl) p s).trans ((up_k hU112 (by exact Nat.ne_of_beq_eq_false rfl) p s).trans (fU111 468 p s rfl)))
        rw [e133] at b132 b132b ⊢
        intro w134 w134b
        refine iy_i (by omega) (by omega) ?_
        refine x_nm (fun U135 hU135 => ?_)
        have e136 := up_f hU135
        refine ix_i (by omega) ?_
        intro b137 b137b
        have e138 : U135 468 p s = wr_ ((T 468 p s) + 1) := up_f hU135
        rw [e138] at b137 b137b ⊢
        refine And.intro (fun c139 => ?_) (fun c139 => ?_)
        · refine hK 107 _ [] U135 ?_
          refine j_blx (F := fX3) tb_X3 (nn_ _) bk_X3_playVolleyball_e_107 bs_X3_playVolleyball_e_107 hz (fun K hK => ?_)
          intro b140 b140b
          have e141 : U135 103 p 4 = T 103 p 4 := (up_k hU135 (by exact Nat.ne_of_beq_eq_false rfl) p 4).trans ((fU131 103 p 4 rfl).trans ((up_k hU117 (by exact Nat.ne_of_beq_eq_false rfl) p 4).trans ((up_j hU112 (by decide) 103 p).trans (fU111 103 p 4 rfl))))
          rw [e141] at b140 b140b ⊢
          intro w142 w142b
          refine bd_i (by omega) ?_
          refine x_nm (fun U143 hU143 => ?_)
          have e144 := up_f hU143
          intro b145 b145b
          have e146 : U143 103 p 4 = wr_ ((T 103 p 4) + 1) := up_f hU143
          rw [e146] at b145 b145b ⊢
          intro w147 w147b
          have n148 := an_1b (wr_ ((T 103 p 4) + 1))
          refine bd_i (by omega) ?_
          refine x_nm (fun U149 hU149 => ?_)
          have e150 := up_f hU149
          refine (show po_X3_playVolleyball_e T p ru s U149 (none) from ?_)
          have e151 : U149 103 p 3 = T 103 p 3 := (up_j hU149 (by decide) 103 p).trans ((up_j hU143 (by decide) 103 p).trans ((up_k hU135 (by exact Nat.ne_of_beq_eq_false rfl) p 3).trans ((fU131 103 p 3 rfl).trans ((up_k hU117 (by exact Nat.ne_of_beq_eq_false rfl) p 3).trans ((up_j hU112 (by decide) 103 p).trans (fU111 103 p 3 rfl))))))
          have e152 : U149 470 p 0 = T 470 p 0 := (up_k hU149 (by exact Nat.ne_of_beq_eq_false rfl) p 0).trans ((up_k hU143 (by exact Nat.ne_of_beq_eq_false rfl) p 0).trans ((up_k hU135 (by exact Nat.ne_of_beq_eq_false rfl) p 0).trans ((fU131 470 p 0 rfl).trans ((up_k hU117 (by exact Nat.ne_of_beq_eq_false rfl) p 0).trans ((up_k hU112 (by exact Nat.ne_of_beq_eq_false rfl) p 0).trans (fU111 470 p 0 rfl))))))
          have e153 : U149 470 p 1 = T 470 p 1 := (up_k hU149 (by exact Nat.ne_of_beq_eq_false rfl) p 1).trans ((up_k hU143 (by exact Nat.ne_of_beq_eq_false rfl) p 1).trans ((up_k hU135 (by exact Nat.ne_of_beq_eq_false rfl) p 1).trans ((fU131 470 p 1 rfl).trans ((up_k hU117 (by exact Nat.ne_of_beq_eq_false rfl) p 1).trans ((up_k hU112 (by exact Nat.ne_of_beq_eq_false rfl) p 1).trans (fU111 470 p 1 rfl))))))
          have g154 : U149 470 p 0 = T 470 p 0 := (up_k hU149 (by exact Nat.ne_of_beq_eq_false rfl) p 0).trans ((up_k hU143 (by exact Nat.ne_of_beq_eq_false rfl) p 0).trans ((up_k hU135 (by exact Nat.ne_of_beq_eq_false rfl) p 0).trans ((fU131 470 p 0 rfl).trans ((up_k hU117 (by exact Nat.ne_of_beq_eq_false rfl) p 0).trans ((up_k hU112 (by exact Nat.ne_of_beq_eq_false rfl) p 0).trans (fU111 470 p 0 rfl))))))
          have g155 : U149 470 p 1 = T 470 p 1 := (up_k hU149 (by exact Nat.ne_of_beq_eq_false rfl) p 1).trans ((up_k hU143 (by exact Nat.ne_of_beq_eq_false rfl) p 1).trans ((up_k hU135 (by exact Nat.ne_of_beq_eq_false rfl) p 1).trans ((fU131 470 p 1 rfl).trans ((up_k hU117 (by exact Nat.ne_of_beq_eq_false rfl) p 1).trans ((up_k hU112 (by exact Nat.ne_of_beq_eq_false rfl) p 1).trans (fU111 470 p 1 rfl))))))
          have e156 : U149 103 p 3 = T 103 p 3 := (up_j hU149 (by decide) 103 p).trans ((up_j hU143 (by decide) 103 p).trans ((up_k hU135 (by exact Nat.ne_of_beq_eq_false rfl) p 3).trans ((fU131 103 p 3 rfl).trans ((up_k hU117 (by exact Nat.ne_of_beq_eq_false rfl) p 3).trans ((up_j hU112 (by decide) 103 p).trans (fU111 103 p 3 rfl))))))
          have rU111 : rs9_ U111 p = rt9_ (rs9_ T p) s := qU111e
          have rU112 : rs9_ U112 p = u2_ (rt9_ (rs9_ T p) s) 103 5 s := by rw [rs_u hU112 rfl, rU111]
          have rU117 : rs9_ U117 p = u2_ (u2_ (rt9_ (rs9_ T p) s) 103 5 s) 466 s (wr_ ((T 466 p s) + 1)) := by rw [rs_u hU117 rfl, rU112]
          have rU131 : rs9_ U131 p = fy2_ (u2_ (u2_ (rt9_ (rs9_ T p) s) 103 5 s) 466 s (wr_ ((T 466 p s) + 1))) 466 2 0 := by rw [qU131e, rU117]
          have rU135 : rs9_ U135 p = u2_ (fy2_ (u2_ (u2_ (rt9_ (rs9_ T p) s) 103 5 s) 466 s (wr_ ((T 466 p s) + 1))) 466 2 0) 468 s (wr_ ((T 468 p s) + 1)) := by rw [rs_u hU135 rfl, rU131]
          have rU143 : rs9_ U143 p = u2_ (u2_ (fy2_ (u2_ (u2_ (rt9_ (rs9_ T p) s) 103 5 s) 466 s (wr_ ((T 466 p s) + 1))) 466 2 0) 468 s (wr_ ((T 468 p s) + 1))) 103 4 (wr_ ((T 103 p 4) + 1)) := by rw [rs_u hU143 rfl, rU135]
          have rU149 : rs9_ U149 p = u2_ (u2_ (u2_ (fy2_ (u2_ (u2_ (rt9_ (rs9_ T p) s) 103 5 s) 466 s (wr_ ((T 466 p s) + 1))) 466 2 0) 468 s (wr_ ((T 468 p s) + 1))) 103 4 (wr_ ((T 103 p 4) + 1))) 103 5 (an_ (wr_ ((T 103 p 4) + 1)) 1) := by rw [rs_u hU149 rfl, rU143]
          exact ⟨rfl, fr_u (fr_u (fr_u (fr_t (fr_u (fr_u (fr_t (fr_0 _ _) (fr_s fU111 rfl)) hU112 rfl) hU117 rfl) (fr_s fU131 rfl)) hU135 rfl) hU143 rfl) hU149 rfl, oi_u (oi_u (oi_u (oi_t (oi_u (oi_u (oi_t (oi_r) qU111o) hU112) hU117) qU131o) hU135) hU143) hU149, by exact fun _ => by omega, Eq.trans rU149 (pv9__11 (r := ru) (a := (rs9_ T p)) (s := s) (show ¬ (T 103 p 5 = s) by omega) (show ¬ (T 103 p 4 = 4) by omega) (show ru 11 ≤ wr_ (T 466 p s + 1) ∧ 2 ≤ wr_ (wr_ (T 466 p s + 1) - T 466 p (1 - s)) by omega) (show ¬ (wr_ (T 468 p s + 1) = 3) by omega)).symm⟩
        · refine bd_i (by omega) ?_
          refine x_nm (fun U157 hU157 => ?_)
          have e158 := up_f hU157
          refine (show po_X3_playVolleyball_e T p ru s U157 (none) from ?_)
          have e159 : U157 103 p 3 = 1 := up_f hU157
          have e160 : U157 470 p 0 = T 470 p 0 := (up_k hU157 (by exact Nat.ne_of_beq_eq_false rfl) p 0).trans ((up_k hU135 (by exact Nat.ne_of_beq_eq_false rfl) p 0).trans ((fU131 470 p 0 rfl).trans ((up_k hU117 (by exact Nat.ne_of_beq_eq_false rfl) p 0).trans ((up_k hU112 (by exact Nat.ne_of_beq_eq_false rfl) p 0).trans (fU111 470 p 0 rfl)))))
          have e161 : U157 470 p 1 = T 470 p 1 := (up_k hU157 (by exact Nat.ne_of_beq_eq_false rfl) p 1).trans ((up_k hU135 (by exact Nat.ne_of_beq_eq_false rfl) p 1).trans ((fU131 470 p 1 rfl).trans ((up_k hU117 (by exact Nat.ne_of_beq_eq_false rfl) p 1).trans ((up_k hU112 (by exact Nat.ne_of_beq_eq_false rfl) p 1).trans (fU111 470 p 1 rfl)))))
          have g162 : U157 470 p 0 = T 470 p 0 := (up_k hU157 (by exact Nat.ne_of_beq_eq_false rfl) p 0).trans ((up_k hU135 (by exact Nat.ne_of_beq_eq_false rfl) p 0).trans ((fU131 470 p 0 rfl).trans ((up_k hU117 (by exact Nat.ne_of_beq_eq_false rfl) p 0).trans ((up_k hU112 (by exact Nat.ne_of_beq_eq_false rfl) p 0).trans (fU111 470 p 0 rfl)))))
          have g163 : U157 470 p 1 = T 470 p 1 := (up_k hU157 (by exact Nat.ne_of_beq_eq_false rfl) p 1).trans ((up_k hU135 (by exact Nat.ne_of_beq_eq_false rfl) p 1).trans ((fU131 470 p 1 rfl).trans ((up_k hU117 (by exact Nat.ne_of_beq_eq_false rfl) p 1).trans ((up_k hU112 (by exact Nat.ne_of_beq_eq_false rfl) p 1).trans (fU111 470 p 1 rfl)))))
          have e164 : U157 103 p 3 = 1 := up_f hU157
          have rU111 : rs9_ U111 p = rt9_ (rs9_ T p) s := qU111e
          have rU112 : rs9_ U112 p = u2_ (rt9_ (rs9_ T p) s) 103 5 s := by rw [rs_u hU112 rfl, rU111]
          have rU117 : rs9_ U117 p = u2_ (u2_ (rt9_ (rs9_ T p) s) 103 5 s) 466 s (wr_ ((T 466 p s) + 1)) := by rw [rs_u hU117 rfl, rU112]
          have rU131 : rs9_ U131 p = fy2_ (u2_ (u2_ (rt9_ (rs9_ T p) s) 103 5 s) 466 s (wr_ ((T 466 p s) + 1))) 466 2 0 := by rw [qU131e, rU117]
          have rU135 : rs9_ U135 p = u2_ (fy2_ (u2_ (u2_ (rt9_ (rs9_ T p) s) 103 5 s) 466 s (wr_ ((T 466 p s) + 1))) 466 2 0) 468 s (wr_ ((T 468 p s) + 1)) := by rw [rs_u hU135 rfl, rU131]
          have rU157 : rs9_ U157 p = u2_ (u2_ (fy2_ (u2_ (u2_ (rt9_ (rs9_ T p) s) 103 5 s) 466 s (wr_ ((T 466 p s) + 1))) 466 2 0) 468 s (wr_ ((T 468 p s) + 1))) 103 3 1 := by rw [rs_u hU157 rfl, rU135]
          exact ⟨rfl, fr_u (fr_u (fr_t (fr_u (fr_u (fr_t (fr_0 _ _) (fr_s fU111 rfl)) hU112 rfl) hU117 rfl) (fr_s fU131 rfl)) hU135 rfl) hU157 rfl, oi_u (oi_u (oi_t (oi_u (oi_u (oi_t (oi_r) qU111o) hU112) hU117) qU131o) hU135) hU157, by exact fun _ => by omega, Eq.trans rU157 (pv9__10 (r := ru) (a := (rs9_ T p)) (s := s) (show ¬ (T 103 p 5 = s) by omega) (show ¬ (T 103 p 4 = 4) by omega) (show ru 11 ≤ wr_ (T 466 p s + 1) ∧ 2 ≤ wr_ (wr_ (T 466 p s + 1) - T 466 p (1 - s)) by omega) (show wr_ (T 468 p s + 1) = 3 by omega)).symm⟩
      · replace hx129 := hx129.resolve_left (fun z => absurd (c130.symm.trans z.1) (by decide))
        clear c130
        refine (show po_X3_playVolleyball_e T p ru s U117 (none) from ?_)
        have e165 : U117 103 p 3 = T 103 p 3 := (up_k hU117 (by exact Nat.ne_of_beq_eq_false rfl) p 3).trans ((up_j hU112 (by decide) 103 p).trans (fU111 103 p 3 rfl))
        have e166 : U117 470 p 0 = T 470 p 0 := (up_k hU117 (by exact Nat.ne_of_beq_eq_false rfl) p 0).trans ((up_k hU112 (by exact Nat.ne_of_beq_eq_false rfl) p 0).trans (fU111 470 p 0 rfl))
        have e167 : U117 470 p 1 = T 470 p 1 := (up_k hU117 (by exact Nat.ne_of_beq_eq_false rfl) p 1).trans ((up_k hU112 (by exact Nat.ne_of_beq_eq_false rfl) p 1).trans (fU111 470 p 1 rfl))
        have g168 : U117 470 p 0 = T 470 p 0 := (up_k hU117 (by exact Nat.ne_of_beq_eq_false rfl) p 0).trans ((up_k hU112 (by exact Nat.ne_of_beq_eq_false rfl) p 0).trans (fU111 470 p 0 rfl))
        have g169 : U117 470 p 1 = T 470 p 1 := (up_k hU117 (by exact Nat.ne_of_beq_eq_false rfl) p 1).trans ((up_k hU112 (by exact Nat.ne_of_beq_eq_false rfl) p 1).trans (fU111 470 p 1 rfl))
        have e170 : U117 103 p 3 = T 103 p 3 := (up_k hU117 (by exact Nat.ne_of_beq_eq_false rfl) p 3).trans ((up_j hU112 (by decide) 103 p).trans (fU111 103 p 3 rfl))
        have rU111 : rs9_ U111 p = rt9_ (rs9_ T p) s := qU111e
        have rU112 : rs9_ U112 p = u2_ (rt9_ (rs9_ T p) s) 103 5 s := by rw [rs_u hU112 rfl, rU111]
        have rU117 : rs9_ U117 p = u2_ (u2_ (rt9_ (rs9_ T p) s) 103 5 s) 466 s (wr_ ((T 466 p s) + 1)) := by rw [rs_u hU117 rfl, rU112]
        exact ⟨rfl, fr_u (fr_u (fr_t (fr_0 _ _) (fr_s fU111 rfl)) hU112 rfl) hU117 rfl, oi_u (oi_u (oi_t (oi_r) qU111o) hU112) hU117, by exact fun _ => by omega, Eq.trans rU117 (pv9__12 (r := ru) (a := (rs9_ T p)) (s := s) (show ¬ (T 103 p 5 = s) by omega) (show ¬ (T 103 p 4 = 4) by omega) (show ¬ (ru 11 ≤ wr_ (T 466 p s + 1) ∧ 2 ≤ wr_ (wr_ (T 466 p s + 1) - T 466 p (1 - s))) by omega)).symm⟩
    · have e172 : U117 103 p 0 = T 103 p 0 := (up_k hU117 (by exact Nat.ne_of_beq_eq_false rfl) p 0).trans ((up_j hU112 (by decide) 103 p).trans (fU111 103 p 0 rfl))
      refine ix_i (by omega) ?_
      intro b173 b173b
      have e174 : U117 401 (T 103 p 0) 11 = T 401 (T 103 p 0) 11 := (up_k hU117 (by exact Nat.ne_of_beq_eq_false rfl) (T 103 p 0) 11).trans ((up_k hU112 (by exact Nat.ne_of_beq_eq_false rfl) (T 103 p 0) 11).trans (fU111 401 (T 103 p 0) 11 rfl))
      have e175 : U117 401 (U117 103 p 0) 11 = T 401 (T 103 p 0) 11 := by rw [e172]; exact e174
      rw [e175] at b173 b173b ⊢
      refine rg_i (by omega) ?_
      refine rg_i (by omega) ?_
      refine dv_i (by omega) ?_
      refine hK 59 [some (vR 103 p), some (vI s), none] [vI (((3 * (T 401 (T 103 p 0) 11)) + 4) / 5)] U117 ?_
      refine j_blx (F := fX3) tb_X3 (nn_ _) bk_X3_playVolleyball_e_59 bs_X3_playVolleyball_e_59 hz (fun K hK => ?_)
      refine hK 66 [some (vR 103 p), some (vI s), some (vI (((3 * (T 401 (T 103 p 0) 11)) + 4) / 5))] [vI (((3 * (T 401 (T 103 p 0) 11)) + 4) / 5), vI s, vR 466 p] U117 ?_
      have e176 : U117 466 p s = wr_ ((T 466 p s) + 1) := up_f hU117
      have e177 : U117 466 p (1 - s) = T 466 p (1 - s) := (up_g hU117 (by omega)).trans ((up_k hU112 (by exact Nat.ne_of_beq_eq_false rfl) p (1 - s)).trans (fU111 466 p (1 - s) rfl))
      refine j_callS (y := yX3_isWon) (Yc := zX3_isWon) (rest := []) [vR 466 p, vI s, vI (((3 * (T 401 (T 103 p 0) 11)) + 4) / 5)] (ct_X3_isWon_466_e (T := U117) (by omega)) cl_X3_125 (qd_c (by decide +kernel)) (nn_ _) rfl (rf_of rfl) (Nat.le_of_ble_eq_true rfl) (Nat.le_of_ble_eq_true rfl) (Nat.le_of_ble_eq_true rfl) rfl ?_
      rintro _ _ ⟨rfl, x178, rfl, hx178⟩
      rw [e176, e177] at hx178
      show J_ zX3_playVolleyball T (po_X3_playVolleyball_e T p ru s) 0 0 69 _ [vI x178] U117
      refine j_blx (F := fX3) tb_X3 (nn_ _) bk_X3_playVolleyball_e_69 bs_X3_playVolleyball_e_69 hz (fun K hK => ?_)
      refine And.intro (fun c179 => ?_) (fun c179 => ?_)
      · replace hx178 := hx178.resolve_right (fun z => c179 z.1)
        clear c179
        refine hK 73 _ [] U117 ?_
        refine j_blx (F := fX3) tb_X3 (nn_ _) bk_X3_playVolleyball_e_73 bs_X3_playVolleyball_e_73 hz (fun K hK => ?_)
        refine hK 78 _ [vI 0, vR 466 p] U117 ?_
        refine j_callS (y := yJ7_fill_53178) (Yc := zJ7_fill_53178) (rest := []) [vR 466 p, vI 0] (ct_J7_fill_466_e (T := U117) (by omega)) cl_X3_62 (qd_c (by decide +kernel)) (nn_ _) rfl (rf_of rfl) (Nat.le_of_ble_eq_true rfl) (Nat.le_of_ble_eq_true rfl) (Nat.le_of_ble_eq_true rfl) rfl ?_
        rintro U180 _ ⟨rfl, fU180, qU180o, qU180, qU180e⟩
        show J_ zX3_playVolleyball T (po_X3_playVolleyball_e T p ru s) 0 0 81 _ [] U180
        refine j_blx (F := fX3) tb_X3 (nn_ _) bk_X3_playVolleyball_e_81 bs_X3_playVolleyball_e_81 hz (fun K hK => ?_)
        refine ix_i (by omega) ?_
        intro b181 b181b
        have e182 : U180 468 p s = T 468 p s := (fU180 468 p s rfl).trans ((up_k hU117 (by exact Nat.ne_of_beq_eq_false rfl) p s).trans ((up_k hU112 (by exact Nat.ne_of_beq_eq_false rfl) p s).trans (fU111 468 p s rfl)))
        rw [e182] at b181 b181b ⊢
        intro w183 w183b
        refine iy_i (by omega) (by omega) ?_
        refine x_nm (fun U184 hU184 => ?_)
        have e185 := up_f hU184
        refine ix_i (by omega) ?_
        intro b186 b186b
        have e187 : U184 468 p s = wr_ ((T 468 p s) + 1) := up_f hU184
        rw [e187] at b186 b186b ⊢
        refine And.intro (fun c188 => ?_) (fun c188 => ?_)
        · refine hK 107 _ [] U184 ?_
          refine j_blx (F := fX3) tb_X3 (nn_ _) bk_X3_playVolleyball_e_107 bs_X3_playVolleyball_e_107 hz (fun K hK => ?_)
          intro b189 b189b
          have e190 : U184 103 p 4 = T 103 p 4 := (up_k hU184 (by exact Nat.ne_of_beq_eq_false rfl) p 4).trans ((fU180 103 p 4 rfl).trans ((up_k hU117 (by exact Nat.ne_of_beq_eq_false rfl) p 4).trans ((up_j hU112 (by decide) 103 p).trans (fU111 103 p 4 rfl))))
          rw [e190] at b189 b189b ⊢
          intro w191 w191b
          refine bd_i (by omega) ?_
          refine x_nm (fun U192 hU192 => ?_)
          have e193 := up_f hU192
          intro b194 b194b
          have e195 : U192 103 p 4 = wr_ ((T 103 p 4) + 1) := up_f hU192
          rw [e195] at b194 b194b ⊢
          intro w196 w196b
          have n197 := an_1b (wr_ ((T 103 p 4) + 1))
          refine bd_i (by omega) ?_
          refine x_nm (fun U198 hU198 => ?_)
          have e199 := up_f hU198
          refine (show po_X3_playVolleyball_e T p ru s U198 (none) from ?_)
          have e200 : U198 103 p 3 = T 103 p 3 := (up_j hU198 (by decide) 103 p).trans ((up_j hU192 (by decide) 103 p).trans ((up_k hU184 (by exact Nat.ne_of_beq_eq_false rfl) p 3).trans ((fU180 103 p 3 rfl).trans ((up_k hU117 (by exact Nat.ne_of_beq_eq_false rfl) p 3).trans ((up_j hU112 (by decide) 103 p).trans (fU111 103 p 3 rfl))))))
          have e201 : U198 470 p 0 = T 470 p 0 := (up_k hU198 (by exact Nat.ne_of_beq_eq_false rfl) p 0).trans ((up_k hU192 (by exact Nat.ne_of_beq_eq_false rfl) p 0).trans ((up_k hU184 (by exact Nat.ne_of_beq_eq_false rfl) p 0).trans ((fU180 470 p 0 rfl).trans ((up_k hU117 (by exact Nat.ne_of_beq_eq_false rfl) p 0).trans ((up_k hU112 (by exact Nat.ne_of_beq_eq_false rfl) p 0).trans (fU111 470 p 0 rfl))))))
          have e202 : U198 470 p 1 = T 470 p 1 := (up_k hU198 (by exact Nat.ne_of_beq_eq_false rfl) p 1).trans ((up_k hU192 (by exact Nat.ne_of_beq_eq_false rfl) p 1).trans ((up_k hU184 (by exact Nat.ne_of_beq_eq_false rfl) p 1).trans ((fU180 470 p 1 rfl).trans ((up_k hU117 (by exact Nat.ne_of_beq_eq_false rfl) p 1).trans ((up_k hU112 (by exact Nat.ne_of_beq_eq_false rfl) p 1).trans (fU111 470 p 1 rfl))))))
          have g203 : U198 470 p 0 = T 470 p 0 := (up_k hU198 (by exact Nat.ne_of_beq_eq_false rfl) p 0).trans ((up_k hU192 (by exact Nat.ne_of_beq_eq_false rfl) p 0).trans ((up_k hU184 (by exact Nat.ne_of_beq_eq_false rfl) p 0).trans ((fU180 470 p 0 rfl).trans ((up_k hU117 (by exact Nat.ne_of_beq_eq_false rfl) p 0).trans ((up_k hU112 (by exact Nat.ne_of_beq_eq_false rfl) p 0).trans (fU111 470 p 0 rfl))))))
          have g204 : U198 470 p 1 = T 470 p 1 := (up_k hU198 (by exact Nat.ne_of_beq_eq_false rfl) p 1).trans ((up_k hU192 (by exact Nat.ne_of_beq_eq_false rfl) p 1).trans ((up_k hU184 (by exact Nat.ne_of_beq_eq_false rfl) p 1).trans ((fU180 470 p 1 rfl).trans ((up_k hU117 (by exact Nat.ne_of_beq_eq_false rfl) p 1).trans ((up_k hU112 (by exact Nat.ne_of_beq_eq_false rfl) p 1).trans (fU111 470 p 1 rfl))))))
          have e205 : U198 103 p 3 = T 103 p 3 := (up_j hU198 (by decide) 103 p).trans ((up_j hU192 (by decide) 103 p).trans ((up_k hU184 (by exact Nat.ne_of_beq_eq_false rfl) p 3).trans ((fU180 103 p 3 rfl).trans ((up_k hU117 (by exact Nat.ne_of_beq_eq_false rfl) p 3).trans ((up_j hU112 (by decide) 103 p).trans (fU111 103 p 3 rfl))))))
          have rU111 : rs9_ U111 p = rt9_ (rs9_ T p) s := qU111e
          have rU112 : rs9_ U112 p = u2_ (rt9_ (rs9_ T p) s) 103 5 s := by rw [rs_u hU112 rfl, rU111]
          have rU117 : rs9_ U117 p = u2_ (u2_ (rt9_ (rs9_ T p) s) 103 5 s) 466 s (wr_ ((T 466 p s) + 1)) := by rw [rs_u hU117 rfl, rU112]
          have rU180 : rs9_ U180 p = fy2_ (u2_ (u2_ (rt9_ (rs9_ T p) s) 103 5 s) 466 s (wr_ ((T 466 p s) + 1))) 466 2 0 := by rw [qU180e, rU117]
          have rU184 : rs9_ U184 p = u2_ (fy2_ (u2_ (u2_ (rt9_ (rs9_ T p) s) 103 5 s) 466 s (wr_ ((T 466 p s) + 1))) 466 2 0) 468 s (wr_ ((T 468 p s) + 1)) := by rw [rs_u hU184 rfl, rU180]
          have rU192 : rs9_ U192 p = u2_ (u2_ (fy2_ (u2_ (u2_ (rt9_ (rs9_ T p) s) 103 5 s) 466 s (wr_ ((T 466 p s) + 1))) 466 2 0) 468 s (wr_ ((T 468 p s) + 1))) 103 4 (wr_ ((T 103 p 4) + 1)) := by rw [rs_u hU192 rfl, rU184]
          have rU198 : rs9_ U198 p = u2_ (u2_ (u2_ (fy2_ (u2_ (u2_ (rt9_ (rs9_ T p) s) 103 5 s) 466 s (wr_ ((T 466 p s) + 1))) 466 2 0) 468 s (wr_ ((T 468 p s) + 1))) 103 4 (wr_ ((T 103 p 4) + 1))) 103 5 (an_ (wr_ ((T 103 p 4) + 1)) 1) := by rw [rs_u hU198 rfl, rU192]
          exact ⟨rfl, fr_u (fr_u (fr_u (fr_t (fr_u (fr_u (fr_t (fr_0 _ _) (fr_s fU111 rfl)) hU112 rfl) hU117 rfl) (fr_s fU180 rfl)) hU184 rfl) hU192 rfl) hU198 rfl, oi_u (oi_u (oi_u (oi_t (oi_u (oi_u (oi_t (oi_r) qU111o) hU112) hU117) qU180o) hU184) hU192) hU198, by exact fun _ => by omega, Eq.trans rU198 (pv9__8 (r := ru) (a := (rs9_ T p)) (s := s) (show ¬ (T 103 p 5 = s) by omega) (show T 103 p 4 = 4 by omega) (show (3 * ru 11 + 4) / 5 ≤ wr_ (T 466 p s + 1) ∧ 2 ≤ wr_ (wr_ (T 466 p s + 1) - T 466 p (1 - s)) by omega) (show ¬ (wr_ (T 468 p s + 1) = 3) by omega)).symm⟩
        · refine bd_i (by omega) ?_
          refine x_nm (fun U206 hU206 => ?_)
          have e207 := up_f hU206
          refine (show po_X3_playVolleyball_e T p ru s U206 (none) from ?_)
          have e208 : U206 103 p 3 = 1 := up_f hU206
          have e209 : U206 470 p 0 = T 470 p 0 := (up_k hU206 (by exact Nat.ne_of_beq_eq_false rfl) p 0).trans ((up_k hU184 (by exact Nat.ne_of_beq_eq_false rfl) p 0).trans ((fU180 470 p 0 rfl).trans ((up_k hU117 (by exact Nat.ne_of_beq_eq_false rfl) p 0).trans ((up_k hU112 (by exact Nat.ne_of_beq_eq_false rfl) p 0).trans (fU111 470 p 0 rfl)))))
          have e210 : U206 470 p 1 = T 470 p 1 := (up_k hU206 (by exact Nat.ne_of_beq_eq_false rfl) p 1).trans ((up_k hU184 (by exact Nat.ne_of_beq_eq_false rfl) p 1).trans ((fU180 470 p 1 rfl).trans ((up_k hU117 (by exact Nat.ne_of_beq_eq_false rfl) p 1).trans ((up_k hU112 (by exact Nat.ne_of_beq_eq_false rfl) p 1).trans (fU111 470 p 1 rfl)))))
          have g211 : U206 470 p 0 = T 470 p 0 := (up_k hU206 (by exact Nat.ne_of_beq_eq_false rfl) p 0).trans ((up_k hU184 (by exact Nat.ne_of_beq_eq_false rfl) p 0).trans ((fU180 470 p 0 rfl).trans ((up_k hU117 (by exact Nat.ne_of_beq_eq_false rfl) p 0).trans ((up_k hU112 (by exact Nat.ne_of_beq_eq_false rfl) p 0).trans (fU111 470 p 0 rfl)))))
          have g212 : U206 470 p 1 = T 470 p 1 := (up_k hU206 (by exact Nat.ne_of_beq_eq_false rfl) p 1).trans ((up_k hU184 (by exact Nat.ne_of_beq_eq_false rfl) p 1).trans ((fU180 470 p 1 rfl).trans ((up_k hU117 (by exact Nat.ne_of_beq_eq_false rfl) p 1).trans ((up_k hU112 (by exact Nat.ne_of_beq_eq_false rfl) p 1).trans (fU111 470 p 1 rfl)))))
          have e213 : U206 103 p 3 = 1 := up_f hU206
          have rU111 : rs9_ U111 p = rt9_ (rs9_ T p) s := qU111e
          have rU112 : rs9_ U112 p = u2_ (rt9_ (rs9_ T p) s) 103 5 s := by rw [rs_u hU112 rfl, rU111]
          have rU117 : rs9_ U117 p = u2_ (u2_ (rt9_ (rs9_ T p) s) 103 5 s) 466 s (wr_ ((T 466 p s) + 1)) := by rw [rs_u hU117 rfl, rU112]
          have rU180 : rs9_ U180 p = fy2_ (u2_ (u2_ (rt9_ (rs9_ T p) s) 103 5 s) 466 s (wr_ ((T 466 p s) + 1))) 466 2 0 := by rw [qU180e, rU117]
          have rU184 : rs9_ U184 p = u2_ (fy2_ (u2_ (u2_ (rt9_ (rs9_ T p) s) 103 5 s) 466 s (wr_ ((T 466 p s) + 1))) 466 2 0) 468 s (wr_ ((T 468 p s) + 1)) := by rw [rs_u hU184 rfl, rU180]
          have rU206 : rs9_ U206 p = u2_ (u2_ (fy2_ (u2_ (u2_ (rt9_ (rs9_ T p) s) 103 5 s) 466 s (wr_ ((T 466 p s) + 1))) 466 2 0) 468 s (wr_ ((T 468 p s) + 1))) 103 3 1 := by rw [rs_u hU206 rfl, rU184]
          exact ⟨rfl, fr_u (fr_u (fr_t (fr_u (fr_u (fr_t (fr_0 _ _) (fr_s fU111 rfl)) hU112 rfl) hU117 rfl) (fr_s fU180 rfl)) hU184 rfl) hU206 rfl, oi_u (oi_u (oi_t (oi_u (oi_u (oi_t (oi_r) qU111o) hU112) hU117) qU180o) hU184) hU206, by exact fun _ => by omega, Eq.trans rU206 (pv9__7 (r := ru) (a := (rs9_ T p)) (s := s) (show ¬ (T 103 p 5 = s) by omega) (show T 103 p 4 = 4 by omega) (show (3 * ru 11 + 4) / 5 ≤ wr_ (T 466 p s + 1) ∧ 2 ≤ wr_ (wr_ (T 466 p s + 1) - T 466 p (1 - s)) by omega) (show wr_ (T 468 p s + 1) = 3 by omega)).symm⟩
      · replace hx178 := hx178.resolve_left (fun z => absurd (c179.symm.trans z.1) (by decide))
        clear c179
        refine (show po_X3_playVolleyball_e T p ru s U117 (none) from ?_)
        have e214 : U117 103 p 3 = T 103 p 3 := (up_k hU117 (by exact Nat.ne_of_beq_eq_false rfl) p 3).trans ((up_j hU112 (by decide) 103 p).trans (fU111 103 p 3 rfl))
        have e215 : U117 470 p 0 = T 470 p 0 := (up_k hU117 (by exact Nat.ne_of_beq_eq_false rfl) p 0).trans ((up_k hU112 (by exact Nat.ne_of_beq_eq_false rfl) p 0).trans (fU111 470 p 0 rfl))
        have e216 : U117 470 p 1 = T 470 p 1 := (up_k hU117 (by exact Nat.ne_of_beq_eq_false rfl) p 1).trans ((up_k hU112 (by exact Nat.ne_of_beq_eq_false rfl) p 1).trans (fU111 470 p 1 rfl))
        have g217 : U117 470 p 0 = T 470 p 0 := (up_k hU117 (by exact Nat.ne_of_beq_eq_false rfl) p 0).trans ((up_k hU112 (by exact Nat.ne_of_beq_eq_false rfl) p 0).trans (fU111 470 p 0 rfl))
        have g218 : U117 470 p 1 = T 470 p 1 := (up_k hU117 (by exact Nat.ne_of_beq_eq_false rfl) p 1).trans ((up_k hU112 (by exact Nat.ne_of_beq_eq_false rfl) p 1).trans (fU111 470 p 1 rfl))
        have e219 : U117 103 p 3 = T 103 p 3 := (up_k hU117 (by exact Nat.ne_of_beq_eq_false rfl) p 3).trans ((up_j hU112 (by decide) 103 p).trans (fU111 103 p 3 rfl))
        have rU111 : rs9_ U111 p = rt9_ (rs9_ T p) s := qU111e
        have rU112 : rs9_ U112 p = u2_ (rt9_ (rs9_ T p) s) 103 5 s := by rw [rs_u hU112 rfl, rU111]
        have rU117 : rs9_ U117 p = u2_ (u2_ (rt9_ (rs9_ T p) s) 103 5 s) 466 s (wr_ ((T 466 p s) + 1)) := by rw [rs_u hU117 rfl, rU112]
        exact ⟨rfl, fr_u (fr_u (fr_t (fr_0 _ _) (fr_s fU111 rfl)) hU112 rfl) hU117 rfl, oi_u (oi_u (oi_t (oi_r) qU111o) hU112) hU117, by exact fun _ => by omega, Eq.trans rU117 (pv9__9 (r := ru) (a := (rs9_ T p)) (s := s) (show ¬ (T 103 p 5 = s) by omega) (show T 103 p 4 = 4 by omega) (show ¬ ((3 * ru 11 + 4) / 5 ≤ wr_ (T 466 p s + 1) ∧ 2 ≤ wr_ (wr_ (T 466 p s + 1) - T 466 p (1 - s))) by omega)).symm⟩
