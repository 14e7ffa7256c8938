-- clubs and officials: one more of two rows
def TG9_ (a : Nat) (sl mx : Int) (k1 k2 : Nat) (T T' : Zt) (s c x : Int) : Prop := (T' = T ∧ ((x = -3 ∧ ¬ (0 ≤ s ∧ s ≤ 11 ∧ 0 ≤ c ∧ c ≤ 7)) ∨ ((0 ≤ s ∧ s ≤ 11 ∧ 0 ≤ c ∧ c ≤ 7) ∧ T a 0 sl = mx ∧ x = -5))) ∨ ((0 ≤ s ∧ s ≤ 11 ∧ 0 ≤ c ∧ c ≤ 7) ∧ T a 0 sl < mx ∧ x = T a 0 sl ∧ T' a 0 sl = T a 0 sl + 1 ∧ SG9_ k1 T T' (T a 0 sl) s ∧ SG9_ k2 T T' (T a 0 sl) c)
theorem tg9_e {a1 a2 : Nat} {s1 s2 mx : Int} {k1 k2 k3 k4 : Nat} {T T1 T2 : Zt} {s c x1 x2 : Int} (h : ∀ j, 0 ≤ j → j < T a1 0 s1 → T k1 0 j = T k3 0 j ∧ T k2 0 j = T k4 0 j) (hn : T a1 0 s1 = T a2 0 s2) (d1 : TG9_ a1 s1 mx k1 k2 T T1 s c x1) (e2 : T1 a2 0 s2 = T a2 0 s2) (e3 : ∀ j, T1 k3 0 j = T k3 0 j) (e4 : ∀ j, T1 k4 0 j = T k4 0 j) (d2 : TG9_ a2 s2 mx k3 k4 T1 T2 s c x2) (g1 : T2 a1 0 s1 = T1 a1 0 s1) (g3 : ∀ j, T2 k1 0 j = T1 k1 0 j) (g4 : ∀ j, T2 k2 0 j = T1 k2 0 j) : x1 = x2 ∧ T2 a1 0 s1 = T2 a2 0 s2 ∧ ∀ j, 0 ≤ j → j < T2 a1 0 s1 → T2 k1 0 j = T2 k3 0 j ∧ T2 k2 0 j = T2 k4 0 j := by
  rcases d1 with ⟨rfl, u⟩ | ⟨u1, u2, u3, u4, u5, u6⟩
  · rcases d2 with ⟨rfl, v⟩ | ⟨v1, v2, v3, v4, v5, v6⟩
    · exact ⟨by omega, hn, h⟩
    · exfalso; omega
  · rcases d2 with ⟨rfl, v⟩ | ⟨v1, v2, v3, v4, v5, v6⟩
    · exfalso; omega
    · refine ⟨by omega, by omega, fun j p q => ?_⟩
      rw [g3, g4]
      rw [e2, ← hn] at v5 v6
      by_cases z : j = T a1 0 s1
      · rw [z, u5.1, u6.1, v5.1, v6.1]
        exact ⟨rfl, rfl⟩
      · rw [u5.2 j z, u6.2 j z, v5.2 j z, v6.2 j z, e3, e4]
        exact h j p (by omega)
/-- counters alike -/
def CNR_ (T : Zt) : Prop := T 108 0 2 = T 111 0 12 ∧ T 108 0 3 = T 111 0 15 ∧ T 108 0 12 = T 111 0 21 ∧ T 108 0 13 = T 111 0 3
/-- stadiums, countries, homes alike -/
def THR_ (T : Zt) : Prop := (∀ j, 0 ≤ j → j < T 108 0 2 → T 560 0 j = T 213 0 j ∧ T 561 0 j = T 214 0 j) ∧ ∀ j, 0 ≤ j → j < T 108 0 12 → T 570 0 j = T 222 0 j ∧ T 571 0 j = T 223 0 j
theorem bk_X10_club_e_0 : ck_ fX10 (some .int) cX10_club 0 [.iload 1, .iconst 12] 3 = true := qck_r (by decide) (by decide +kernel)
theorem bs_X10_club_e_0 {P : Zt → Option Zv → Prop} (K : Int → Zl → List Zv → Zt → Prop) : sx_ K P [.iload 1, .iconst 12] 3 = x_iload 1 (x_iconst 12 (K 3)) := ((xe_iload 1).trans (congrArg (x_iload 1) ((xe_iconst 12).trans (congrArg (x_iconst 12) xe_nil))))
theorem bk_X10_club_e_6 : ck_ fX10 (some .int) cX10_club 6 [.ifCond .eq 18, .iload 2, .iconst 8] 12 = true := qck_r (by decide) (by decide +kernel)
theorem bs_X10_club_e_6 {P : Zt → Option Zv → Prop} (K : Int → Zl → List Zv → Zt → Prop) : sx_ K P [.ifCond .eq 18, .iload 2, .iconst 8] 12 = x_ifCond .eq 18 K (x_iload 2 (x_iconst 8 (K 12))) := ((xe_ifCond .eq 18).trans (congrArg (x_ifCond .eq 18 K) ((xe_iload 2).trans (congrArg (x_iload 2) ((xe_iconst 8).trans (congrArg (x_iconst 8) xe_nil))))))
theorem bk_X10_club_e_18 : ck_ fX10 (some .int) cX10_club 18 [.iconst (-3), .ireturn] 21 = true := qck_r (by decide) (by decide +kernel)
theorem bs_X10_club_e_18 {P : Zt → Option Zv → Prop} (K : Int → Zl → List Zv → Zt → Prop) : sx_ K P [.iconst (-3), .ireturn] 21 = x_iconst (-3) (x_ireturn P) := ((xe_iconst (-3)).trans (congrArg (x_iconst (-3)) (xe_ireturn)))
theorem bk_X10_club_e_15 : ck_ fX10 (some .int) cX10_club 15 [.ifCond .ne 21, .iconst (-3), .ireturn] 21 = true := qck_r (by decide) (by decide +kernel)
theorem bs_X10_club_e_15 {P : Zt → Option Zv → Prop} (K : Int → Zl → List Zv → Zt → Prop) : sx_ K P [.ifCond .ne 21, .iconst (-3), .ireturn] 21 = x_ifCond .ne 21 K (x_iconst (-3) (x_ireturn P)) := ((xe_ifCond .ne 21).trans (congrArg (x_ifCond .ne 21 K) ((xe_iconst (-3)).trans (congrArg (x_iconst (-3)) (xe_ireturn)))))
theorem bk_X10_club_e_21 : ck_ fX10 (some .int) cX10_club 21 [.aload 0, .tableswitch 0 10 1 #[], .tableswitch 0 8 2 #[], .iconst 12, .if_icmp .lt 36, .iconst (-5), .ireturn] 36 = true := qck_r (by decide) (by decide +kernel)
theorem bs_X10_club_e_21 {P : Zt → Option Zv → Prop} (K : Int → Zl → List Zv → Zt → Prop) : sx_ K P [.aload 0, .tableswitch 0 10 1 #[], .tableswitch 0 8 2 #[], .iconst 12, .if_icmp .lt 36, .iconst (-5), .ireturn] 36 = x_aload 0 (x_g1 110 108 (x_g0 108 2 0 12 (x_iconst 12 (x_if_icmp .lt 36 K (x_iconst (-5) (x_ireturn P)))))) := ((xe_aload 0).trans (congrArg (x_aload 0) ((xe_g1 (kk := 110) rfl tl_10_1).trans (congrArg (x_g1 110 108) ((xe_g0 (kk := 108) rfl tl_8_2).trans (congrArg (x_g0 108 2 0 12) ((xe_iconst 12).trans (congrArg (x_iconst 12) ((xe_if_icmp .lt 36).trans (congrArg (x_if_icmp .lt 36 K) ((xe_iconst (-5)).trans (congrArg (x_iconst (-5)) (xe_ireturn)))))))))))))
theorem bk_X10_club_e_36 : ck_ fX10 (some .int) cX10_club 36 [.aload 0, .tableswitch 0 10 1 #[], .tableswitch 0 8 2 #[], .istore 3, .aload 0, .tableswitch 0 10 1 #[], .tableswitch 0 8 0 #[], .iload 3, .iload 1, .iastore, .aload 0, .tableswitch 0 10 1 #[], .tableswitch 0 8 1 #[], .iload 3, .iload 2, .iastore, .aload 0, .tableswitch 0 10 1 #[], .dup, .tableswitch 0 8 2 #[], .iconst 1, .iadd, .tableswitch 1 8 2 #[], .iload 3, .ireturn] 79 = true := qck_r (by decide) (by decide +kernel)
theorem bs_X10_club_e_36 {P : Zt → Option Zv → Prop} (K : Int → Zl → List Zv → Zt → Prop) : sx_ K P [.aload 0, .tableswitch 0 10 1 #[], .tableswitch 0 8 2 #[], .istore 3, .aload 0, .tableswitch 0 10 1 #[], .tableswitch 0 8 0 #[], .iload 3, .iload 1, .iastore, .aload 0, .tableswitch 0 10 1 #[], .tableswitch 0 8 1 #[], .iload 3, .iload 2, .iastore, .aload 0, .tableswitch 0 10 1 #[], .dup, .tableswitch 0 8 2 #[], .iconst 1, .iadd, .tableswitch 1 8 2 #[], .iload 3, .ireturn] 79 = x_aload 0 (x_g1 110 108 (x_g0 108 2 0 12 (x_istore 3 (x_aload 0 (x_g1 110 108 (x_g1 108 560 (x_iload 3 (x_iload 1 (x_iastore (x_aload 0 (x_g1 110 108 (x_g1 108 561 (x_iload 3 (x_iload 2 (x_iastore (x_aload 0 (x_g1 110 108 (x_dup (x_g0 108 2 0 12 (x_iconst 1 (x_iadd (x_p 108 2 0 12 (x_iload 3 (x_ireturn P)))))))))))))))))))))))) := ((xe_aload 0).trans (congrArg (x_aload 0) ((xe_g1 (kk := 110) rfl tl_10_1).trans (congrArg (x_g1 110 108) ((xe_g0 (kk := 108) rfl tl_8_2).trans (congrArg (x_g0 108 2 0 12) ((xe_istore 3).trans (congrArg (x_istore 3) ((xe_aload 0).trans (congrArg (x_aload 0) ((xe_g1 (kk := 110) rfl tl_10_1).trans (congrArg (x_g1 110 108) ((xe_g1 (kk := 108) rfl tl_8_0).trans (congrArg (x_g1 108 560) ((xe_iload 3).trans (congrArg (x_iload 3) ((xe_iload 1).trans (congrArg (x_iload 1) ((xe_iastore).trans (congrArg (x_iastore) ((xe_aload 0).trans (congrArg (x_aload 0) ((xe_g1 (kk := 110) rfl tl_10_1).trans (congrArg (x_g1 110 108) ((xe_g1 (kk := 108) rfl tl_8_1).trans (congrArg (x_g1 108 561) ((xe_iload 3).trans (congrArg (x_iload 3) ((xe_iload 2).trans (congrArg (x_iload 2) ((xe_iastore).trans (congrArg (x_iastore) ((xe_aload 0).trans (congrArg (x_aload 0) ((xe_g1 (kk := 110) rfl tl_10_1).trans (congrArg (x_g1 110 108) ((xe_dup).trans (congrArg (x_dup) ((xe_g0 (kk := 108) rfl tl_8_2).trans (congrArg (x_g0 108 2 0 12) ((xe_iconst 1).trans (congrArg (x_iconst 1) ((xe_iadd).trans (congrArg (x_iadd) ((xe_p (kk := 108) rfl tl_8_2).trans (congrArg (x_p 108 2 0 12) ((xe_iload 3).trans (congrArg (x_iload 3) (xe_ireturn)))))))))))))))))))))))))))))))))))))))))))))))))
abbrev po_X10_club_e (T : Zt) (s c : Int) : Zt → Option Zv → Prop := fun T' r => ∃ x : Int, r = some (vI x) ∧ fr_ [(108, [2]), (560, []), (561, [])] T T' ∧ (((x = -3 ∧ ¬ (0 ≤ s ∧ s ≤ 11 ∧ 0 ≤ c ∧ c ≤ 7) ∧ T' 108 0 2 = T 108 0 2) ∨ ((0 ≤ s ∧ s ≤ 11 ∧ 0 ≤ c ∧ c ≤ 7) ∧ T 108 0 2 = 12 ∧ x = -5 ∧ T' 108 0 2 = T 108 0 2) ∨ ((0 ≤ s ∧ s ≤ 11 ∧ 0 ≤ c ∧ c ≤ 7) ∧ T 108 0 2 < 12 ∧ x = T 108 0 2 ∧ T' 108 0 2 = T 108 0 2 + 1)) ∧ TG9_ 108 2 12 560 561 T T' s c x)
set_option maxHeartbeats 4000000 in
theorem ct_X10_club_e {T : Zt} {s c : Int} : Ct_ yX10_club zX10_club T [vR 110 0, vI s, vI c] (po_X10_club_e T s c) := by
  refine ct_of (by decide) rfl rfl (Nat.le_of_ble_eq_true rfl) (fun hT hav => ?_)
  have hr_s : -2147483648 ≤ s ∧ s ≤ 2147483647 := hav (vI s) (by simp)
  have hr_c : -2147483648 ≤ c ∧ c ≤ 2147483647 := hav (vI c) (by simp)
  have hz : zX10_club.2.2.2.1 = some .boolean → ∀ (T' : Zt) (x : Int), po_X10_club_e T s c T' (some (vI x)) → 0 ≤ x ∧ x ≤ 1 := fun h => by cases h
  have hb_2 : 0 ≤ T 108 0 2 ∧ T 108 0 2 ≤ 12 := bd_f hT 108 2 (by decide +kernel : (tf_ 108)[2]? = some (0, 0, 0, 12)) 0
  show J_ zX10_club T (po_X10_club_e T s c) 0 0 0 [some (vR 110 0), some (vI s), some (vI c), none] [] T
  refine j_blx (F := fX10) tb_X10 (by decide) bk_X10_club_e_0 bs_X10_club_e_0 hz (fun K hK => ?_)
  refine hK 3 [some (vR 110 0), some (vI s), some (vI c), none] [vI 12, vI s] T ?_
  refine j_callS (y := yX10_isBelow) (Yc := zX10_isBelow) (rest := []) [vI s, vI 12] (ct_X10_isBelow (T := T)) cl_X10_115 (qd_c (by decide +kernel)) (by decide) rfl (by decide +kernel) (Nat.le_of_ble_eq_true rfl) (by decide) (by decide) rfl ?_
  rintro _ _ ⟨rfl, x1, rfl, hx1⟩
  show J_ zX10_club T (po_X10_club_e T s c) 0 0 6 [some (vR 110 0), some (vI s), some (vI c), none] [vI x1] T
  refine j_blx (F := fX10) tb_X10 (by decide) bk_X10_club_e_6 bs_X10_club_e_6 hz (fun K hK => ?_)
  refine And.intro (fun c2 => ?_) (fun c2 => ?_)
  · refine hK 18 [some (vR 110 0), some (vI s), some (vI c), none] [] T ?_
    refine j_blx (F := fX10) tb_X10 (by decide) bk_X10_club_e_18 bs_X10_club_e_18 hz (fun K hK => ?_)
    refine (show po_X10_club_e T s c T (some (vI (-3))) from ?_)
    exact ⟨_, rfl, fr_0 _ _, by omega, Or.inl ⟨rfl, Or.inl ⟨rfl, by omega⟩⟩⟩
  · refine hK 12 [some (vR 110 0), some (vI s), some (vI c), none] [vI 8, vI c] T ?_
    refine j_callS (y := yX10_isBelow) (Yc := zX10_isBelow) (rest := []) [vI c, vI 8] (ct_X10_isBelow (T := T)) cl_X10_115 (qd_c (by decide +kernel)) (by decide) rfl (by decide +kernel) (Nat.le_of_ble_eq_true rfl) (by decide) (by decide) rfl ?_
    rintro _ _ ⟨rfl, x3, rfl, hx3⟩
    show J_ zX10_club T (po_X10_club_e T s c) 0 0 15 [some (vR 110 0), some (vI s), some (vI c), none] [vI x3] T
    refine j_blx (F := fX10) tb_X10 (by decide) bk_X10_club_e_15 bs_X10_club_e_15 hz (fun K hK => ?_)
    refine And.intro (fun c4 => ?_) (fun c4 => ?_)
    · refine hK 21 [some (vR 110 0), some (vI s), some (vI c), none] [] T ?_
      refine j_blx (F := fX10) tb_X10 (by decide) bk_X10_club_e_21 bs_X10_club_e_21 hz (fun K hK => ?_)
      intro b5 b5b
      refine And.intro (fun c6 => ?_) (fun c6 => ?_)
      · refine hK 36 [some (vR 110 0), some (vI s), some (vI c), none] [] T ?_
        refine j_blx (F := fX10) tb_X10 (by decide) bk_X10_club_e_36 bs_X10_club_e_36 hz (fun K hK => ?_)
        intro b7 b7b
        refine iy_i (by omega) (by omega) ?_
        refine x_nm (fun U8 hU8 => ?_)
        have e9 := up_f hU8
        refine iy_i (by omega) (by omega) ?_
        refine x_nm (fun U10 hU10 => ?_)
        have e11 := up_f hU10
        intro b12 b12b
        have e13 : U10 108 0 2 = T 108 0 2 := (up_k hU10 (by decide) 0 2).trans (up_k hU8 (by decide) 0 2)
        rw [e13] at b12 b12b ⊢
        refine rg_i (by omega) ?_
        refine bd_i (by omega) ?_
        refine x_nm (fun U14 hU14 => ?_)
        have e15 := up_f hU14
        refine (show po_X10_club_e T s c U14 (some (vI (T 108 0 2))) from ?_)
        have e16 : U14 108 0 2 = (T 108 0 2) + 1 := up_f hU14
        have e17 : U14 108 0 2 = (T 108 0 2) + 1 := up_f hU14
        exact ⟨_, rfl, fr_u (fr_u (fr_u (fr_0 _ _) hU8 rfl) hU10 rfl) hU14 rfl, by omega, Or.inr ⟨by omega, by omega, by omega, by omega, ⟨(up_k hU14 (by decide) 0 _).trans ((up_k hU10 (by decide) 0 _).trans (up_f hU8)), fun j hj => (up_k hU14 (by decide) 0 j).trans ((up_k hU10 (by decide) 0 j).trans (up_g hU8 (fun z => hj z.2.2)))⟩, ⟨(up_k hU14 (by decide) 0 _).trans (up_f hU10), fun j hj => (up_k hU14 (by decide) 0 j).trans ((up_g hU10 (fun z => hj z.2.2)).trans (up_k hU8 (by decide) 0 j))⟩⟩⟩
      · refine (show po_X10_club_e T s c T (some (vI (-5))) from ?_)
        exact ⟨_, rfl, fr_0 _ _, by omega, Or.inl ⟨rfl, Or.inr ⟨by omega, by omega, rfl⟩⟩⟩
    · refine (show po_X10_club_e T s c T (some (vI (-3))) from ?_)
      exact ⟨_, rfl, fr_0 _ _, by omega, Or.inl ⟨rfl, Or.inl ⟨rfl, by omega⟩⟩⟩
theorem bk_X11_club_e_0 : ck_ fX11 (some .int) cX11_club 0 [.iload 1, .iconst 0, .iconst 11] 4 = true := qck_r (by decide) (by decide +kernel)
theorem bs_X11_club_e_0 {P : Zt → Option Zv → Prop} (K : Int → Zl → List Zv → Zt → Prop) : sx_ K P [.iload 1, .iconst 0, .iconst 11] 4 = x_iload 1 (x_iconst 0 (x_iconst 11 (K 4))) := ((xe_iload 1).trans (congrArg (x_iload 1) ((xe_iconst 0).trans (congrArg (x_iconst 0) ((xe_iconst 11).trans (congrArg (x_iconst 11) xe_nil))))))
theorem bk_X11_club_e_7 : ck_ fX11 (some .int) cX11_club 7 [.ifCond .eq 20, .iload 2, .iconst 0, .iconst 7] 14 = true := qck_r (by decide) (by decide +kernel)
theorem bs_X11_club_e_7 {P : Zt → Option Zv → Prop} (K : Int → Zl → List Zv → Zt → Prop) : sx_ K P [.ifCond .eq 20, .iload 2, .iconst 0, .iconst 7] 14 = x_ifCond .eq 20 K (x_iload 2 (x_iconst 0 (x_iconst 7 (K 14)))) := ((xe_ifCond .eq 20).trans (congrArg (x_ifCond .eq 20 K) ((xe_iload 2).trans (congrArg (x_iload 2) ((xe_iconst 0).trans (congrArg (x_iconst 0) ((xe_iconst 7).trans (congrArg (x_iconst 7) xe_nil))))))))
theorem bk_X11_club_e_20 : ck_ fX11 (some .int) cX11_club 20 [.iconst (-3), .ireturn] 23 = true := qck_r (by decide) (by decide +kernel)
theorem bs_X11_club_e_20 {P : Zt → Option Zv → Prop} (K : Int → Zl → List Zv → Zt → Prop) : sx_ K P [.iconst (-3), .ireturn] 23 = x_iconst (-3) (x_ireturn P) := ((xe_iconst (-3)).trans (congrArg (x_iconst (-3)) (xe_ireturn)))
theorem bk_X11_club_e_17 : ck_ fX11 (some .int) cX11_club 17 [.ifCond .ne 23, .iconst (-3), .ireturn] 23 = true := qck_r (by decide) (by decide +kernel)
theorem bs_X11_club_e_17 {P : Zt → Option Zv → Prop} (K : Int → Zl → List Zv → Zt → Prop) : sx_ K P [.ifCond .ne 23, .iconst (-3), .ireturn] 23 = x_ifCond .ne 23 K (x_iconst (-3) (x_ireturn P)) := ((xe_ifCond .ne 23).trans (congrArg (x_ifCond .ne 23 K) ((xe_iconst (-3)).trans (congrArg (x_iconst (-3)) (xe_ireturn)))))
theorem bk_X11_club_e_23 : ck_ fX11 (some .int) cX11_club 23 [.aload 0, .tableswitch 0 11 12 #[], .iconst 12, .if_icmp .ne 35, .iconst (-5), .ireturn] 35 = true := qck_r (by decide) (by decide +kernel)
theorem bs_X11_club_e_23 {P : Zt → Option Zv → Prop} (K : Int → Zl → List Zv → Zt → Prop) : sx_ K P [.aload 0, .tableswitch 0 11 12 #[], .iconst 12, .if_icmp .ne 35, .iconst (-5), .ireturn] 35 = x_aload 0 (x_g0 111 12 0 12 (x_iconst 12 (x_if_icmp .ne 35 K (x_iconst (-5) (x_ireturn P))))) := ((xe_aload 0).trans (congrArg (x_aload 0) ((xe_g0 (kk := 111) rfl tl_11_12).trans (congrArg (x_g0 111 12 0 12) ((xe_iconst 12).trans (congrArg (x_iconst 12) ((xe_if_icmp .ne 35).trans (congrArg (x_if_icmp .ne 35 K) ((xe_iconst (-5)).trans (congrArg (x_iconst (-5)) (xe_ireturn)))))))))))
theorem bk_X11_club_e_35 : ck_ fX11 (some .int) cX11_club 35 [.aload 0, .tableswitch 0 11 13 #[], .aload 0, .tableswitch 0 11 12 #[], .iload 1, .iastore, .aload 0, .tableswitch 0 11 14 #[], .aload 0, .tableswitch 0 11 12 #[], .iload 2, .iastore, .aload 0, .dup, .tableswitch 0 11 12 #[], .iconst 1, .iadd, .tableswitch 1 11 12 #[], .aload 0, .tableswitch 0 11 12 #[], .iconst 1, .isub, .ireturn] 72 = true := qck_r (by decide) (by decide +kernel)
theorem bs_X11_club_e_35 {P : Zt → Option Zv → Prop} (K : Int → Zl → List Zv → Zt → Prop) : sx_ K P [.aload 0, .tableswitch 0 11 13 #[], .aload 0, .tableswitch 0 11 12 #[], .iload 1, .iastore, .aload 0, .tableswitch 0 11 14 #[], .aload 0, .tableswitch 0 11 12 #[], .iload 2, .iastore, .aload 0, .dup, .tableswitch 0 11 12 #[], .iconst 1, .iadd, .tableswitch 1 11 12 #[], .aload 0, .tableswitch 0 11 12 #[], .iconst 1, .isub, .ireturn] 72 = x_aload 0 (x_g1 111 213 (x_aload 0 (x_g0 111 12 0 12 (x_iload 1 (x_iastore (x_aload 0 (x_g1 111 214 (x_aload 0 (x_g0 111 12 0 12 (x_iload 2 (x_iastore (x_aload 0 (x_dup (x_g0 111 12 0 12 (x_iconst 1 (x_iadd (x_p 111 12 0 12 (x_aload 0 (x_g0 111 12 0 12 (x_iconst 1 (x_isub (x_ireturn P)))))))))))))))))))))) := ((xe_aload 0).trans (congrArg (x_aload 0) ((xe_g1 (kk := 111) rfl tl_11_13).trans (congrArg (x_g1 111 213) ((xe_aload 0).trans (congrArg (x_aload 0) ((xe_g0 (kk := 111) rfl tl_11_12).trans (congrArg (x_g0 111 12 0 12) ((xe_iload 1).trans (congrArg (x_iload 1) ((xe_iastore).trans (congrArg (x_iastore) ((xe_aload 0).trans (congrArg (x_aload 0) ((xe_g1 (kk := 111) rfl tl_11_14).trans (congrArg (x_g1 111 214) ((xe_aload 0).trans (congrArg (x_aload 0) ((xe_g0 (kk := 111) rfl tl_11_12).trans (congrArg (x_g0 111 12 0 12) ((xe_iload 2).trans (congrArg (x_iload 2) ((xe_iastore).trans (congrArg (x_iastore) ((xe_aload 0).trans (congrArg (x_aload 0) ((xe_dup).trans (congrArg (x_dup) ((xe_g0 (kk := 111) rfl tl_11_12).trans (congrArg (x_g0 111 12 0 12) ((xe_iconst 1).trans (congrArg (x_iconst 1) ((xe_iadd).trans (congrArg (x_iadd) ((xe_p (kk := 111) rfl tl_11_12).trans (congrArg (x_p 111 12 0 12) ((xe_aload 0).trans (congrArg (x_aload 0) ((xe_g0 (kk := 111) rfl tl_11_12).trans (congrArg (x_g0 111 12 0 12) ((xe_iconst 1).trans (congrArg (x_iconst 1) ((xe_isub).trans (congrArg (x_isub) (xe_ireturn)))))))))))))))))))))))))))))))))))))))))))))
abbrev po_X11_club_e (T : Zt) (s c : Int) : Zt → Option Zv → Prop := fun T' r => ∃ x : Int, r = some (vI x) ∧ fr_ [(111, [12]), (213, []), (214, [])] T T' ∧ (((x = -3 ∧ ¬ (0 ≤ s ∧ s ≤ 11 ∧ 0 ≤ c ∧ c ≤ 7) ∧ T' 111 0 12 = T 111 0 12) ∨ ((0 ≤ s ∧ s ≤ 11 ∧ 0 ≤ c ∧ c ≤ 7) ∧ T 111 0 12 = 12 ∧ x = -5 ∧ T' 111 0 12 = T 111 0 12) ∨ ((0 ≤ s ∧ s ≤ 11 ∧ 0 ≤ c ∧ c ≤ 7) ∧ T 111 0 12 < 12 ∧ x = T 111 0 12 ∧ T' 111 0 12 = T 111 0 12 + 1)) ∧ TG9_ 111 12 12 213 214 T T' s c x)
set_option maxHeartbeats 4000000 in
theorem ct_X11_club_e {T : Zt} {s c : Int} : Ct_ yX11_club zX11_club T [vR 111 0, vI s, vI c] (po_X11_club_e T s c) := by
  refine ct_of (by decide) rfl rfl (Nat.le_of_ble_eq_true rfl) (fun hT hav => ?_)
  have hr_s : -2147483648 ≤ s ∧ s ≤ 2147483647 := hav (vI s) (by simp)
  have hr_c : -2147483648 ≤ c ∧ c ≤ 2147483647 := hav (vI c) (by simp)
  have hz : zX11_club.2.2.2.1 = some .boolean → ∀ (T' : Zt) (x : Int), po_X11_club_e T s c T' (some (vI x)) → 0 ≤ x ∧ x ≤ 1 := fun h => by cases h
  have hb_12 : 0 ≤ T 111 0 12 ∧ T 111 0 12 ≤ 12 := bd_f hT 111 12 (by decide +kernel : (tf_ 111)[12]? = some (0, 0, 0, 12)) 0
  show J_ zX11_club T (po_X11_club_e T s c) 0 0 0 [some (vR 111 0), some (vI s), some (vI c)] [] T
  refine j_blx (F := fX11) tb_X11 (by decide) bk_X11_club_e_0 bs_X11_club_e_0 hz (fun K hK => ?_)
  refine hK 4 [some (vR 111 0), some (vI s), some (vI c)] [vI 11, vI 0, vI s] T ?_
  refine j_callS (y := yX11_in) (Yc := zX11_in) (rest := []) [vI s, vI 0, vI 11] (ct_X11_in (T := T)) cl_X11_255 (qd_c (by decide +kernel)) (by decide) rfl (by decide +kernel) (Nat.le_of_ble_eq_true rfl) (by decide) (by decide) rfl ?_
  rintro _ _ ⟨rfl, x1, rfl, hx1⟩
  show J_ zX11_club T (po_X11_club_e T s c) 0 0 7 [some (vR 111 0), some (vI s), some (vI c)] [vI x1] T
  refine j_blx (F := fX11) tb_X11 (by decide) bk_X11_club_e_7 bs_X11_club_e_7 hz (fun K hK => ?_)
  refine And.intro (fun c2 => ?_) (fun c2 => ?_)
  · refine hK 20 [some (vR 111 0), some (vI s), some (vI c)] [] T ?_
    refine j_blx (F := fX11) tb_X11 (by decide) bk_X11_club_e_20 bs_X11_club_e_20 hz (fun K hK => ?_)
    refine (show po_X11_club_e T s c T (some (vI (-3))) from ?_)
    exact ⟨_, rfl, fr_0 _ _, by omega, Or.inl ⟨rfl, Or.inl ⟨rfl, by omega⟩⟩⟩
  · refine hK 14 [some (vR 111 0), some (vI s), some (vI c)] [vI 7, vI 0, vI c] T ?_
    refine j_callS (y := yX11_in) (Yc := zX11_in) (rest := []) [vI c, vI 0, vI 7] (ct_X11_in (T := T)) cl_X11_255 (qd_c (by decide +kernel)) (by decide) rfl (by decide +kernel) (Nat.le_of_ble_eq_true rfl) (by decide) (by decide) rfl ?_
    rintro _ _ ⟨rfl, x3, rfl, hx3⟩
    show J_ zX11_club T (po_X11_club_e T s c) 0 0 17 [some (vR 111 0), some (vI s), some (vI c)] [vI x3] T
    refine j_blx (F := fX11) tb_X11 (by decide) bk_X11_club_e_17 bs_X11_club_e_17 hz (fun K hK => ?_)
    refine And.intro (fun c4 => ?_) (fun c4 => ?_)
    · refine hK 23 [some (vR 111 0), some (vI s), some (vI c)] [] T ?_
      refine j_blx (F := fX11) tb_X11 (by decide) bk_X11_club_e_23 bs_X11_club_e_23 hz (fun K hK => ?_)
      intro b5 b5b
      refine And.intro (fun c6 => ?_) (fun c6 => ?_)
      · refine hK 35 [some (vR 111 0), some (vI s), some (vI c)] [] T ?_
        refine j_blx (F := fX11) tb_X11 (by decide) bk_X11_club_e_35 bs_X11_club_e_35 hz (fun K hK => ?_)
        intro b7 b7b
        refine iy_i (by omega) (by omega) ?_
        refine x_nm (fun U8 hU8 => ?_)
        have e9 := up_f hU8
        intro b10 b10b
        have e11 : U8 111 0 12 = T 111 0 12 := up_k hU8 (by decide) 0 12
        rw [e11] at b10 b10b ⊢
        refine iy_i (by omega) (by omega) ?_
        refine x_nm (fun U12 hU12 => ?_)
        have e13 := up_f hU12
        intro b14 b14b
        have e15 : U12 111 0 12 = T 111 0 12 := (up_k hU12 (by decide) 0 12).trans (up_k hU8 (by decide) 0 12)
        rw [e15] at b14 b14b ⊢
        refine rg_i (by omega) ?_
        refine bd_i (by omega) ?_
        refine x_nm (fun U16 hU16 => ?_)
        have e17 := up_f hU16
        intro b18 b18b
        have e19 : U16 111 0 12 = (T 111 0 12) + 1 := up_f hU16
        rw [e19] at b18 b18b ⊢
        refine rg_i (by omega) ?_
        refine (show po_X11_club_e T s c U16 (some (vI (((T 111 0 12) + 1) - 1))) from ?_)
        have e20 : U16 111 0 12 = (T 111 0 12) + 1 := up_f hU16
        have e21 : U16 111 0 12 = (T 111 0 12) + 1 := up_f hU16
        exact ⟨_, rfl, fr_u (fr_u (fr_u (fr_0 _ _) hU8 rfl) hU12 rfl) hU16 rfl, by omega, Or.inr ⟨by omega, by omega, by omega, by omega, ⟨(up_k hU16 (by decide) 0 _).trans ((up_k hU12 (by decide) 0 _).trans (up_f hU8)), fun j hj => (up_k hU16 (by decide) 0 j).trans ((up_k hU12 (by decide) 0 j).trans (up_g hU8 (fun z => hj z.2.2)))⟩, ⟨(up_k hU16 (by decide) 0 _).trans (up_f hU12), fun j hj => (up_k hU16 (by decide) 0 j).trans ((up_g hU12 (fun z => hj z.2.2)).trans (up_k hU8 (by decide) 0 j))⟩⟩⟩
      · refine (show po_X11_club_e T s c T (some (vI (-5))) from ?_)
        exact ⟨_, rfl, fr_0 _ _, by omega, Or.inl ⟨rfl, Or.inr ⟨by omega, by omega, rfl⟩⟩⟩
    · refine (show po_X11_club_e T s c T (some (vI (-3))) from ?_)
      exact ⟨_, rfl, fr_0 _ _, by omega, Or.inl ⟨rfl, Or.inl ⟨rfl, by omega⟩⟩⟩
theorem bk_X10_official_e_0 : ck_ fX10 (some .int) cX10_official 0 [.iload 1, .iconst 12] 3 = true := qck_r (by decide) (by decide +kernel)
theorem bs_X10_official_e_0 {P : Zt → Option Zv → Prop} (K : Int → Zl → List Zv → Zt → Prop) : sx_ K P [.iload 1, .iconst 12] 3 = x_iload 1 (x_iconst 12 (K 3)) := ((xe_iload 1).trans (congrArg (x_iload 1) ((xe_iconst 12).trans (congrArg (x_iconst 12) xe_nil))))
theorem bk_X10_official_e_6 : ck_ fX10 (some .int) cX10_official 6 [.ifCond .eq 18, .iload 2, .iconst 8] 12 = true := qck_r (by decide) (by decide +kernel)
theorem bs_X10_official_e_6 {P : Zt → Option Zv → Prop} (K : Int → Zl → List Zv → Zt → Prop) : sx_ K P [.ifCond .eq 18, .iload 2, .iconst 8] 12 = x_ifCond .eq 18 K (x_iload 2 (x_iconst 8 (K 12))) := ((xe_ifCond .eq 18).trans (congrArg (x_ifCond .eq 18 K) ((xe_iload 2).trans (congrArg (x_iload 2) ((xe_iconst 8).trans (congrArg (x_iconst 8) xe_nil))))))
theorem bk_X10_official_e_18 : ck_ fX10 (some .int) cX10_official 18 [.iconst (-3), .ireturn] 21 = true := qck_r (by decide) (by decide +kernel)
theorem bs_X10_official_e_18 {P : Zt → Option Zv → Prop} (K : Int → Zl → List Zv → Zt → Prop) : sx_ K P [.iconst (-3), .ireturn] 21 = x_iconst (-3) (x_ireturn P) := ((xe_iconst (-3)).trans (congrArg (x_iconst (-3)) (xe_ireturn)))
theorem bk_X10_official_e_15 : ck_ fX10 (some .int) cX10_official 15 [.ifCond .ne 21, .iconst (-3), .ireturn] 21 = true := qck_r (by decide) (by decide +kernel)
theorem bs_X10_official_e_15 {P : Zt → Option Zv → Prop} (K : Int → Zl → List Zv → Zt → Prop) : sx_ K P [.ifCond .ne 21, .iconst (-3), .ireturn] 21 = x_ifCond .ne 21 K (x_iconst (-3) (x_ireturn P)) := ((xe_ifCond .ne 21).trans (congrArg (x_ifCond .ne 21 K) ((xe_iconst (-3)).trans (congrArg (x_iconst (-3)) (xe_ireturn)))))
theorem bk_X10_official_e_21 : ck_ fX10 (some .int) cX10_official 21 [.aload 0, .tableswitch 0 10 1 #[], .tableswitch 0 8 12 #[], .iconst 8, .if_icmp .lt 36, .iconst (-5), .ireturn] 36 = true := qck_r (by decide) (by decide +kernel)
theorem bs_X10_official_e_21 {P : Zt → Option Zv → Prop} (K : Int → Zl → List Zv → Zt → Prop) : sx_ K P [.aload 0, .tableswitch 0 10 1 #[], .tableswitch 0 8 12 #[], .iconst 8, .if_icmp .lt 36, .iconst (-5), .ireturn] 36 = x_aload 0 (x_g1 110 108 (x_g0 108 12 0 8 (x_iconst 8 (x_if_icmp .lt 36 K (x_iconst (-5) (x_ireturn P)))))) := ((xe_aload 0).trans (congrArg (x_aload 0) ((xe_g1 (kk := 110) rfl tl_10_1).trans (congrArg (x_g1 110 108) ((xe_g0 (kk := 108) rfl tl_8_12).trans (congrArg (x_g0 108 12 0 8) ((xe_iconst 8).trans (congrArg (x_iconst 8) ((xe_if_icmp .lt 36).trans (congrArg (x_if_icmp .lt 36 K) ((xe_iconst (-5)).trans (congrArg (x_iconst (-5)) (xe_ireturn)))))))))))))
theorem bk_X10_official_e_36 : ck_ fX10 (some .int) cX10_official 36 [.aload 0, .tableswitch 0 10 1 #[], .tableswitch 0 8 12 #[], .istore 3, .aload 0, .tableswitch 0 10 1 #[], .tableswitch 0 8 10 #[], .iload 3, .iload 1, .iastore, .aload 0, .tableswitch 0 10 1 #[], .tableswitch 0 8 11 #[], .iload 3, .iload 2, .iastore, .aload 0, .tableswitch 0 10 1 #[], .dup, .tableswitch 0 8 12 #[], .iconst 1, .iadd, .tableswitch 1 8 12 #[], .iload 3, .ireturn] 79 = true := qck_r (by decide) (by decide +kernel)
theorem bs_X10_official_e_36 {P : Zt → Option Zv → Prop} (K : Int → Zl → List Zv → Zt → Prop) : sx_ K P [.aload 0, .tableswitch 0 10 1 #[], .tableswitch 0 8 12 #[], .istore 3, .aload 0, .tableswitch 0 10 1 #[], .tableswitch 0 8 10 #[], .iload 3, .iload 1, .iastore, .aload 0, .tableswitch 0 10 1 #[], .tableswitch 0 8 11 #[], .iload 3, .iload 2, .iastore, .aload 0, .tableswitch 0 10 1 #[], .dup, .tableswitch 0 8 12 #[], .iconst 1, .iadd, .tableswitch 1 8 12 #[], .iload 3, .ireturn] 79 = x_aload 0 (x_g1 110 108 (x_g0 108 12 0 8 (x_istore 3 (x_aload 0 (x_g1 110 108 (x_g1 108 570 (x_iload 3 (x_iload 1 (x_iastore (x_aload 0 (x_g1 110 108 (x_g1 108 571 (x_iload 3 (x_iload 2 (x_iastore (x_aload 0 (x_g1 110 108 (x_dup (x_g0 108 12 0 8 (x_iconst 1 (x_iadd (x_p 108 12 0 8 (x_iload 3 (x_ireturn P)))))))))))))))))))))))) := ((xe_aload 0).trans (congrArg (x_aload 0) ((xe_g1 (kk := 110) rfl tl_10_1).trans (congrArg (x_g1 110 108) ((xe_g0 (kk := 108) rfl tl_8_12).trans (congrArg (x_g0 108 12 0 8) ((xe_istore 3).trans (congrArg (x_istore 3) ((xe_aload 0).trans (congrArg (x_aload 0) ((xe_g1 (kk := 110) rfl tl_10_1).trans (congrArg (x_g1 110 108) ((xe_g1 (kk := 108) rfl tl_8_10).trans (congrArg (x_g1 108 570) ((xe_iload 3).trans (congrArg (x_iload 3) ((xe_iload 1).trans (congrArg (x_iload 1) ((xe_iastore).trans (congrArg (x_iastore) ((xe_aload 0).trans (congrArg (x_aload 0) ((xe_g1 (kk := 110) rfl tl_10_1).trans (congrArg (x_g1 110 108) ((xe_g1 (kk := 108) rfl tl_8_11).trans (congrArg (x_g1 108 571) ((xe_iload 3).trans (congrArg (x_iload 3) ((xe_iload 2).trans (congrArg (x_iload 2) ((xe_iastore).trans (congrArg (x_iastore) ((xe_aload 0).trans (congrArg (x_aload 0) ((xe_g1 (kk := 110) rfl tl_10_1).trans (congrArg (x_g1 110 108) ((xe_dup).trans (congrArg (x_dup) ((xe_g0 (kk := 108) rfl tl_8_12).trans (congrArg (x_g0 108 12 0 8) ((xe_iconst 1).trans (congrArg (x_iconst 1) ((xe_iadd).trans (congrArg (x_iadd) ((xe_p (kk := 108) rfl tl_8_12).trans (congrArg (x_p 108 12 0 8) ((xe_iload 3).trans (congrArg (x_iload 3) (xe_ireturn)))))))))))))))))))))))))))))))))))))))))))))))))
abbrev po_X10_official_e (T : Zt) (s c : Int) : Zt → Option Zv → Prop := fun T' r => ∃ x : Int, r = some (vI x) ∧ fr_ [(108, [12]), (570, []), (571, [])] T T' ∧ (((x = -3 ∧ ¬ (0 ≤ s ∧ s ≤ 11 ∧ 0 ≤ c ∧ c ≤ 7) ∧ T' 108 0 12 = T 108 0 12) ∨ ((0 ≤ s ∧ s ≤ 11 ∧ 0 ≤ c ∧ c ≤ 7) ∧ T 108 0 12 = 8 ∧ x = -5 ∧ T' 108 0 12 = T 108 0 12) ∨ ((0 ≤ s ∧ s ≤ 11 ∧ 0 ≤ c ∧ c ≤ 7) ∧ T 108 0 12 < 8 ∧ x = T 108 0 12 ∧ T' 108 0 12 = T 108 0 12 + 1)) ∧ TG9_ 108 12 8 570 571 T T' s c x)
set_option maxHeartbeats 4000000 in
theorem ct_X10_official_e {T : Zt} {s c : Int} : Ct_ yX10_official zX10_official T [vR 110 0, vI s, vI c] (po_X10_official_e T s c) := by
  refine ct_of (by decide) rfl rfl (Nat.le_of_ble_eq_true rfl) (fun hT hav => ?_)
  have hr_s : -2147483648 ≤ s ∧ s ≤ 2147483647 := hav (vI s) (by simp)
  have hr_c : -2147483648 ≤ c ∧ c ≤ 2147483647 := hav (vI c) (by simp)
  have hz : zX10_official.2.2.2.1 = some .boolean → ∀ (T' : Zt) (x : Int), po_X10_official_e T s c T' (some (vI x)) → 0 ≤ x ∧ x ≤ 1 := fun h => by cases h
  have hb_12 : 0 ≤ T 108 0 12 ∧ T 108 0 12 ≤ 8 := bd_f hT 108 12 (by decide +kernel : (tf_ 108)[12]? = some (0, 0, 0, 8)) 0
  show J_ zX10_official T (po_X10_official_e T s c) 0 0 0 [some (vR 110 0), some (vI s), some (vI c), none] [] T
  refine j_blx (F := fX10) tb_X10 (by decide) bk_X10_official_e_0 bs_X10_official_e_0 hz (fun K hK => ?_)
  refine hK 3 [some (vR 110 0), some (vI s), some (vI c), none] [vI 12, vI s] T ?_
  refine j_callS (y := yX10_isBelow) (Yc := zX10_isBelow) (rest := []) [vI s, vI 12] (ct_X10_isBelow (T := T)) cl_X10_115 (qd_c (by decide +kernel)) (by decide) rfl (by decide +kernel) (Nat.le_of_ble_eq_true rfl) (by decide) (by decide) rfl ?_
  rintro _ _ ⟨rfl, x1, rfl, hx1⟩
  show J_ zX10_official T (po_X10_official_e T s c) 0 0 6 [some (vR 110 0), some (vI s), some (vI c), none] [vI x1] T
  refine j_blx (F := fX10) tb_X10 (by decide) bk_X10_official_e_6 bs_X10_official_e_6 hz (fun K hK => ?_)
  refine And.intro (fun c2 => ?_) (fun c2 => ?_)
  · refine hK 18 [some (vR 110 0), some (vI s), some (vI c), none] [] T ?_
    refine j_blx (F := fX10) tb_X10 (by decide) bk_X10_official_e_18 bs_X10_official_e_18 hz (fun K hK => ?_)
    refine (show po_X10_official_e T s c T (some (vI (-3))) from ?_)
    exact ⟨_, rfl, fr_0 _ _, by omega, Or.inl ⟨rfl, Or.inl ⟨rfl, by omega⟩⟩⟩
  · refine hK 12 [some (vR 110 0), some (vI s), some (vI c), none] [vI 8, vI c] T ?_
    refine j_callS (y := yX10_isBelow) (Yc := zX10_isBelow) (rest := []) [vI c, vI 8] (ct_X10_isBelow (T := T)) cl_X10_115 (qd_c (by decide +kernel)) (by decide) rfl (by decide +kernel) (Nat.le_of_ble_eq_true rfl) (by decide) (by decide) rfl ?_
    rintro _ _ ⟨rfl, x3, rfl, hx3⟩
    show J_ zX10_official T (po_X10_official_e T s c) 0 0 15 [some (vR 110 0), some (vI s), some (vI c), none] [vI x3] T
    refine j_blx (F := fX10) tb_X10 (by decide) bk_X10_official_e_15 bs_X10_official_e_15 hz (fun K hK => ?_)
    refine And.intro (fun c4 => ?_) (fun c4 => ?_)
    · refine hK 21 [some (vR 110 0), some (vI s), some (vI c), none] [] T ?_
      refine j_blx (F := fX10) tb_X10 (by decide) bk_X10_official_e_21 bs_X10_official_e_21 hz (fun K hK => ?_)
      intro b5 b5b
      refine And.intro (fun c6 => ?_) (fun c6 => ?_)
      · refine hK 36 [some (vR 110 0), some (vI s), some (vI c), none] [] T ?_
        refine j_blx (F := fX10) tb_X10 (by decide) bk_X10_official_e_36 bs_X10_official_e_36 hz (fun K hK => ?_)
        intro b7 b7b
        refine iy_i (by omega) (by omega) ?_
        refine x_nm (fun U8 hU8 => ?_)
        have e9 := up_f hU8
        refine iy_i (by omega) (by omega) ?_
        refine x_nm (fun U10 hU10 => ?_)
        have e11 := up_f hU10
        intro b12 b12b
        have e13 : U10 108 0 12 = T 108 0 12 := (up_k hU10 (by decide) 0 12).trans (up_k hU8 (by decide) 0 12)
        rw [e13] at b12 b12b ⊢
        refine rg_i (by omega) ?_
        refine bd_i (by omega) ?_
        refine x_nm (fun U14 hU14 => ?_)
        have e15 := up_f hU14
        refine (show po_X10_official_e T s c U14 (some (vI (T 108 0 12))) from ?_)
        have e16 : U14 108 0 12 = (T 108 0 12) + 1 := up_f hU14
        have e17 : U14 108 0 12 = (T 108 0 12) + 1 := up_f hU14
        exact ⟨_, rfl, fr_u (fr_u (fr_u (fr_0 _ _) hU8 rfl) hU10 rfl) hU14 rfl, by omega, Or.inr ⟨by omega, by omega, by omega, by omega, ⟨(up_k hU14 (by decide) 0 _).trans ((up_k hU10 (by decide) 0 _).trans (up_f hU8)), fun j hj => (up_k hU14 (by decide) 0 j).trans ((up_k hU10 (by decide) 0 j).trans (up_g hU8 (fun z => hj z.2.2)))⟩, ⟨(up_k hU14 (by decide) 0 _).trans (up_f hU10), fun j hj => (up_k hU14 (by decide) 0 j).trans ((up_g hU10 (fun z => hj z.2.2)).trans (up_k hU8 (by decide) 0 j))⟩⟩⟩
      · refine (show po_X10_official_e T s c T (some (vI (-5))) from ?_)
        exact ⟨_, rfl, fr_0 _ _, by omega, Or.inl ⟨rfl, Or.inr ⟨by omega, by omega, rfl⟩⟩⟩
    · refine (show po_X10_official_e T s c T (some (vI (-3))) from ?_)
      exact ⟨_, rfl, fr_0 _ _, by omega, Or.inl ⟨rfl, Or.inl ⟨rfl, by omega⟩⟩⟩
theorem bk_X11_official_e_0 : ck_ fX11 (some .int) cX11_official 0 [.iload 1, .iconst 0, .iconst 11] 4 = true := qck_r (by decide) (by decide +kernel)
theorem bs_X11_official_e_0 {P : Zt → Option Zv → Prop} (K : Int → Zl → List Zv → Zt → Prop) : sx_ K P [.iload 1, .iconst 0, .iconst 11] 4 = x_iload 1 (x_iconst 0 (x_iconst 11 (K 4))) := ((xe_iload 1).trans (congrArg (x_iload 1) ((xe_iconst 0).trans (congrArg (x_iconst 0) ((xe_iconst 11).trans (congrArg (x_iconst 11) xe_nil))))))
theorem bk_X11_official_e_7 : ck_ fX11 (some .int) cX11_official 7 [.ifCond .eq 20, .iload 2, .iconst 0, .iconst 7] 14 = true := qck_r (by decide) (by decide +kernel)
theorem bs_X11_official_e_7 {P : Zt → Option Zv → Prop} (K : Int → Zl → List Zv → Zt → Prop) : sx_ K P [.ifCond .eq 20, .iload 2, .iconst 0, .iconst 7] 14 = x_ifCond .eq 20 K (x_iload 2 (x_iconst 0 (x_iconst 7 (K 14)))) := ((xe_ifCond .eq 20).trans (congrArg (x_ifCond .eq 20 K) ((xe_iload 2).trans (congrArg (x_iload 2) ((xe_iconst 0).trans (congrArg (x_iconst 0) ((xe_iconst 7).trans (congrArg (x_iconst 7) xe_nil))))))))
theorem bk_X11_official_e_20 : ck_ fX11 (some .int) cX11_official 20 [.iconst (-3), .ireturn] 23 = true := qck_r (by decide) (by decide +kernel)
theorem bs_X11_official_e_20 {P : Zt → Option Zv → Prop} (K : Int → Zl → List Zv → Zt → Prop) : sx_ K P [.iconst (-3), .ireturn] 23 = x_iconst (-3) (x_ireturn P) := ((xe_iconst (-3)).trans (congrArg (x_iconst (-3)) (xe_ireturn)))
theorem bk_X11_official_e_17 : ck_ fX11 (some .int) cX11_official 17 [.ifCond .ne 23, .iconst (-3), .ireturn] 23 = true := qck_r (by decide) (by decide +kernel)
theorem bs_X11_official_e_17 {P : Zt → Option Zv → Prop} (K : Int → Zl → List Zv → Zt → Prop) : sx_ K P [.ifCond .ne 23, .iconst (-3), .ireturn] 23 = x_ifCond .ne 23 K (x_iconst (-3) (x_ireturn P)) := ((xe_ifCond .ne 23).trans (congrArg (x_ifCond .ne 23 K) ((xe_iconst (-3)).trans (congrArg (x_iconst (-3)) (xe_ireturn)))))
theorem bk_X11_official_e_23 : ck_ fX11 (some .int) cX11_official 23 [.aload 0, .tableswitch 0 11 21 #[], .iconst 8, .if_icmp .ne 35, .iconst (-5), .ireturn] 35 = true := qck_r (by decide) (by decide +kernel)
theorem bs_X11_official_e_23 {P : Zt → Option Zv → Prop} (K : Int → Zl → List Zv → Zt → Prop) : sx_ K P [.aload 0, .tableswitch 0 11 21 #[], .iconst 8, .if_icmp .ne 35, .iconst (-5), .ireturn] 35 = x_aload 0 (x_g0 111 21 0 8 (x_iconst 8 (x_if_icmp .ne 35 K (x_iconst (-5) (x_ireturn P))))) := ((xe_aload 0).trans (congrArg (x_aload 0) ((xe_g0 (kk := 111) rfl tl_11_21).trans (congrArg (x_g0 111 21 0 8) ((xe_iconst 8).trans (congrArg (x_iconst 8) ((xe_if_icmp .ne 35).trans (congrArg (x_if_icmp .ne 35 K) ((xe_iconst (-5)).trans (congrArg (x_iconst (-5)) (xe_ireturn)))))))))))
theorem bk_X11_official_e_35 : ck_ fX11 (some .int) cX11_official 35 [.aload 0, .tableswitch 0 11 22 #[], .aload 0, .tableswitch 0 11 21 #[], .iload 1, .iastore, .aload 0, .tableswitch 0 11 23 #[], .aload 0, .tableswitch 0 11 21 #[], .iload 2, .iastore, .aload 0, .dup, .tableswitch 0 11 21 #[], .iconst 1, .iadd, .tableswitch 1 11 21 #[], .aload 0, .tableswitch 0 11 21 #[], .iconst 1, .isub, .ireturn] 72 = true := qck_r (by decide) (by decide +kernel)
theorem bs_X11_official_e_35 {P : Zt → Option Zv → Prop} (K : Int → Zl → List Zv → Zt → Prop) : sx_ K P [.aload 0, .tableswitch 0 11 22 #[], .aload 0, .tableswitch 0 11 21 #[], .iload 1, .iastore, .aload 0, .tableswitch 0 11 23 #[], .aload 0, .tableswitch 0 11 21 #[], .iload 2, .iastore, .aload 0, .dup, .tableswitch 0 11 21 #[], .iconst 1, .iadd, .tableswitch 1 11 21 #[], .aload 0, .tableswitch 0 11 21 #[], .iconst 1, .isub, .ireturn] 72 = x_aload 0 (x_g1 111 222 (x_aload 0 (x_g0 111 21 0 8 (x_iload 1 (x_iastore (x_aload 0 (x_g1 111 223 (x_aload 0 (x_g0 111 21 0 8 (x_iload 2 (x_iastore (x_aload 0 (x_dup (x_g0 111 21 0 8 (x_iconst 1 (x_iadd (x_p 111 21 0 8 (x_aload 0 (x_g0 111 21 0 8 (x_iconst 1 (x_isub (x_ireturn P)))))))))))))))))))))) := ((xe_aload 0).trans (congrArg (x_aload 0) ((xe_g1 (kk := 111) rfl tl_11_22).trans (congrArg (x_g1 111 222) ((xe_aload 0).trans (congrArg (x_aload 0) ((xe_g0 (kk := 111) rfl tl_11_21).trans (congrArg (x_g0 111 21 0 8) ((xe_iload 1).trans (congrArg (x_iload 1) ((xe_iastore).trans (congrArg (x_iastore) ((xe_aload 0).trans (congrArg (x_aload 0) ((xe_g1 (kk := 111) rfl tl_11_23).trans (congrArg (x_g1 111 223) ((xe_aload 0).trans (congrArg (x_aload 0) ((xe_g0 (kk := 111) rfl tl_11_21).trans (congrArg (x_g0 111 21 0 8) ((xe_iload 2).trans (congrArg (x_iload 2) ((xe_iastore).trans (congrArg (x_iastore) ((xe_aload 0).trans (congrArg (x_aload 0) ((xe_dup).trans (congrArg (x_dup) ((xe_g0 (kk := 111) rfl tl_11_21).trans (congrArg (x_g0 111 21 0 8) ((xe_iconst 1).trans (congrArg (x_iconst 1) ((xe_iadd).trans (congrArg (x_iadd) ((xe_p (kk := 111) rfl tl_11_21).trans (congrArg (x_p 111 21 0 8) ((xe_aload 0).trans (congrArg (x_aload 0) ((xe_g0 (kk := 111) rfl tl_11_21).trans (congrArg (x_g0 111 21 0 8) ((xe_iconst 1).trans (congrArg (x_iconst 1) ((xe_isub).trans (congrArg (x_isub) (xe_ireturn)))))))))))))))))))))))))))))))))))))))))))))
abbrev po_X11_official_e (T : Zt) (s c : Int) : Zt → Option Zv → Prop := fun T' r => ∃ x : Int, r = some (vI x) ∧ fr_ [(111, [21]), (222, []), (223, [])] T T' ∧ (((x = -3 ∧ ¬ (0 ≤ s ∧ s ≤ 11 ∧ 0 ≤ c ∧ c ≤ 7) ∧ T' 111 0 21 = T 111 0 21) ∨ ((0 ≤ s ∧ s ≤ 11 ∧ 0 ≤ c ∧ c ≤ 7) ∧ T 111 0 21 = 8 ∧ x = -5 ∧ T' 111 0 21 = T 111 0 21) ∨ ((0 ≤ s ∧ s ≤ 11 ∧ 0 ≤ c ∧ c ≤ 7) ∧ T 111 0 21 < 8 ∧ x = T 111 0 21 ∧ T' 111 0 21 = T 111 0 21 + 1)) ∧ TG9_ 111 21 8 222 223 T T' s c x)
set_option maxHeartbeats 4000000 in
theorem ct_X11_official_e {T : Zt} {s c : Int} : Ct_ yX11_official zX11_official T [vR 111 0, vI s, vI c] (po_X11_official_e T s c) := by
  refine ct_of (by decide) rfl rfl (Nat.le_of_ble_eq_true rfl) (fun hT hav => ?_)
  have hr_s : -2147483648 ≤ s ∧ s ≤ 2147483647 := hav (vI s) (by simp)
  have hr_c : -2147483648 ≤ c ∧ c ≤ 2147483647 := hav (vI c) (by simp)
  have hz : zX11_official.2.2.2.1 = some .boolean → ∀ (T' : Zt) (x : Int), po_X11_official_e T s c T' (some (vI x)) → 0 ≤ x ∧ x ≤ 1 := fun h => by cases h
  have hb_21 : 0 ≤ T 111 0 21 ∧ T 111 0 21 ≤ 8 := bd_f hT 111 21 (by decide +kernel : (tf_ 111)[21]? = some (0, 0, 0, 8)) 0
  show J_ zX11_official T (po_X11_official_e T s c) 0 0 0 [some (vR 111 0), some (vI s), some (vI c)] [] T
  refine j_blx (F := fX11) tb_X11 (by decide) bk_X11_official_e_0 bs_X11_official_e_0 hz (fun K hK => ?_)
  refine hK 4 [some (vR 111 0), some (vI s), some (vI c)] [vI 11, vI 0, vI s] T ?_
  refine j_callS (y := yX11_in) (Yc := zX11_in) (rest := []) [vI s, vI 0, vI 11] (ct_X11_in (T := T)) cl_X11_255 (qd_c (by decide +kernel)) (by decide) rfl (by decide +kernel) (Nat.le_of_ble_eq_true rfl) (by decide) (by decide) rfl ?_
  rintro _ _ ⟨rfl, x1, rfl, hx1⟩
  show J_ zX11_official T (po_X11_official_e T s c) 0 0 7 [some (vR 111 0), some (vI s), some (vI c)] [vI x1] T
  refine j_blx (F := fX11) tb_X11 (by decide) bk_X11_official_e_7 bs_X11_official_e_7 hz (fun K hK => ?_)
  refine And.intro (fun c2 => ?_) (fun c2 => ?_)
  · refine hK 20 [some (vR 111 0), some (vI s), some (vI c)] [] T ?_
    refine j_blx (F := fX11) tb_X11 (by decide) bk_X11_official_e_20 bs_X11_official_e_20 hz (fun K hK => ?_)
    refine (show po_X11_official_e T s c T (some (vI (-3))) from ?_)
    exact ⟨_, rfl, fr_0 _ _, by omega, Or.inl ⟨rfl, Or.inl ⟨rfl, by omega⟩⟩⟩
  · refine hK 14 [some (vR 111 0), some (vI s), some (vI c)] [vI 7, vI 0, vI c] T ?_
    refine j_callS (y := yX11_in) (Yc := zX11_in) (rest := []) [vI c, vI 0, vI 7] (ct_X11_in (T := T)) cl_X11_255 (qd_c (by decide +kernel)) (by decide) rfl (by decide +kernel) (Nat.le_of_ble_eq_true rfl) (by decide) (by decide) rfl ?_
    rintro _ _ ⟨rfl, x3, rfl, hx3⟩
    show J_ zX11_official T (po_X11_official_e T s c) 0 0 17 [some (vR 111 0), some (vI s), some (vI c)] [vI x3] T
    refine j_blx (F := fX11) tb_X11 (by decide) bk_X11_official_e_17 bs_X11_official_e_17 hz (fun K hK => ?_)
    refine And.intro (fun c4 => ?_) (fun c4 => ?_)
    · refine hK 23 [some (vR 111 0), some (vI s), some (vI c)] [] T ?_
      refine j_blx (F := fX11) tb_X11 (by decide) bk_X11_official_e_23 bs_X11_official_e_23 hz (fun K hK => ?_)
      intro b5 b5b
      refine And.intro (fun c6 => ?_) (fun c6 => ?_)
      · refine hK 35 [some (vR 111 0), some (vI s), some (vI c)] [] T ?_
        refine j_blx (F := fX11) tb_X11 (by decide) bk_X11_official_e_35 bs_X11_official_e_35 hz (fun K hK => ?_)
        intro b7 b7b
        refine iy_i (by omega) (by omega) ?_
        refine x_nm (fun U8 hU8 => ?_)
        have e9 := up_f hU8
        intro b10 b10b
        have e11 : U8 111 0 21 = T 111 0 21 := up_k hU8 (by decide) 0 21
        rw [e11] at b10 b10b ⊢
        refine iy_i (by omega) (by omega) ?_
        refine x_nm (fun U12 hU12 => ?_)
        have e13 := up_f hU12
        intro b14 b14b
        have e15 : U12 111 0 21 = T 111 0 21 := (up_k hU12 (by decide) 0 21).trans (up_k hU8 (by decide) 0 21)
        rw [e15] at b14 b14b ⊢
        refine rg_i (by omega) ?_
        refine bd_i (by omega) ?_
        refine x_nm (fun U16 hU16 => ?_)
        have e17 := up_f hU16
        intro b18 b18b
        have e19 : U16 111 0 21 = (T 111 0 21) + 1 := up_f hU16
        rw [e19] at b18 b18b ⊢
        refine rg_i (by omega) ?_
        refine (show po_X11_official_e T s c U16 (some (vI (((T 111 0 21) + 1) - 1))) from ?_)
        have e20 : U16 111 0 21 = (T 111 0 21) + 1 := up_f hU16
        have e21 : U16 111 0 21 = (T 111 0 21) + 1 := up_f hU16
        exact ⟨_, rfl, fr_u (fr_u (fr_u (fr_0 _ _) hU8 rfl) hU12 rfl) hU16 rfl, by omega, Or.inr ⟨by omega, by omega, by omega, by omega, ⟨(up_k hU16 (by decide) 0 _).trans ((up_k hU12 (by decide) 0 _).trans (up_f hU8)), fun j hj => (up_k hU16 (by decide) 0 j).trans ((up_k hU12 (by decide) 0 j).trans (up_g hU8 (fun z => hj z.2.2)))⟩, ⟨(up_k hU16 (by decide) 0 _).trans (up_f hU12), fun j hj => (up_k hU16 (by decide) 0 j).trans ((up_g hU12 (fun z => hj z.2.2)).trans (up_k hU8 (by decide) 0 j))⟩⟩⟩
      · refine (show po_X11_official_e T s c T (some (vI (-5))) from ?_)
        exact ⟨_, rfl, fr_0 _ _, by omega, Or.inl ⟨rfl, Or.inr ⟨by omega, by omega, rfl⟩⟩⟩
    · refine (show po_X11_official_e T s c T (some (vI (-3))) from ?_)
      exact ⟨_, rfl, fr_0 _ _, by omega, Or.inl ⟨rfl, Or.inl ⟨rfl, by omega⟩⟩⟩

