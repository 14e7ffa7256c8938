-- clubs and officials: one more of two rows
def TG9_ (a : Nat) (sl mx : Int) (k1 k2 : Nat) (T T' : Zt) (s c x : Int) : Prop := (T' = T ∧ ((x = -3 ∧ ¬ (0 ≤ s ∧ s ≤ 11 ∧ 0 ≤ c ∧ c ≤ 7)) ∨ ((0 ≤ s ∧ s ≤ 11 ∧ 0 ≤ c ∧ c ≤ 7) ∧ T a 0 sl = mx ∧ x = -5))) ∨ ((0 ≤ s ∧ s ≤ 11 ∧ 0 ≤ c ∧ c ≤ 7) ∧ T a 0 sl < mx ∧ x = T a 0 sl ∧ T' a 0 sl = T a 0 sl + 1 ∧ SG9_ k1 T T' (T a 0 sl) s ∧ SG9_ k2 T T' (T a 0 sl) c)
theorem tg9_e {a1 a2 : Nat} {s1 s2 mx : Int} {k1 k2 k3 k4 : Nat} {T T1 T2 : Zt} {s c x1 x2 : Int} (h : ∀ j, 0 ≤ j → j < T a1 0 s1 → T k1 0 j = T k3 0 j ∧ T k2 0 j = T k4 0 j) (hn : T a1 0 s1 = T a2 0 s2) (d1 : TG9_ a1 s1 mx k1 k2 T T1 s c x1) (e2 : T1 a2 0 s2 = T a2 0 s2) (e3 : ∀ j, T1 k3 0 j = T k3 0 j) (e4 : ∀ j, T1 k4 0 j = T k4 0 j) (d2 : TG9_ a2 s2 mx k3 k4 T1 T2 s c x2) (g1 : T2 a1 0 s1 = T1 a1 0 s1) (g3 : ∀ j, T2 k1 0 j = T1 k1 0 j) (g4 : ∀ j, T2 k2 0 j = T1 k2 0 j) : x1 = x2 ∧ T2 a1 0 s1 = T2 a2 0 s2 ∧ ∀ j, 0 ≤ j → j < T2 a1 0 s1 → T2 k1 0 j = T2 k3 0 j ∧ T2 k2 0 j = T2 k4 0 j := by
  rcases d1 with ⟨rfl, u⟩ | ⟨u1, u2, u3, u4, u5, u6⟩
  · rcases d2 with ⟨rfl, v⟩ | ⟨v1, v2, v3, v4, v5, v6⟩
    · exact ⟨by omega, hn, h⟩
    · exfalso; omega
  · rcases d2 with ⟨rfl, v⟩ | ⟨v1, v2, v3, v4, v5, v6⟩
    · exfalso; omega
    · refine ⟨by omega, by omega, fun j p q => ?_⟩
      rw [g3, g4]
      rw [e2, ← hn] at v5 v6
      by_cases z : j = T a1 0 s1
      · rw [z, u5.1, u6.1, v5.1, v6.1]
        exact ⟨rfl, rfl⟩
      · rw [u5.2 j z, u6.2 j z, v5.2 j z, v6.2 j z, e3, e4]
        exact h j p (by omega)
/-- counters alike -/
def CNR_ (T : Zt) : Prop := T 108 0 2 = T 111 0 12 ∧ T 108 0 3 = T 111 0 15 ∧ T 108 0 12 = T 111 0 21 ∧ T 108 0 13 = T 111 0 3
/-- stadiums, countries, homes alike -/
def THR_ (T : Zt) : Prop := (∀ j, 0 ≤ j → j < T 108 0 2 → T 560 0 j = T 213 0 j ∧ T 561 0 j = T 214 0 j) ∧ ∀ j, 0 ≤ j → j < T 108 0 12 → T 570 0 j = T 222 0 j ∧ T 571 0 j = T 223 0 j
theorem bk_X10_club_e_0 : ck_ fX10 (some .int) cX10_club 0 [.iload 1, .iconst 12] 3 = true := qck_r (nn_ _) (by decide +kernel)
theorem bs_X10_club_e_0 {P : Zt → Option Zv → Prop} (K : Int → Zl → List Zv → Zt → Prop) : sx_ K P [.iload 1, .iconst 12] 3 = x_iload 1 (x_iconst 12 (K 3)) := ((xe_iload 1).trans (congrArg (x_iload 1) ((xe_iconst 12).trans (congrArg (x_iconst 12) xe_nil))))
theorem bk_X10_club_e_6 : ck_ fX10 (some .int) cX10_club 6 [.ifCond .eq 18, .iload 2, .iconst 8] 12 = true := qck_r (nn_ _) (by decide +kernel)
theorem bs_X10_club_e_6 {P : Zt → Option Zv → Prop} (K : Int → Zl → List Zv → Zt → Prop) : sx_ K P [.ifCond .eq 18, .iload 2, .iconst 8] 12 = x_ifCond .eq 18 K (x_iload 2 (x_iconst 8 (K 12))) := ((xe_ifCond .eq 18).trans (congrArg (x_ifCond .eq 18 K) ((xe_iload 2).trans (congrArg (x_iload 2) ((xe_iconst 8).trans (congrArg (x_iconst 8) xe_nil))))))
theorem bk_X10_club_e_18 : ck_ fX10 (some .int) cX10_club 18 [.iconst (-3), .ireturn] 21 = true := qck_r (nn_ _) (by decide +kernel)
theorem bs_X10_club_e_18 {P : Zt → Option Zv → Prop} (K : Int → Zl → List Zv → Zt → Prop) : sx_ K P [.iconst (-3), .ireturn] 21 = x_iconst (-3) (x_ireturn P) := ((xe_iconst (-3)).trans (congrArg (x_iconst (-3)) (xe_ireturn)))
theorem bk_X10_club_e_15 : ck_ fX10 (some .int) cX10_club 15 [.ifCond .ne 21, .iconst (-3), .ireturn] 21 = true := qck_r (nn_ _) (by decide +kernel)
theorem bs_X10_club_e_15 {P : Zt → Option Zv → Prop} (K : Int → Zl → List Zv → Zt → Prop) : sx_ K P [.ifCond .ne 21, .iconst (-3), .ireturn] 21 = x_ifCond .ne 21 K (x_iconst (-3) (x_ireturn P)) := ((xe_ifCond .ne 21).trans (congrArg (x_ifCond .ne 21 K) ((xe_iconst (-3)).trans (congrArg (x_iconst (-3)) (xe_ireturn)))))
theorem bk_X10_club_e_21 : ck_ fX10 (some .int) cX10_club 21 [.aload 0, .tableswitch 0 10 1 #[], .tableswitch 0 8 2 #[], .iconst 12, .if_icmp .lt 36, .iconst (-5), .ireturn] 36 = true := qck_r (nn_ _) (by decide +kernel)
theorem bs_X10_club_e_21 {P : Zt → Option Zv → Prop} (K : Int → Zl → List Zv → Zt → Prop) : sx_ K P [.aload 0, .tableswitch 0 10 1 #[], .tableswitch 0 8 2 #[], .iconst 12, .if_icmp .lt 36, .iconst (-5), .ireturn] 36 = x_aload 0 (x_g1 110 108 (x_g0 108 2 0 12 (x_iconst 12 (x_if_icmp .lt 36 K (x_iconst (-5) (x_ireturn P)))))) := ((xe_aload 0).trans (congrArg (x_aload 0) ((xe_g1 (kk := 110) rfl tl_10_1).trans (congrArg (x_g1 110 108) ((xe_g0 (kk := 108) rfl tl_8_2).trans (congrArg (x_g0 108 2 0 12) ((xe_iconst 12).trans (congrArg (x_iconst 12) ((xe_if_icmp .lt 36).trans (congrArg (x_if_icmp .lt 36 K) ((xe_iconst (-5)).trans (congrArg (x_iconst (-5)) (xe_ireturn)))))))))))))
theorem bk_X10_club_e_36 : ck_ fX10 (some .int) cX10_club 36 [.aload 0, .tableswitch 0 10 1 #[], .tableswitch 0 8 2 #[], .istore 3, .aload 0, .tableswitch 0 10 1 #[], .tableswitch 0 8 0 #[], .iload 3, .iload 1, .iastore, .aload 0, .tableswitch 0 10 1 #[], .tableswitch 0 8 1 #[], .iload 3, .iload 2, .iastore, .aload 0, .tableswitch 0 10 1 #[], .dup, .tableswitch 0 8 2 #[], .iconst 1, .iadd, .tableswitch 1 8 2 #[], .iload 3, .ireturn] 79 = true := qck_r (nn_ _) (by decide +kernel)
theorem bs_X10_club_e_36 {P : Zt → Option Zv → Prop} (K : Int → Zl → List Zv → Zt → Prop) : sx_ K P [.aload 0, .tableswitch 0 10 1 #[], .tableswitch 0 8 2 #[], .istore 3, .aload 0, .tableswitch 0 10 1 #[], .tableswitch 0 8 0 #[], .iload 3, .iload 1, .iastore, .aload 0, .tableswitch 0 10 1 #[], .tableswitch 0 8 1 #[], .iload 3, .iload 2, .iastore, .aload 0, .tableswitch 0 10 1 #[], .dup, .tableswitch 0 8 2 #[], .iconst 1, .iadd, .tableswitch 1 8 2 #[], .iload 3, .ireturn] 79 = x_aload 0 (x_g1 110 108 (x_g0 108 2 0 12 (x_istore 3 (x_aload 0 (x_g1 110 108 (x_g1 108 560 (x_iload 3 (x_iload 1 (x_iastore (x_aload 0 (x_g1 110 108 (x_g1 108 561 (x_iload 3 (x_iload 2 (x_iastore (x_aload 0 (x_g1 110 108 (x_dup (x_g0 108 2 0 12 (x_iconst 1 (x_iadd (x_p 108 2 0 12 (x_iload 3 (x_ireturn P)))))))))))))))))))))))) := ((xe_aload 0).trans (congrArg (x_aload 0) ((xe_g1 (kk := 110) rfl tl_10_1).trans (congrArg (x_g1 110 108) ((xe_g0 (kk := 108) rfl tl_8_2).trans (congrArg (x_g0 108 2 0 12) ((xe_istore 3).trans (congrArg (x_istore 3) ((xe_aload 0).trans (congrArg (x_aload 0) ((xe_g1 (kk := 110) rfl tl_10_1).trans (congrArg (x_g1 110 108) ((xe_g1 (kk := 108) rfl tl_8_0).trans (congrArg (x_g1 108 560) ((xe_iload 3).trans (congrArg (x_iload 3) ((xe_iload 1).trans (congrArg (x_iload 1) ((xe_iastore).trans (congrArg (x_iastore) ((xe_aload 0).trans (congrArg (x_aload 0) ((xe_g1 (kk := 110) rfl tl_10_1).trans (congrArg (x_g1 110 108) ((xe_g1 (kk := 108) rfl tl_8_1).trans (congrArg (x_g1 108 561) ((xe_iload 3).trans (congrArg (x_iload 3) ((xe_iload 2).trans (congrArg (x_iload 2) ((xe_iastore).trans (congrArg (x_iastore) ((xe_aload 0).trans (congrArg (x_aload 0) ((xe_g1 (kk := 110) rfl tl_10_1).trans (congrArg (x_g1 110 108) ((xe_dup).trans (congrArg (x_dup) ((xe_g0 (kk := 108) rfl tl_8_2).trans (congrArg (x_g0 108 2 0 12) ((xe_iconst 1).trans (congrArg (x_iconst 1) ((xe_iadd).trans (congrArg (x_iadd) ((xe_p (kk := 108) rfl tl_8_2).trans (congrArg (x_p 108 2 0 12) ((xe_iload 3).trans (congrArg (x_iload 3) (xe_ireturn)))))))))))))))))))))))))))))))))))))))))))))))))
abbrev po_X10_club_e (T : Zt) (s c : Int) : Zt → Option Zv → Prop := fun T' r => ∃ x : Int, r = some (vI x) ∧ fr_ [(108, [2]), (560, []), (561, [])] T T' ∧ (((x = -3 ∧ ¬ (0 ≤ s ∧ s ≤ 11 ∧ 0 ≤ c ∧ c ≤ 7) ∧ T' 108 0 2 = T 108 0 2) ∨ ((0 ≤ s ∧ s ≤ 11 ∧ 0 ≤ c ∧ c ≤ 7) ∧ T 108 0 2 = 12 ∧ x = -5 ∧ T' 108 0 2 = T 108 0 2) ∨ ((0 ≤ s ∧ s ≤ 11 ∧ 0 ≤ c ∧ c ≤ 7) ∧ T 108 0 2 < 12 ∧ x = T 108 0 2 ∧ T' 108 0 2 = T 108 0 2 + 1)) ∧ TG9_ 108 2 12 560 561 T T' s c x)
set_option maxHeartbeats 4000000 in
theorem ct_X10_club_e {T : Zt} {s c : Int} : Ct_ yX10_club zX10_club T [vR 110 0, vI s, vI c] (po_X10_club_e T s c) := by
  refine ct_of pn_10 rfl rfl (Nat.le_of_ble_eq_true rfl) (fun hT hav => ?_)
  have hr_s : -2147483648 ≤ s ∧ s ≤ 2147483647 := hav (vI s) (List.mem_cons_of_mem _ List.mem_cons_self)
  have hr_c : -2147483648 ≤ c ∧ c ≤ 2147483647 := hav (vI c) (List.mem_cons_of_mem _ (List.mem_cons_of_mem _ List.mem_cons_self))
  have hz : zX10_club.2.2.2.1 = some .boolean → ∀ (T' : Zt) (x : Int), po_X10_club_e T s c T' (some (vI x)) → 0 ≤ x ∧ x ≤ 1 := fun h => by cases h
  have hb_2 : 0 ≤ T 108 0 2 ∧ T 108 0 2 ≤ 12 := bd_f hT 108 2 tl_8_2 0
  show J_ zX10_club T (po_X10_club_e T s c) 0 0 0 [some (vR 110 0), some (vI s), some (vI c), none] [] T
  refine j_blx (F := fX10) tb_X10 (nn_ _) bk_X10_club_e_0 bs_X10_club_e_0 hz (fun K hK => ?_)
  refine hK 3 _ [vI 12, vI s] T ?_
  refine j_callS (y := yX10_isBelow) (Yc := zX10_isBelow) (rest := []) [vI s, vI 12] (ct_X10_isBelow (T := T)) cl_X10_115 (qd_c (by decide +kernel)) (nn_ _) rfl (rf_of rfl) (Nat.le_of_ble_eq_true rfl) (Nat.le_of_ble_eq_true rfl) (Nat.le_of_ble_eq_true rfl) rfl ?_
  rintro _ _ ⟨rfl, x1, rfl, hx1⟩
  show J_ zX10_club T (po_X10_club_e T s c) 0 0 6 _ [vI x1] T
  refine j_blx (F := fX10) tb_X10 (nn_ _) bk_X10_club_e_6 bs_X10_club_e_6 hz (fun K hK => ?_)
  refine And.intro (fun c2 => ?_) (fun c2 => ?_)
  · replace hx1 := hx1.resolve_left (fun z => absurd (c2.symm.trans z.1) (by decide))
    clear c2
    refine hK 18 _ [] T ?_
    refine j_blx (F := fX10) tb_X10 (nn_ _) bk_X10_club_e_18 bs_X10_club_e_18 hz (fun K hK => ?_)
    refine (show po_X10_club_e T s c T (some (vI (-3))) from ?_)
    exact ⟨_, rfl, fr_0 _ _, by omega, Or.inl ⟨rfl, Or.inl ⟨rfl, by omega⟩⟩⟩
  · replace hx1 := hx1.resolve_right (fun z => c2 z.1)
    clear c2
    refine hK 12 _ [vI 8, vI c] T ?_
    refine j_callS (y := yX10_isBelow) (Yc := zX10_isBelow) (rest := []) [vI c, vI 8] (ct_X10_isBelow (T := T)) cl_X10_115 (qd_c (by decide +kernel)) (nn_ _) rfl (rf_of rfl) (Nat.le_of_ble_eq_true rfl) (Nat.le_of_ble_eq_true rfl) (Nat.le_of_ble_eq_true rfl) rfl ?_
    rintro _ _ ⟨rfl, x3, rfl, hx3⟩
    show J_ zX10_club T (po_X10_club_e T s c) 0 0 15 _ [vI x3] T
    refine j_blx (F := fX10) tb_X10 (nn_ _) bk_X10_club_e_15 bs_X10_club_e_15 hz (fun K hK => ?_)
    refine And.intro (fun c4 => ?_) (fun c4 => ?_)
    · replace hx3 := hx3.resolve_right (fun z => c4 z.1)
      clear c4
      refine hK 21 _ [] T ?_
      refine j_blx (F := fX10) tb_X10 (nn_ _) bk_X10_club_e_21 bs_X10_club_e_21 hz (fun K hK => ?_)
      intro b5 b5b
      refine And.intro (fun c6 => ?_) (fun c6 => ?_)
      · refine hK 36 _ [] T ?_
        refine j_blx (F := fX10) tb_X10 (nn_ _) bk_X10_club_e_36 bs_X10_club_e_36 hz (fun K hK => ?_)
        intro b7 b7b
        refine iy_i (by omega) (by omega) ?_
        refine x_nm (fun U8 hU8 => ?_)
        have e9 := up_f hU8
        refine iy_i (by omega) (by omega) ?_
        refine x_nm (fun U10 hU10 => ?_)
        have e11 := up_f hU10
        intro b12 b12b
        have e13 : U10 108 0 2 = T 108 0 2 := (up_k hU10 (by exact Nat.ne_of_beq_eq_false rfl) 0 2).trans (up_k hU8 (by exact Nat.ne_of_beq_eq_false rfl) 0 2)
        rw [e13] at b12 b12b ⊢
        refine rg_i (by omega) ?_
        refine bd_i (by omega) ?_
        refine x_nm (fun U14 hU14 => ?_)
        have e15 := up_f hU14
        refine (show po_X10_club_e T s c U14 (some (vI (T 108 0 2))) from ?_)
        have e16 : U14 108 0 2 = (T 108 0 2) + 1 := up_f hU14
        have e17 : U14 108 0 2 = (T 108 0 2) + 1 := up_f hU14
        exact ⟨_, rfl, fr_u (fr_u (fr_u (fr_0 _ _) hU8 rfl) hU10 rfl) hU14 rfl, by omega, Or.inr ⟨by omega, by omega, by omega, by omega, ⟨(up_k hU14 (by exact Nat.ne_of_beq_eq_false rfl) 0 _).trans ((up_k hU10 (by exact Nat.ne_of_beq_eq_false rfl) 0 _).trans (up_f hU8)), fun j hj => (up_k hU14 (by exact Nat.ne_of_beq_eq_false rfl) 0 j).trans ((up_k hU10 (by exact Nat.ne_of_beq_eq_false rfl) 0 j).trans (up_g hU8 (fun z => hj z.2.2)))⟩, ⟨(up_k hU14 (by exact Nat.ne_of_beq_eq_false rfl) 0 _).trans (up_f hU10), fun j hj => (up_k hU14 (by exact Nat.ne_of_beq_eq_false rfl) 0 j).trans ((up_g hU10 (fun z => hj z.2.2)).trans (up_k hU8 (by exact Nat.ne_of_beq_eq_false rfl) 0 j))⟩⟩⟩
      · refine (show po_X10_club_e T s c T (some (vI (-5))) from ?_)
        exact ⟨_, rfl, fr_0 _ _, by omega, Or.inl ⟨rfl, Or.inr ⟨by omega, by omega, rfl⟩⟩⟩
    · replace hx3 := hx3.resolve_left (fun z => absurd (c4.symm.trans z.1) (by decide))
      clear c4
      refine (show po_X10_club_e T s c T (some (vI (-3))) from ?_)
      exact ⟨_, rfl, fr_0 _ _, by omega, Or.inl ⟨rfl, Or.inl ⟨rfl, by omega⟩⟩⟩
theorem bk_X11_club_e_0 : ck_ fX11 (some .int) cX11_club 0 [.iload 1, .iconst 0, .iconst 11] 4 = true := qck_r (nn_ _) (by decide +kernel)
theorem bs_X11_club_e_0 {P : Zt → Option Zv → Prop} (K : Int → Zl → List Zv → Zt → Prop) : sx_ K P [.iload 1, .iconst 0, .iconst 11] 4 = x_iload 1 (x_iconst 0 (x_iconst 11 (K 4))) := ((xe_iload 1).trans (congrArg (x_iload 1) ((xe_iconst 0).trans (congrArg (x_iconst 0) ((xe_iconst 11).trans (congrArg (x_iconst 11) xe_nil))))))
theorem bk_X11_club_e_7 : ck_ fX11 (some .int) cX11_club 7 [.ifCond .eq 20, .iload 2, .iconst 0, .iconst 7] 14 = true := qck_r (nn_ _) (by decide +kernel)
theorem bs_X11_club_e_7 {P : Zt → Option Zv → Prop} (K : Int → Zl → List Zv → Zt → Prop) : sx_ K P [.ifCond .eq 20, .iload 2, .iconst 0, .iconst 7] 14 = x_ifCond .eq 20 K (x_iload 2 (x_iconst 0 (x_iconst 7 (K 14)))) := ((xe_ifCond .eq 20).trans (congrArg (x_ifCond .eq 20 K) ((xe_iload 2).trans (congrArg (x_iload 2) ((xe_iconst 0).trans (congrArg (x_iconst 0) ((xe_iconst 7).trans (congrArg (x_iconst 7) xe_nil))))))))
theorem bk_X11_club_e_20 : ck_ fX11 (some .int) cX11_club 20 [.iconst (-3), .ireturn] 23 = true := qck_r (nn_ _) (by decide +kernel)
theorem bs_X11_club_e_20 {P : Zt → Option Zv → Prop} (K : Int → Zl → List Zv → Zt → Prop) : sx_ K P [.iconst (-3), .ireturn] 23 = x_iconst (-3) (x_ireturn P) := ((xe_iconst (-3)).trans (congrArg (x_iconst (-3)) (xe_ireturn)))
theorem bk_X11_club_e_17 : ck_ fX11 (some .int) cX11_club 17 [.ifCond .ne 23, .iconst (-3), .ireturn] 23 = true := qck_r (nn_ _) (by decide +kernel)
theorem bs_X11_club_e_17 {P : Zt → Option Zv → Prop} (K : Int → Zl → List Zv → Zt → Prop) : sx_ K P [.ifCond .ne 23, .iconst (-3), .ireturn] 23 = x_ifCond .ne 23 K (x_iconst (-3) (x_ireturn P)) := ((xe_ifCond .ne 23).trans (congrArg (x_ifCond .ne 23 K) ((xe_iconst (-3)).trans (congrArg (x_iconst (-3)) (xe_ireturn)))))
theorem bk_X11_club_e_23 : ck_ fX11 (some .int) cX11_club 23 [.aload 0, .tableswitch 0 11 12 #[], .iconst 12, .if_icmp .ne 35, .iconst (-5), .ireturn] 35 = true := qck_r (nn_ _) (by decide +kernel)
theorem bs_X11_club_e_23 {P : Zt → Option Zv → Prop} (K : Int → Zl → List Zv → Zt → Prop) : sx_ K P [.aload 0, .tableswitch 0 11 12 #[], .iconst 12, .if_icmp .ne 35, .iconst (-5), .ireturn] 35 = x_aload 0 (x_g0 111 12 0 12 (x_iconst 12 (x_if_icmp .ne 35 K (x_iconst (-5) (x_ireturn P))))) := ((xe_aload 0).trans (congrArg (x_aload 0) ((xe_g0 (kk := 111) rfl tl_11_12).trans (congrArg (x_g0 111 12 0 12) ((xe_iconst 12).trans (congrArg (x_iconst 12) ((xe_if_icmp .ne 35).trans (congrArg (x_if_icmp .ne 35 K) ((xe_iconst (-5)).trans (congrArg (x_iconst (-5)) (xe_ireturn)))))))))))
theorem bk_X11_club_e_35 : ck_ fX11 (some .int) cX11_club 35 [.aload 0, .tableswitch 0 11 13 #[], .aload 0, .tableswitch 0 11 12 #[], .iload 1, .iastore, .aload 0, .tableswitch 0 11 14 #[], .aload 0, .tableswitch 0 11 12 #[], .iload 2, .iastore, .aload 0, .dup, .tableswitch 0 11 12 #[], .iconst 1, .iadd, .tableswitch 1 11 12 #[], .aload 0, .tableswitch 0 11 12 #[], .iconst 1, .isub, .ireturn] 72 = true := qck_r (nn_ _) (by decide +kernel)
theorem bs_X11_club_e_35 {P : Zt → Option Zv → Prop} (K : Int → Zl → List Zv → Zt → Prop) : sx_ K P [.aload 0, .tableswitch 0 11 13 #[], .aload 0, .tableswitch 0 11 12 #[], .iload 1, .iastore, .aload 0, .tableswitch 0 11 14 #[], .aload 0, .tableswitch 0 11 12 #[], .iload 2, .iastore, .aload 0, .dup, .tableswitch 0 11 12 #[], .iconst 1, .iadd, .tableswitch 1 11 12 #[], .aload 0, .tableswitch 0 11 12 #[], .iconst 1, .isub, .ireturn] 72 = x_aload 0 (x_g1 111 213 (x_aload 0 (x_g0 111 12 0 12 (x_iload 1 (x_iastore (x_aload 0 (x_g1 111 214 (x_aload 0 (x_g0 111 12 0 12 (x_iload 2 (x_iastore (x_aload 0 (x_dup (x_g0 111 12 0 12 (x_iconst 1 (x_iadd (x_p 111 12 0 12 (x_aload 0 (x_g0 111 12 0 12 (x_iconst 1 (x_isub (x_ireturn P)))))))))))))))))))))) := ((xe_aload 0).trans (congrArg (x_aload 0) ((xe_g1 (kk := 111) rfl tl_11_13).trans (congrArg (x_g1 111 213) ((xe_aload 0).trans (congrArg (x_aload 0) ((xe_g0 (kk := 111) rfl tl_11_12).trans (congrArg (x_g0 111 12 0 12) ((xe_iload 1).trans (congrArg (x_iload 1) ((xe_iastore).trans (congrArg (x_iastore) ((xe_aload 0).trans (congrArg (x_aload 0) ((xe_g1 (kk := 111) rfl tl_11_14).trans (congrArg (x_g1 111 214) ((xe_aload 0).trans (congrArg (x_aload 0) ((xe_g0 (kk := 111) rfl tl_11_12).trans (congrArg (x_g0 111 12 0 12) ((xe_iload 2).trans (congrArg (x_iload 2) ((xe_iastore).trans (congrArg (x_iastore) ((xe_aload 0).trans (congrArg (x_aload 0) ((xe_dup).trans (congrArg (x_dup) ((xe_g0 (kk := 111) rfl tl_11_12).trans (congrArg (x_g0 111 12 0 12) ((xe_iconst 1).trans (congrArg (x_iconst 1) ((xe_iadd).trans (congrArg (x_iadd) ((xe_p (kk := 111) rfl tl_11_12).trans (congrArg (x_p 111 12 0 12) ((xe_aload 0).trans (congrArg (x_aload 0) ((xe_g0 (kk := 111) rfl tl_11_12).trans (congrArg (x_g0 111 12 0 12) ((xe_iconst 1).trans (congrArg (x_iconst 1) ((xe_isub).trans (congrArg (x_isub) (xe_ireturn)))))))))))))))))))))))))))))))))))))))))))))
abbrev po_X11_club_e (T : Zt) (s c : Int) : Zt → Option Zv → Prop := fun T' r => ∃ x : Int, r = some (vI x) ∧ fr_ [(111, [12]), (213, []), (214, [])] T T' ∧ (((x = -3 ∧ ¬ (0 ≤ s ∧ s ≤ 11 ∧ 0 ≤ c ∧ c ≤ 7) ∧ T' 111 0 12 = T 111 0 12) ∨ ((0 ≤ s ∧ s ≤ 11 ∧ 0 ≤ c ∧ c ≤ 7) ∧ T 111 0 12 = 12 ∧ x = -5 ∧ T' 111 0 12 = T 111 0 12) ∨ ((0 ≤ s ∧ s ≤ 11 ∧ 0 ≤ c ∧ c ≤ 7) ∧ T 111 0 12 < 12 ∧ x = T 111 0 12 ∧ T' 111 0 12 = T 111 0 12 + 1)) ∧ TG9_ 111 12 12 213 214 T T' s c x)
set_option maxHeartbeats 4000000 in
theorem ct_X11_club_e {T : Zt} {s c : Int} : Ct_ yX11_club zX11_club T [vR 111 0, vI s, vI c] (po_X11_club_e T s c) := by
  refine ct_of pn_11 rfl rfl (Nat.le_of_ble_eq_true rfl) (fun hT hav => ?_)
  have hr_s : -2147483648 ≤ s ∧ s ≤ 2147483647 := hav (vI s) (List.mem_cons_of_mem _ List.mem_cons_self)
  have hr_c : -2147483648 ≤ c ∧ c ≤ 2147483647 := hav (vI c) (List.mem_cons_of_mem _ (List.mem_cons_of_mem _ List.mem_cons_self))
  have hz : zX11_club.2.2.2.1 = some .boolean → ∀ (T' : Zt) (x : Int), po_X11_club_e T s c T' (some (vI x)) → 0 ≤ x ∧ x ≤ 1 := fun h => by cases h
  have hb_12 : 0 ≤ T 111 0 12 ∧ T 111 0 12 ≤ 12 := bd_f hT 111 12 tl_11_12 0
  show J_ zX11_club T (po_X11_club_e T s c) 0 0 0 [some (vR 111 0), some (vI s), some (vI c)] [] T
  refine j_blx (F := fX11) tb_X11 (nn_ _) bk_X11_club_e_0 bs_X11_club_e_0 hz (fun K hK => ?_)
  refine hK 4 _ [vI 11, vI 0, vI s] T ?_
  refine j_callS (y := yX11_in) (Yc := zX11_in) (rest := []) [vI s, vI 0, vI 11] (ct_X11_in (T := T)) cl_X11_255 (qd_c (by decide +kernel)) (nn_ _) rfl (rf_of rfl) (Nat.le_of_ble_eq_true rfl) (Nat.le_of_ble_eq_true rfl) (Nat.le_of_ble_eq_true rfl) rfl ?_
  rintro _ _ ⟨rfl, x1, rfl, hx1⟩
  show J_ zX11_club T (po_X11_club_e T s c) 0 0 7 _ [vI x1] T
  refine j_blx (F := fX11) tb_X11 (nn_ _) bk_X11_club_e_7 bs_X11_club_e_7 hz (fun K hK => ?_)
  refine And.intro (fun c2 => ?_) (fun c2 => ?_)
  · replace hx1 := hx1.resolve_left (fun z => absurd (c2.symm.trans z.1) (by decide))
    clear c2
    refine hK 20 _ [] T ?_
    refine j_blx (F := fX11) tb_X11 (nn_ _) bk_X11_club_e_20 bs_X11_club_e_20 hz (fun K hK => ?_)
    refine (show po_X11_club_e T s c T (some (vI (-3))) from ?_)
    exact ⟨_, rfl, fr_0 _ _, by omega, Or.inl ⟨rfl, Or.inl ⟨rfl, by omega⟩⟩⟩
  · replace hx1 := hx1.resolve_right (fun z => c2 z.1)
    clear c2
    refine hK 14 _ [vI 7, vI 0, vI c] T ?_
    refine j_callS (y := yX11_in) (Yc := zX11_in) (rest := []) [vI c, vI 0, vI 7] (ct_X11_in (T := T)) cl_X11_255 (qd_c (by decide +kernel)) (nn_ _) rfl (rf_of rfl) (Nat.le_of_ble_eq_true rfl) (Nat.le_of_ble_eq_true rfl) (Nat.le_of_ble_eq_true rfl) rfl ?_
    rintro _ _ ⟨rfl, x3, rfl, hx3⟩
    show J_ zX11_club T (po_X11_club_e T s c) 0 0 17 _ [vI x3] T
    refine j_blx (F := fX11) tb_X11 (nn_ _) bk_X11_club_e_17 bs_X11_club_e_17 hz (fun K hK => ?_)
    refine And.intro (fun c4 => ?_) (fun c4 => ?_)
    · replace hx3 := hx3.resolve_right (fun z => c4 z.1)
      clear c4
      refine hK 23 _ [] T ?_
      refine j_blx (F := fX11) tb_X11 (nn_ _) bk_X11_club_e_23 bs_X11_club_e_23 hz (fun K hK => ?_)
      intro b5 b5b
      refine And.intro (fun c6 => ?_) (fun c6 => ?_)
      · refine hK 35 _ [] T ?_
        refine j_blx (F := fX11) tb_X11 (nn_ _) bk_X11_club_e_35 bs_X11_club_e_35 hz (fun K hK => ?_)
        intro b7 b7b
        refine iy_i (by omega) (by omega) ?_
        refine x_nm (fun U8 hU8 => ?_)
        have e9 := up_f hU8
        intro b10 b10b
        have e11 : U8 111 0 12 = T 111 0 12 := up_k hU8 (by exact Nat.ne_of_beq_eq_false rfl) 0 12
        rw [e11] at b10 b10b ⊢
        refine iy_i (by omega) (by omega) ?_
        refine x_nm (fun U12 hU12 => ?_)
        have e13 := up_f hU12
        intro b14 b14b
        have e15 : U12 111 0 12 = T 111 0 12 := (up_k hU12 (by exact Nat.ne_of_beq_eq_false rfl) 0 12).trans (up_k hU8 (by exact Nat.ne_of_beq_eq_false rfl) 0 12)
        rw [e15] at b14 b14b ⊢
        refine rg_i (by omega) ?_
        refine bd_i (by omega) ?_
        refine x_nm (fun U16 hU16 => ?_)
        have e17 := up_f hU16
        intro b18 b18b
        have e19 : U16 111 0 12 = (T 111 0 12) + 1 := up_f hU16
        rw [e19] at b18 b18b ⊢
        refine rg_i (by omega) ?_
        refine (show po_X11_club_e T s c U16 (some (vI (((T 111 0 12) + 1) - 1))) from ?_)
        have e20 : U16 111 0 12 = (T 111 0 12) + 1 := up_f hU16
        have e21 : U16 111 0 12 = (T 111 0 12) + 1 := up_f hU16
        exact ⟨_, rfl, fr_u (fr_u (fr_u (fr_0 _ _) hU8 rfl) hU12 rfl) hU16 rfl, by omega, Or.inr ⟨by omega, by omega, by omega, by omega, ⟨(up_k hU16 (by exact Nat.ne_of_beq_eq_false rfl) 0 _).trans ((up_k hU12 (by exact Nat.ne_of_beq_eq_false rfl) 0 _).trans (up_f hU8)), fun j hj => (up_k hU16 (by exact Nat.ne_of_beq_eq_false rfl) 0 j).trans ((up_k hU12 (by exact Nat.ne_of_beq_eq_false rfl) 0 j).trans (up_g hU8 (fun z => hj z.2.2)))⟩, ⟨(up_k hU16 (by exact Nat.ne_of_beq_eq_false rfl) 0 _).trans (up_f hU12), fun j hj => (up_k hU16 (by exact Nat.ne_of_beq_eq_false rfl) 0 j).trans ((up_g hU12 (fun z => hj z.2.2)).trans (up_k hU8 (by exact Nat.ne_of_beq_eq_false rfl) 0 j))⟩⟩⟩
      · refine (show po_X11_club_e T s c T (some (vI (-5))) from ?_)
        exact ⟨_, rfl, fr_0 _ _, by omega, Or.inl ⟨rfl, Or.inr ⟨by omega, by omega, rfl⟩⟩⟩
    · replace hx3 := hx3.resolve_left (fun z => absurd (c4.symm.trans z.1) (by decide))
      clear c4
      refine (show po_X11_club_e T s c T (some (vI (-3))) from ?_)
      exact ⟨_, rfl, fr_0 _ _, by omega, Or.inl ⟨rfl, Or.inl ⟨rfl, by omega⟩⟩⟩
theorem bk_X10_official_e_0 : ck_ fX10 (some .int) cX10_official 0 [.iload 1, .iconst 12] 3 = true := qck_r (nn_ _) (by decide +kernel)
theorem bs_X10_official_e_0 {P : Zt → Option Zv → Prop} (K : Int → Zl → List Zv → Zt → Prop) : sx_ K P [.iload 1, .iconst 12] 3 = x_iload 1 (x_iconst 12 (K 3)) := ((xe_iload 1).trans (congrArg (x_iload 1) ((xe_iconst 12).trans (congrArg (x_iconst 12) xe_nil))))
theorem bk_X10_official_e_6 : ck_ fX10 (some .int) cX10_official 6 [.ifCond .eq 18, .iload 2, .iconst 8] 12 = true := qck_r (nn_ _) (by decide +kernel)
theorem bs_X10_official_e_6 {P : Zt → Option Zv → Prop} (K : Int → Zl → List Zv → Zt → Prop) : sx_ K P [.ifCond .eq 18, .iload 2, .iconst 8] 12 = x_ifCond .eq 18 K (x_iload 2 (x_iconst 8 (K 12))) := ((xe_ifCond .eq 18).trans (congrArg (x_ifCond .eq 18 K) ((xe_iload 2).trans (congrArg (x_iload 2) ((xe_iconst 8).trans (congrArg (x_iconst 8) xe_nil))))))
theorem bk_X10_official_e_18 : ck_ fX10 (some .int) cX10_official 18 [.iconst (-3), .ireturn] 21 = true := qck_r (nn_ _) (by decide +kernel)
theorem bs_X10_official_e_18 {P : Zt → Option Zv → Prop} (K : Int → Zl → List Zv → Zt → Prop) : sx_ K P [.iconst (-3), .ireturn] 21 = x_iconst (-3) (x_ireturn P) := ((xe_iconst (-3)).trans (congrArg (x_iconst (-3)) (xe_ireturn)))
theorem bk_X10_official_e_15 : ck_ fX10 (some .int) cX10_official 15 [.ifCond .ne 21, .iconst (-3), .ireturn] 21 = true := qck_r (nn_ _) (by decide +kernel)
theorem bs_X10_official_e_15 {P : Zt → Option Zv → Prop} (K : Int → Zl → List Zv → Zt → Prop) : sx_ K P [.ifCond .ne 21, .iconst (-3), .ireturn] 21 = x_ifCond .ne 21 K (x_iconst (-3) (x_ireturn P)) := ((xe_ifCond .ne 21).trans (congrArg (x_ifCond .ne 21 K) ((xe_iconst (-3)).trans (congrArg (x_iconst (-3)) (xe_ireturn)))))
theorem bk_X10_official_e_21 : ck_ fX10 (some .int) cX10_official 21 [.aload 0, .tableswitch 0 10 1 #[], .tableswitch 0 8 12 #[], .iconst 8, .if_icmp .lt 36, .iconst (-5), .ireturn] 36 = true := qck_r (nn_ _) (by decide +kernel)
theorem bs_X10_official_e_21 {P : Zt → Option Zv → Prop} (K : Int → Zl → List Zv → Zt → Prop) : sx_ K P [.aload 0, .tableswitch 0 10 1 #[], .tableswitch 0 8 12 #[], .iconst 8, .if_icmp .lt 36, .iconst (-5), .ireturn] 36 = x_aload 0 (x_g1 110 108 (x_g0 108 12 0 8 (x_iconst 8 (x_if_icmp .lt 36 K (x_iconst (-5) (x_ireturn P)))))) := ((xe_aload 0).trans (congrArg (x_aload 0) ((xe_g1 (kk := 110) rfl tl_10_1).trans (congrArg (x_g1 110 108) ((xe_g0 (kk := 108) rfl tl_8_12).trans (congrArg (x_g0 108 12 0 8) ((xe_iconst 8).trans (congrArg (x_iconst 8) ((xe_if_icmp .lt 36).trans (congrArg (x_if_icmp .lt 36 K) ((xe_iconst (-5)).trans (congrArg (x_iconst (-5)) (xe_ireturn)))))))))))))
theorem bk_X10_official_e_36 : ck_ fX10 (some .int) cX10_official 36 [.aload 0, .tableswitch 0 10 1 #[], .tableswitch 0 8 12 #[], .istore 3, .aload 0, .tableswitch 0 10 1 #[], .tableswitch 0 8 10 #[], .iload 3, .iload 1, .iastore, .aload 0, .tableswitch 0 10 1 #[], .tableswitch 0 8 11 #[], .iload 3, .iload 2, .iastore, .aload 0, .tableswitch 0 10 1 #[], .dup, .tableswitch 0 8 12 #[], .iconst 1, .iadd, .tableswitch 1 8 12 #[], .iload 3, .ireturn] 79 = true := qck_r (nn_ _) (by decide +kernel)
theorem bs_X10_official_e_36 {P : Zt → Option Zv → Prop} (K : Int → Zl → List Zv → Zt → Prop) : sx_ K P [.aload 0, .tableswitch 0 10 1 #[], .tableswitch 0 8 12 #[], .istore 3, .aload 0, .tableswitch 0 10 1 #[], .tableswitch 0 8 10 #[], .iload 3, .iload 1, .iastore, .aload 0, .tableswitch 0 10 1 #[], .tableswitch 0 8 11 #[], .iload 3, .iload 2, .iastore, .aload 0, .tableswitch 0 10 1 #[], .dup, .tableswitch 0 8 12 #[], .iconst 1, .iadd, .tableswitch 1 8 12 #[], .iload 3, .ireturn] 79 = x_aload 0 (x_g1 110 108 (x_g0 108 12 0 8 (x_istore 3 (x_aload 0 (x_g1 110 108 (x_g1 108 570 (x_iload 3 (x_iload 1 (x_iastore (x_aload 0 (x_g1 110 108 (x_g1 108 571 (x_iload 3 (x_iload 2 (x_iastore (x_aload 0 (x_g1 110 108 (x_dup (x_g0 108 12 0 8 (x_iconst 1 (x_iadd (x_p 108 12 0 8 (x_iload 3 (x_ireturn P)))))))))))))))))))))))) := ((xe_aload 0).trans (congrArg (x_aload 0) ((xe_g1 (kk := 110) rfl tl_10_1).trans (congrArg (x_g1 110 108) ((xe_g0 (kk := 108) rfl tl_8_12).trans (congrArg (x_g0 108 12 0 8) ((xe_istore 3).trans (congrArg (x_istore 3) ((xe_aload 0).trans (congrArg (x_aload 0) ((xe_g1 (kk := 110) rfl tl_10_1).trans (congrArg (x_g1 110 108) ((xe_g1 (kk := 108) rfl tl_8_10).trans (congrArg (x_g1 108 570) ((xe_iload 3).trans (congrArg (x_iload 3) ((xe_iload 1).trans (congrArg (x_iload 1) ((xe_iastore).trans (congrArg (x_iastore) ((xe_aload 0).trans (congrArg (x_aload 0) ((xe_g1 (kk := 110) rfl tl_10_1).trans (congrArg (x_g1 110 108) ((xe_g1 (kk := 108) rfl tl_8_11).trans (congrArg (x_g1 108 571) ((xe_iload 3).trans (congrArg (x_iload 3) ((xe_iload 2).trans (congrArg (x_iload 2) ((xe_iastore).trans (congrArg (x_iastore) ((xe_aload 0).trans (congrArg (x_aload 0) ((xe_g1 (kk := 110) rfl tl_10_1).trans (congrArg (x_g1 110 108) ((xe_dup).trans (congrArg (x_dup) ((xe_g0 (kk := 108) rfl tl_8_12).trans (congrArg (x_g0 108 12 0 8) ((xe_iconst 1).trans (congrArg (x_iconst 1) ((xe_iadd).trans (congrArg (x_iadd) ((xe_p (kk := 108) rfl tl_8_12).trans (congrArg (x_p 108 12 0 8) ((xe_iload 3).trans (congrArg (x_iload 3) (xe_ireturn)))))))))))))))))))))))))))))))))))))))))))))))))
abbrev po_X10_official_e (T : Zt) (s c : Int) : Zt → Option Zv → Prop := fun T' r => ∃ x : Int, r = some (vI x) ∧ fr_ [(108, [12]), (570, []), (571, [])] T T' ∧ (((x = -3 ∧ ¬ (0 ≤ s ∧ s ≤ 11 ∧ 0 ≤ c ∧ c ≤ 7) ∧ T' 108 0 12 = T 108 0 12) ∨ ((0 ≤ s ∧ s ≤ 11 ∧ 0 ≤ c ∧ c ≤ 7) ∧ T 108 0 12 = 8 ∧ x = -5 ∧ T' 108 0 12 = T 108 0 12) ∨ ((0 ≤ s ∧ s ≤ 11 ∧ 0 ≤ c ∧ c ≤ 7) ∧ T 108 0 12 < 8 ∧ x = T 108 0 12 ∧ T' 108 0 12 = T 108 0 12 + 1)) ∧ TG9_ 108 12 8 570 571 T T' s c x)
set_option maxHeartbeats 4000000 in
theorem ct_X10_official_e {T : Zt} {s c : Int} : Ct_ yX10_official zX10_official T [vR 110 0, vI s, vI c] (po_X10_official_e T s c) := by
  refine ct_of pn_10 rfl rfl (Nat.le_of_ble_eq_true rfl) (fun hT hav => ?_)
  have hr_s : -2147483648 ≤ s ∧ s ≤ 2147483647 := hav (vI s) (List.mem_cons_of_mem _ List.mem_cons_self)
  have hr_c : -2147483648 ≤ c ∧ c ≤ 2147483647 := hav (vI c) (List.mem_cons_of_mem _ (List.mem_cons_of_mem _ List.mem_cons_self))
  have hz : zX10_official.2.2.2.1 = some .boolean → ∀ (T' : Zt) (x : Int), po_X10_official_e T s c T' (some (vI x)) → 0 ≤ x ∧ x ≤ 1 := fun h => by cases h
  have hb_12 : 0 ≤ T 108 0 12 ∧ T 108 0 12 ≤ 8 := bd_f hT 108 12 tl_8_12 0
  show J_ zX10_official T (po_X10_official_e T s c) 0 0 0 [some (vR 110 0), some (vI s), some (vI c), none] [] T
  refine j_blx (F := fX10) tb_X10 (nn_ _) bk_X10_official_e_0 bs_X10_official_e_0 hz (fun K hK => ?_)
  refine hK 3 _ [vI 12, vI s] T ?_
  refine j_callS (y := yX10_isBelow) (Yc := zX10_isBelow) (rest := []) [vI s, vI 12] (ct_X10_isBelow (T := T)) cl_X10_115 (qd_c (by decide +kernel)) (nn_ _) rfl (rf_of rfl) (Nat.le_of_ble_eq_true rfl) (Nat.le_of_ble_eq_true rfl) (Nat.le_of_ble_eq_true rfl) rfl ?_
  rintro _ _ ⟨rfl, x1, rfl, hx1⟩
  show J_ zX10_official T (po_X10_official_e T s c) 0 0 6 _ [vI x1] T
  refine j_blx (F := fX10) tb_X10 (nn_ _) bk_X10_official_e_6 bs_X10_official_e_6 hz (fun K hK => ?_)
  refine And.intro (fun c2 => ?_) (fun c2 => ?_)
  · replace hx1 := hx1.resolve_left (fun z => absurd (c2.symm.trans z.1) (by decide))
    clear c2
    refine hK 18 _ [] T ?_
    refine j_blx (F := fX10) tb_X10 (nn_ _) bk_X10_official_e_18 bs_X10_official_e_18 hz (fun K hK => ?_)
    refine (show po_X10_official_e T s c T (some (vI (-3))) from ?_)
    exact ⟨_, rfl, fr_0 _ _, by omega, Or.inl ⟨rfl, Or.inl ⟨rfl, by omega⟩⟩⟩
  · replace hx1 := hx1.resolve_right (fun z => c2 z.1)
    clear c2
    refine hK 12 _ [vI 8, vI c] T ?_
    refine j_callS (y := yX10_isBelow) (Yc := zX10_isBelow) (rest := []) [vI c, vI 8] (ct_X10_isBelow (T := T)) cl_X10_115 (qd_c (by decide +kernel)) (nn_ _) rfl (rf_of rfl) (Nat.le_of_ble_eq_true rfl) (Nat.le_of_ble_eq_true rfl) (Nat.le_of_ble_eq_true rfl) rfl ?_
    rintro _ _ ⟨rfl, x3, rfl, hx3⟩
    show J_ zX10_official T (po_X10_official_e T s c) 0 0 15 _ [vI x3] T
    refine j_blx (F := fX10) tb_X10 (nn_ _) bk_X10_official_e_15 bs_X10_official_e_15 hz (fun K hK => ?_)
    refine And.intro (fun c4 => ?_) (fun c4 => ?_)
    · replace hx3 := hx3.resolve_right (fun z => c4 z.1)
      clear c4
      refine hK 21 _ [] T ?_
      refine j_blx (F := fX10) tb_X10 (nn_ _) bk_X10_official_e_21 bs_X10_official_e_21 hz (fun K hK => ?_)
      intro b5 b5b
      refine And.intro (fun c6 => ?_) (fun c6 => ?_)
      · refine hK 36 _ [] T ?_
        refine j_blx (F := fX10) tb_X10 (nn_ _) bk_X10_official_e_36 bs_X10_official_e_36 hz (fun K hK => ?_)
        intro b7 b7b
        refine iy_i (by omega) (by omega) ?_
        refine x_nm (fun U8 hU8 => ?_)
        have e9 := up_f hU8
        refine iy_i (by omega) (by omega) ?_
        refine x_nm (fun U10 hU10 => ?_)
        have e11 := up_f hU10
        intro b12 b12b
        have e13 : U10 108 0 12 = T 108 0 12 := (up_k hU10 (by exact Nat.ne_of_beq_eq_false rfl) 0 12).trans (up_k hU8 (by exact Nat.ne_of_beq_eq_false rfl) 0 12)
        rw [e13] at b12 b12b ⊢
        refine rg_i (by omega) ?_
        refine bd_i (by omega) ?_
        refine x_nm (fun U14 hU14 => ?_)
        have e15 := up_f hU14
        refine (show po_X10_official_e T s c U14 (some (vI (T 108 0 12))) from ?_)
        have e16 : U14 108 0 12 = (T 108 0 12) + 1 := up_f hU14
        have e17 : U14 108 0 12 = (T 108 0 12) + 1 := up_f hU14
        exact ⟨_, rfl, fr_u (fr_u (fr_u (fr_0 _ _) hU8 rfl) hU10 rfl) hU14 rfl, by omega, Or.inr ⟨by omega, by omega, by omega, by omega, ⟨(up_k hU14 (by exact Nat.ne_of_beq_eq_false rfl) 0 _).trans ((up_k hU10 (by exact Nat.ne_of_beq_eq_false rfl) 0 _).trans (up_f hU8)), fun j hj => (up_k hU14 (by exact Nat.ne_of_beq_eq_false rfl) 0 j).trans ((up_k hU10 (by exact Nat.ne_of_beq_eq_false rfl) 0 j).trans (up_g hU8 (fun z => hj z.2.2)))⟩, ⟨(up_k hU14 (by exact Nat.ne_of_beq_eq_false rfl) 0 _).trans (up_f hU10), fun j hj => (up_k hU14 (by exact Nat.ne_of_beq_eq_false rfl) 0 j).trans ((up_g hU10 (fun z => hj z.2.2)).trans (up_k hU8 (by exact Nat.ne_of_beq_eq_false rfl) 0 j))⟩⟩⟩
      · refine (show po_X10_official_e T s c T (some (vI (-5))) from ?_)
        exact ⟨_, rfl, fr_0 _ _, by omega, Or.inl ⟨rfl, Or.inr ⟨by omega, by omega, rfl⟩⟩⟩
    · replace hx3 := hx3.resolve_left (fun z => absurd (c4.symm.trans z.1) (by decide))
      clear c4
      refine (show po_X10_official_e T s c T (some (vI (-3))) from ?_)
      exact ⟨_, rfl, fr_0 _ _, by omega, Or.inl ⟨rfl, Or.inl ⟨rfl, by omega⟩⟩⟩
theorem bk_X11_official_e_0 : ck_ fX11 (some .int) cX11_official 0 [.iload 1, .iconst 0, .iconst 11] 4 = true := qck_r (nn_ _) (by decide +kernel)
theorem bs_X11_official_e_0 {P : Zt → Option Zv → Prop} (K : Int → Zl → List Zv → Zt → Prop) : sx_ K P [.iload 1, .iconst 0, .iconst 11] 4 = x_iload 1 (x_iconst 0 (x_iconst 11 (K 4))) := ((xe_iload 1).trans (congrArg (x_iload 1) ((xe_iconst 0).trans (congrArg (x_iconst 0) ((xe_iconst 11).trans (congrArg (x_iconst 11) xe_nil))))))
theorem bk_X11_official_e_7 : ck_ fX11 (some .int) cX11_official 7 [.ifCond .eq 20, .iload 2, .iconst 0, .iconst 7] 14 = true := qck_r (nn_ _) (by decide +kernel)
theorem bs_X11_official_e_7 {P : Zt → Option Zv → Prop} (K : Int → Zl → List Zv → Zt → Prop) : sx_ K P [.ifCond .eq 20, .iload 2, .iconst 0, .iconst 7] 14 = x_ifCond .eq 20 K (x_iload 2 (x_iconst 0 (x_iconst 7 (K 14)))) := ((xe_ifCond .eq 20).trans (congrArg (x_ifCond .eq 20 K) ((xe_iload 2).trans (congrArg (x_iload 2) ((xe_iconst 0).trans (congrArg (x_iconst 0) ((xe_iconst 7).trans (congrArg (x_iconst 7) xe_nil))))))))
theorem bk_X11_official_e_20 : ck_ fX11 (some .int) cX11_official 20 [.iconst (-3), .ireturn] 23 = true := qck_r (nn_ _) (by decide +kernel)
theorem bs_X11_official_e_20 {P : Zt → Option Zv → Prop} (K : Int → Zl → List Zv → Zt → Prop) : sx_ K P [.iconst (-3), .ireturn] 23 = x_iconst (-3) (x_ireturn P) := ((xe_iconst (-3)).trans (congrArg (x_iconst (-3)) (xe_ireturn)))
theorem bk_X11_official_e_17 : ck_ fX11 (some .int) cX11_official 17 [.ifCond .ne 23, .iconst (-3), .ireturn] 23 = true := qck_r (nn_ _) (by decide +kernel)
theorem bs_X11_official_e_17 {P : Zt → Option Zv → Prop} (K : Int → Zl → List Zv → Zt → Prop) : sx_ K P [.ifCond .ne 23, .iconst (-3), .ireturn] 23 = x_ifCond .ne 23 K (x_iconst (-3) (x_ireturn P)) := ((xe_ifCond .ne 23).trans (congrArg (x_ifCond .ne 23 K) ((xe_iconst (-3)).trans (congrArg (x_iconst (-3)) (xe_ireturn)))))
theorem bk_X11_official_e_23 : ck_ fX11 (some .int) cX11_official 23 [.aload 0, .tableswitch 0 11 21 #[], .iconst 8, .if_icmp .ne 35, .iconst (-5), .ireturn] 35 = true := qck_r (nn_ _) (by decide +kernel)
theorem bs_X11_official_e_23 {P : Zt → Option Zv → Prop} (K : Int → Zl → List Zv → Zt → Prop) : sx_ K P [.aload 0, .tableswitch 0 11 21 #[], .iconst 8, .if_icmp .ne 35, .iconst (-5), .ireturn] 35 = x_aload 0 (x_g0 111 21 0 8 (x_iconst 8 (x_if_icmp .ne 35 K (x_iconst (-5) (x_ireturn P))))) := ((xe_aload 0).trans (congrArg (x_aload 0) ((xe_g0 (kk := 111) rfl tl_11_21).trans (congrArg (x_g0 111 21 0 8) ((xe_iconst 8).trans (congrArg (x_iconst 8) ((xe_if_icmp .ne 35).trans (congrArg (x_if_icmp .ne 35 K) ((xe_iconst (-5)).trans (congrArg (x_iconst (-5)) (xe_ireturn)))))))))))
theorem bk_X11_official_e_35 : ck_ fX11 (some .int) cX11_official 35 [.aload 0, .tableswitch 0 11 22 #[], .aload 0, .tableswitch 0 11 21 #[], .iload 1, .iastore, .aload 0, .tableswitch 0 11 23 #[], .aload 0, .tableswitch 0 11 21 #[], .iload 2, .iastore, .aload 0, .dup, .tableswitch 0 11 21 #[], .iconst 1, .iadd, .tableswitch 1 11 21 #[], .aload 0, .tableswitch 0 11 21 #[], .iconst 1, .isub, .ireturn] 72 = true := qck_r (nn_ _) (by decide +kernel)
theorem bs_X11_official_e_35 {P : Zt → Option Zv → Prop} (K : Int → Zl → List Zv → Zt → Prop) : sx_ K P [.aload 0, .tableswitch 0 11 22 #[], .aload 0, .tableswitch 0 11 21 #[], .iload 1, .iastore, .aload 0, .tableswitch 0 11 23 #[], .aload 0, .tableswitch 0 11 21 #[], .iload 2, .iastore, .aload 0, .dup, .tableswitch 0 11 21 #[], .iconst 1, .iadd, .tableswitch 1 11 21 #[], .aload 0, .tableswitch 0 11 21 #[], .iconst 1, .isub, .ireturn] 72 = x_aload 0 (x_g1 111 222 (x_aload 0 (x_g0 111 21 0 8 (x_iload 1 (x_iastore (x_aload 0 (x_g1 111 223 (x_aload 0 (x_g0 111 21 0 8 (x_iload 2 (x_iastore (x_aload 0 (x_dup (x_g0 111 21 0 8 (x_iconst 1 (x_iadd (x_p 111 21 0 8 (x_aload 0 (x_g0 111 21 0 8 (x_iconst 1 (x_isub (x_ireturn P)))))))))))))))))))))) := ((xe_aload 0).trans (congrArg (x_aload 0) ((xe_g1 (kk := 111) rfl tl_11_22).trans (congrArg (x_g1 111 222) ((xe_aload 0).trans (congrArg (x_aload 0) ((xe_g0 (kk := 111) rfl tl_11_21).trans (congrArg (x_g0 111 21 0 8) ((xe_iload 1).trans (congrArg (x_iload 1) ((xe_iastore).trans (congrArg (x_iastore) ((xe_aload 0).trans (congrArg (x_aload 0) ((xe_g1 (kk := 111) rfl tl_11_23).trans (congrArg (x_g1 111 223) ((xe_aload 0).trans (congrArg (x_aload 0) ((xe_g0 (kk := 111) rfl tl_11_21).trans (congrArg (x_g0 111 21 0 8) ((xe_iload 2).trans (congrArg (x_iload 2) ((xe_iastore).trans (congrArg (x_iastore) ((xe_aload 0).trans (congrArg (x_aload 0) ((xe_dup).trans (congrArg (x_dup) ((xe_g0 (kk := 111) rfl tl_11_21).trans (congrArg (x_g0 111 21 0 8) ((xe_iconst 1).trans (congrArg (x_iconst 1) ((xe_iadd).trans (congrArg (x_iadd) ((xe_p (kk := 111) rfl tl_11_21).trans (congrArg (x_p 111 21 0 8) ((xe_aload 0).trans (congrArg (x_aload 0) ((xe_g0 (kk := 111) rfl tl_11_21).trans (congrArg (x_g0 111 21 0 8) ((xe_iconst 1).trans (congrArg (x_iconst 1) ((xe_isub).trans (congrArg (x_isub) (xe_ireturn)))))))))))))))))))))))))))))))))))))))))))))
abbrev po_X11_official_e (T : Zt) (s c : Int) : Zt → Option Zv → Prop := fun T' r => ∃ x : Int, r = some (vI x) ∧ fr_ [(111, [21]), (222, []), (223, [])] T T' ∧ (((x = -3 ∧ ¬ (0 ≤ s ∧ s ≤ 11 ∧ 0 ≤ c ∧ c ≤ 7) ∧ T' 111 0 21 = T 111 0 21) ∨ ((0 ≤ s ∧ s ≤ 11 ∧ 0 ≤ c ∧ c ≤ 7) ∧ T 111 0 21 = 8 ∧ x = -5 ∧ T' 111 0 21 = T 111 0 21) ∨ ((0 ≤ s ∧ s ≤ 11 ∧ 0 ≤ c ∧ c ≤ 7) ∧ T 111 0 21 < 8 ∧ x = T 111 0 21 ∧ T' 111 0 21 = T 111 0 21 + 1)) ∧ TG9_ 111 21 8 222 223 T T' s c x)
set_option maxHeartbeats 4000000 in
theorem ct_X11_official_e {T : Zt} {s c : Int} : Ct_ yX11_official zX11_official T [vR 111 0, vI s, vI c] (po_X11_official_e T s c) := by
  refine ct_of pn_11 rfl rfl (Nat.le_of_ble_eq_true rfl) (fun hT hav => ?_)
  have hr_s : -2147483648 ≤ s ∧ s ≤ 2147483647 := hav (vI s) (List.mem_cons_of_mem _ List.mem_cons_self)
  have hr_c : -2147483648 ≤ c ∧ c ≤ 2147483647 := hav (vI c) (List.mem_cons_of_mem _ (List.mem_cons_of_mem _ List.mem_cons_self))
  have hz : zX11_official.2.2.2.1 = some .boolean → ∀ (T' : Zt) (x : Int), po_X11_official_e T s c T' (some (vI x)) → 0 ≤ x ∧ x ≤ 1 := fun h => by cases h
  have hb_21 : 0 ≤ T 111 0 21 ∧ T 111 0 21 ≤ 8 := bd_f hT 111 21 tl_11_21 0
  show J_ zX11_official T (po_X11_official_e T s c) 0 0 0 [some (vR 111 0), some (vI s), some (vI c)] [] T
  refine j_blx (F := fX11) tb_X11 (nn_ _) bk_X11_official_e_0 bs_X11_official_e_0 hz (fun K hK => ?_)
  refine hK 4 _ [vI 11, vI 0, vI s] T ?_
  refine j_callS (y := yX11_in) (Yc := zX11_in) (rest := []) [vI s, vI 0, vI 11] (ct_X11_in (T := T)) cl_X11_255 (qd_c (by decide +kernel)) (nn_ _) rfl (rf_of rfl) (Nat.le_of_ble_eq_true rfl) (Nat.le_of_ble_eq_true rfl) (Nat.le_of_ble_eq_true rfl) rfl ?_
  rintro _ _ ⟨rfl, x1, rfl, hx1⟩
  show J_ zX11_official T (po_X11_official_e T s c) 0 0 7 _ [vI x1] T
  refine j_blx (F := fX11) tb_X11 (nn_ _) bk_X11_official_e_7 bs_X11_official_e_7 hz (fun K hK => ?_)
  refine And.intro (fun c2 => ?_) (fun c2 => ?_)
  · replace hx1 := hx1.resolve_left (fun z => absurd (c2.symm.trans z.1) (by decide))
    clear c2
    refine hK 20 _ [] T ?_
    refine j_blx (F := fX11) tb_X11 (nn_ _) bk_X11_official_e_20 bs_X11_official_e_20 hz (fun K hK => ?_)
    refine (show po_X11_official_e T s c T (some (vI (-3))) from ?_)
    exact ⟨_, rfl, fr_0 _ _, by omega, Or.inl ⟨rfl, Or.inl ⟨rfl, by omega⟩⟩⟩
  · replace hx1 := hx1.resolve_right (fun z => c2 z.1)
    clear c2
    refine hK 14 _ [vI 7, vI 0, vI c] T ?_
    refine j_callS (y := yX11_in) (Yc := zX11_in) (rest := []) [vI c, vI 0, vI 7] (ct_X11_in (T := T)) cl_X11_255 (qd_c (by decide +kernel)) (nn_ _) rfl (rf_of rfl) (Nat.le_of_ble_eq_true rfl) (Nat.le_of_ble_eq_true rfl) (Nat.le_of_ble_eq_true rfl) rfl ?_
    rintro _ _ ⟨rfl, x3, rfl, hx3⟩
    show J_ zX11_official T (po_X11_official_e T s c) 0 0 17 _ [vI x3] T
    refine j_blx (F := fX11) tb_X11 (nn_ _) bk_X11_official_e_17 bs_X11_official_e_17 hz (fun K hK => ?_)
    refine And.intro (fun c4 => ?_) (fun c4 => ?_)
    · replace hx3 := hx3.resolve_right (fun z => c4 z.1)
      clear c4
      refine hK 23 _ [] T ?_
      refine j_blx (F := fX11) tb_X11 (nn_ _) bk_X11_official_e_23 bs_X11_official_e_23 hz (fun K hK => ?_)
      intro b5 b5b
      refine And.intro (fun c6 => ?_) (fun c6 => ?_)
      · refine hK 35 _ [] T ?_
        refine j_blx (F := fX11) tb_X11 (nn_ _) bk_X11_official_e_35 bs_X11_official_e_35 hz (fun K hK => ?_)
        intro b7 b7b
        refine iy_i (by omega) (by omega) ?_
        refine x_nm (fun U8 hU8 => ?_)
        have e9 := up_f hU8
        intro b10 b10b
        have e11 : U8 111 0 21 = T 111 0 21 := up_k hU8 (by exact Nat.ne_of_beq_eq_false rfl) 0 21
        rw [e11] at b10 b10b ⊢
        refine iy_i (by omega) (by omega) ?_
        refine x_nm (fun U12 hU12 => ?_)
        have e13 := up_f hU12
        intro b14 b14b
        have e15 : U12 111 0 21 = T 111 0 21 := (up_k hU12 (by exact Nat.ne_of_beq_eq_false rfl) 0 21).trans (up_k hU8 (by exact Nat.ne_of_beq_eq_false rfl) 0 21)
        rw [e15] at b14 b14b ⊢
        refine rg_i (by omega) ?_
        refine bd_i (by omega) ?_
        refine x_nm (fun U16 hU16 => ?_)
        have e17 := up_f hU16
        intro b18 b18b
        have e19 : U16 111 0 21 = (T 111 0 21) + 1 := up_f hU16
        rw [e19] at b18 b18b ⊢
        refine rg_i (by omega) ?_
        refine (show po_X11_official_e T s c U16 (some (vI (((T 111 0 21) + 1) - 1))) from ?_)
        have e20 : U16 111 0 21 = (T 111 0 21) + 1 := up_f hU16
        have e21 : U16 111 0 21 = (T 111 0 21) + 1 := up_f hU16
        exact ⟨_, rfl, fr_u (fr_u (fr_u (fr_0 _ _) hU8 rfl) hU12 rfl) hU16 rfl, by omega, Or.inr ⟨by omega, by omega, by omega, by omega, ⟨(up_k hU16 (by exact Nat.ne_of_beq_eq_false rfl) 0 _).trans ((up_k hU12 (by exact Nat.ne_of_beq_eq_false rfl) 0 _).trans (up_f hU8)), fun j hj => (up_k hU16 (by exact Nat.ne_of_beq_eq_false rfl) 0 j).trans ((up_k hU12 (by exact Nat.ne_of_beq_eq_false rfl) 0 j).trans (up_g hU8 (fun z => hj z.2.2)))⟩, ⟨(up_k hU16 (by exact Nat.ne_of_beq_eq_false rfl) 0 _).trans (up_f hU12), fun j hj => (up_k hU16 (by exact Nat.ne_of_beq_eq_false rfl) 0 j).trans ((up_g hU12 (fun z => hj z.2.2)).trans (up_k hU8 (by exact Nat.ne_of_beq_eq_false rfl) 0 j))⟩⟩⟩
      · refine (show po_X11_official_e T s c T (some (vI (-5))) from ?_)
        exact ⟨_, rfl, fr_0 _ _, by omega, Or.inl ⟨rfl, Or.inr ⟨by omega, by omega, rfl⟩⟩⟩
    · replace hx3 := hx3.resolve_left (fun z => absurd (c4.symm.trans z.1) (by decide))
      clear c4
      refine (show po_X11_official_e T s c T (some (vI (-3))) from ?_)
      exact ⟨_, rfl, fr_0 _ _, by omega, Or.inl ⟨rfl, Or.inl ⟨rfl, by omega⟩⟩⟩
-- the draw as the house counts it
theorem qs_g1 {C : Int → Prop} {V : Int → Nat} {g : Int} (h0 : 0 ≤ g) (h4 : g < 4) (c : C g) : qs_ C V (g - 1) = V g + qs_ C V g := qs_f h0 h4 (by omega) c (fun u a b d => by omega)
theorem qs_g0 {C : Int → Prop} {V : Int → Nat} {g : Int} (nc : ¬ C g) : qs_ C V (g - 1) = qs_ C V g := by
  have e : ∀ u : Int, q1_ (g - 1 < u ∧ C u) (V u) = q1_ (g < u ∧ C u) (V u) := fun u => q1_e ⟨fun q => ⟨by
    have := q.1
    by_cases z : u = g
    · exact absurd (z ▸ q.2) nc
    · omega, q.2⟩, fun q => ⟨by have := q.1; omega, q.2⟩⟩ (fun _ => rfl)
  unfold qs_
  rw [e 0, e 1, e 2, e 3]
theorem wr_w (a b : Int) : wr_ (wr_ a + b) = wr_ (a + b) := by unfold wr_; omega
theorem wr_i {a : Int} (h : -2147483648 ≤ a ∧ a ≤ 2147483647) : wr_ a = a := by unfold wr_; omega
/-- how many of the clubs below k stand in a group and are of a country -/
def cmk_ (E C f : Int → Int) (g c : Int) : Nat → Int
  | 0 => 0
  | k + 1 => cmk_ E C f g c k + (if E k ≠ -1 ∧ f k = g ∧ C k = c then 1 else 0)
theorem cmk_b (E C f : Int → Int) (g c : Int) : ∀ k : Nat, 0 ≤ cmk_ E C f g c k ∧ cmk_ E C f g c k ≤ k
  | 0 => by simp [cmk_]
  | k + 1 => by
      have i := cmk_b E C f g c k
      unfold cmk_
      split <;> omega
theorem cmk_a {E C f : Int → Int} {x g : Int} (hx : f x ≠ g) : ∀ k : Nat, alk_ E C f x g k = cmk_ E C f g (C x) k
  | 0 => rfl
  | k + 1 => by
      have i := cmk_a (E := E) (C := C) hx k
      show alk_ E C f x g k + (if ((k : Nat) : Int) ≠ x ∧ E k ≠ -1 ∧ f k = g ∧ C k = C x then (1 : Int) else 0) = cmk_ E C f g (C x) k + (if E k ≠ -1 ∧ f k = g ∧ C k = C x then (1 : Int) else 0)
      rw [i]
      by_cases z : ((k : Nat) : Int) = x
      · have n1 : ¬ (((k : Nat) : Int) ≠ x ∧ E k ≠ -1 ∧ f k = g ∧ C k = C x) := fun q => q.1 z
        have n2 : ¬ (E k ≠ -1 ∧ f k = g ∧ C k = C x) := fun q => hx (by rw [← z]; exact q.2.1)
        rw [if_neg n1, if_neg n2]
      · by_cases y : E k ≠ -1 ∧ f k = g ∧ C k = C x
        · have y1 : ((k : Nat) : Int) ≠ x ∧ E k ≠ -1 ∧ f k = g ∧ C k = C x := ⟨z, y⟩
          rw [if_pos y, if_pos y1]
        · have y1 : ¬ (((k : Nat) : Int) ≠ x ∧ E k ≠ -1 ∧ f k = g ∧ C k = C x) := fun q => y q.2
          rw [if_neg y, if_neg y1]
theorem cmk_u {E C f : Int → Int} {x g : Int} (hx : f x = -1) (hg : 0 ≤ g) (he : E x ≠ -1) (h0 : 0 ≤ x) (g2 c : Int) (h2 : 0 ≤ g2) : ∀ k : Nat, cmk_ E C (fu_ f x g) g2 c k = cmk_ E C f g2 c k + (if x < k ∧ g2 = g ∧ C x = c then 1 else 0)
  | 0 => by
      have n1 : ¬ (x < ((0 : Nat) : Int) ∧ g2 = g ∧ C x = c) := fun q => by have := q.1; omega
      rw [if_neg n1]; rfl
  | k + 1 => by
      have i := cmk_u (C := C) hx hg he h0 g2 c h2 k
      show cmk_ E C (fu_ f x g) g2 c k + (if E k ≠ -1 ∧ fu_ f x g k = g2 ∧ C k = c then (1 : Int) else 0) = cmk_ E C f g2 c k + (if E k ≠ -1 ∧ f k = g2 ∧ C k = c then (1 : Int) else 0) + (if x < ((k + 1 : Nat) : Int) ∧ g2 = g ∧ C x = c then (1 : Int) else 0)
      rw [i]
      by_cases z : ((k : Nat) : Int) = x
      · have n1 : ¬ (x < ((k : Nat) : Int) ∧ g2 = g ∧ C x = c) := fun q => by have := q.1; omega
        have n2 : ¬ (E k ≠ -1 ∧ f k = g2 ∧ C k = c) := fun q => by have := q.2.1; rw [z, hx] at this; omega
        rw [if_neg n1, if_neg n2]
        by_cases y : g2 = g ∧ C x = c
        · rw [if_pos (show E k ≠ -1 ∧ fu_ f x g k = g2 ∧ C k = c from ⟨by rw [z]; exact he, by rw [z, fu_s]; exact y.1.symm, by rw [z]; exact y.2⟩), if_pos (show x < ((k + 1 : Nat) : Int) ∧ g2 = g ∧ C x = c from ⟨by omega, y⟩)]
        · rw [if_neg (show ¬ (E k ≠ -1 ∧ fu_ f x g k = g2 ∧ C k = c) from fun q => y ⟨by have := q.2.1; rw [z, fu_s] at this; exact this.symm, by have := q.2.2; rw [z] at this; exact this⟩), if_neg (show ¬ (x < ((k + 1 : Nat) : Int) ∧ g2 = g ∧ C x = c) from fun q => y q.2)]
      · rw [show fu_ f x g k = f k from fu_n z]
        by_cases y : x < ((k : Nat) : Int) ∧ g2 = g ∧ C x = c
        · rw [if_pos y, if_pos (show x < ((k + 1 : Nat) : Int) ∧ g2 = g ∧ C x = c from ⟨by have := y.1; omega, y.2⟩)]; omega
        · rw [if_neg y, if_neg (show ¬ (x < ((k + 1 : Nat) : Int) ∧ g2 = g ∧ C x = c) from fun q => y ⟨by have := q.1; omega, q.2⟩)]; omega
/-- a club of a pot stands in a group -/
def OX_ (E f : Int → Int) (p g : Int) : Prop := ∃ k, 0 ≤ k ∧ k < 12 ∧ E k = p ∧ f k = g
theorem ox_u {E f : Int → Int} {x g p g2 : Int} (hx : f x = -1) (h0 : 0 ≤ x ∧ x < 12) (hg2 : 0 ≤ g2) : OX_ E (fu_ f x g) p g2 ↔ OX_ E f p g2 ∨ (p = E x ∧ g2 = g) := by
  constructor
  · rintro ⟨k, a, b, c, e⟩
    by_cases z : k = x
    · rw [z, fu_s] at e
      exact Or.inr ⟨by rw [← c, z], e.symm⟩
    · rw [fu_n z] at e
      exact Or.inl ⟨k, a, b, c, e⟩
  · rintro (⟨k, a, b, c, e⟩ | ⟨a, b⟩)
    · exact ⟨k, a, b, c, by rw [fu_n (fun z => by rw [z, hx] at e; omega)]; exact e⟩
    · exact ⟨x, h0.1, h0.2, a.symm, by rw [fu_s]; exact b.symm⟩
/-- the rows taken, countrymen say where the clubs stand -/
def OCW_ (T : Zt) (E C f : Int → Int) : Prop := (∀ p g, 0 ≤ p → p ≤ 2 → 0 ≤ g → g < 4 → (T 434 0 (p * 4 + g) = 0 ↔ ¬ OX_ E f p g)) ∧ ∀ g c, 0 ≤ g → g < 4 → 0 ≤ c → c < 8 → T 435 0 (g * 8 + c) = cmk_ E C f g c 12
theorem oc_e {T T' : Zt} {E C f : Int → Int} (h : OCW_ T E C f) (a : ∀ j, T' 434 0 j = T 434 0 j) (b : ∀ j, T' 435 0 j = T 435 0 j) : OCW_ T' E C f := ⟨fun p g x y z w => by rw [a]; exact h.1 p g x y z w, fun g c x y z w => by rw [b]; exact h.2 g c x y z w⟩
theorem oc_u {T T' : Zt} {E C f : Int → Int} {x g : Int} (h : OCW_ T E C f) (hx : 0 ≤ x ∧ x < 12) (hf : f x = -1) (he : 0 ≤ E x ∧ E x ≤ 2) (hc : 0 ≤ C x ∧ C x < 8) (hg : 0 ≤ g ∧ g < 4) (t1 : T' 434 0 (E x * 4 + g) ≠ 0) (t2 : ∀ j, j ≠ E x * 4 + g → T' 434 0 j = T 434 0 j) (c1 : T' 435 0 (g * 8 + C x) = T 435 0 (g * 8 + C x) + 1) (c2 : ∀ j, j ≠ g * 8 + C x → T' 435 0 j = T 435 0 j) : OCW_ T' E C (fu_ f x g) := by
  refine ⟨fun p g2 a b c e => ?_, fun g2 cc a b c e => ?_⟩
  · rw [ox_u hf hx c]
    by_cases z : p * 4 + g2 = E x * 4 + g
    · have z1 : p = E x ∧ g2 = g := by omega
      rw [z]
      exact ⟨fun q => absurd q t1, fun q => absurd (Or.inr z1) q⟩
    · rw [t2 _ z, h.1 p g2 a b c e]
      exact ⟨fun q r => r.elim q (fun y => z (by rw [y.1, y.2])), fun q r => q (Or.inl r)⟩
  · rw [cmk_u hf hg.1 (by omega) hx.1 g2 cc a 12]
    by_cases z : g2 * 8 + cc = g * 8 + C x
    · have z1 : g2 = g ∧ cc = C x := by omega
      rw [z, c1, if_pos (show x < ((12 : Nat) : Int) ∧ g2 = g ∧ C x = cc from ⟨by have := hx.2; omega, z1.1, z1.2.symm⟩), h.2 g (C x) hg.1 hg.2 hc.1 hc.2, z1.1, z1.2]
    · have n1 : ¬ (x < ((12 : Nat) : Int) ∧ g2 = g ∧ C x = cc) := fun q => z (by rw [q.2.1, q.2.2])
      rw [c2 _ z, if_neg n1, h.2 g2 cc a b c e]; omega
/-- the house's draw -/
def dh_ (T : Zt) : Dr_ := ⟨fun k => T 428 0 k, fun k => T 561 0 k, 12, T 101 0 1, T 101 0 2⟩
def ghw_ (T : Zt) : Int → Int := fun k => T 429 0 k
def lhw_ (T : Zt) : List Int := lq_ (fun k => T 428 0 k) (ghw_ T) 12 3
theorem dq_f {ws : List (Nat × List Int)} {T T' : Zt} {d : Dr_} (h : d = dh_ T) (f : fr_ ws T T') (w : (∀ j, fw_ ws 428 j = false) ∧ (∀ j, fw_ ws 561 j = false) ∧ fw_ ws 101 1 = false ∧ fw_ ws 101 2 = false) : d = dh_ T' := by
  rw [h]
  unfold dh_
  rw [f 101 0 1 w.2.2.1, f 101 0 2 w.2.2.2, show (fun k => T' 428 0 k) = (fun k => T 428 0 k) from funext (fun k => f 428 0 k (w.1 k)), show (fun k => T' 561 0 k) = (fun k => T 561 0 k) from funext (fun k => f 561 0 k (w.2.1 k))]
theorem oc_t {T : Zt} {d : Dr_} {f : Int → Int} {x g : Int} (hd : d = dh_ T) (h : OCW_ T d.E d.C f) (hx : 0 ≤ x ∧ x < 12) (hf : f x = -1) (he : 0 ≤ T 428 0 x ∧ T 428 0 x ≤ 2) (hc : 0 ≤ T 561 0 x ∧ T 561 0 x ≤ 7) (hg : 0 ≤ g ∧ g < 4) : (T 434 0 (T 428 0 x * 4 + g) = 0 ∧ T 435 0 (g * 8 + T 561 0 x) < T 101 0 2) ↔ ms_ d f x g := by
  subst hd
  have a := h.1 (T 428 0 x) g he.1 he.2 hg.1 hg.2
  have b : T 435 0 (g * 8 + T 561 0 x) = cmk_ (dh_ T).E (dh_ T).C f g (T 561 0 x) 12 := h.2 g (T 561 0 x) hg.1 hg.2 hc.1 (by omega)
  have c : alk_ (dh_ T).E (dh_ T).C f x g 12 = cmk_ (dh_ T).E (dh_ T).C f g (T 561 0 x) 12 := cmk_a (by omega) 12
  have hn2 : (dh_ T).n.toNat = 12 := rfl
  unfold ms_
  rw [a, b, hn2, c]
  constructor
  · rintro ⟨q, r⟩
    exact ⟨fun k p1 p2 p3 p4 p5 p6 => q ⟨k, p1, p2, p6, p5⟩, r⟩
  · rintro ⟨q, r⟩
    refine ⟨fun ⟨k, p1, p2, p3, p4⟩ => q k p1 p2 (fun z => by rw [z, hf] at p4; omega) (by rw [p3]; omega) p4 p3, r⟩
/-- the row waiting, from k on -/
def WL_ (T : Zt) : List Int → Int → Prop
  | [], k => k = T 101 0 13
  | x :: l, k => T 432 0 k = x ∧ WL_ T l (k + 1)
theorem wl_c {T : Zt} : ∀ {l : List Int} {k : Int}, WL_ T l k → k + (l.length : Int) = T 101 0 13
  | [], k, h => by
    have h : k = T 101 0 13 := h
    rw [List.length_nil]; omega
  | x :: l, k, h => by
    have i := wl_c h.2
    rw [List.length_cons]; omega
theorem wl_e {T T' : Zt} (a : ∀ j, T' 432 0 j = T 432 0 j) (b : T' 101 0 13 = T 101 0 13) : ∀ {l : List Int} {k : Int}, WL_ T l k → WL_ T' l k
  | [], k, h => by
    have h : k = T 101 0 13 := h
    show k = T' 101 0 13
    omega
  | x :: l, k, h => ⟨(a k).trans h.1, wl_e a b h.2⟩
/-- what is asked of the clubs that wait -/
def FZ_ (T : Zt) (f : Int → Int) (l : List Int) : Prop := l.Nodup ∧ ∀ z ∈ l, (0 ≤ z ∧ z < 12) ∧ f z = -1 ∧ (0 ≤ T 428 0 z ∧ T 428 0 z ≤ 2) ∧ (0 ≤ T 561 0 z ∧ T 561 0 z ≤ 7)
theorem fz_u {T T' : Zt} {f : Int → Int} {x g : Int} {l : List Int} (h : FZ_ T f (x :: l)) (a : ∀ j, T' 428 0 j = T 428 0 j) (b : ∀ j, T' 561 0 j = T 561 0 j) : FZ_ T' (fu_ f x g) l := by
  obtain ⟨n, h⟩ := h
  rw [List.nodup_cons] at n
  refine ⟨n.2, fun z hz => ?_⟩
  have q := h z (List.mem_cons_of_mem _ hz)
  refine ⟨q.1, ?_, by rw [a]; exact q.2.2.1, by rw [b]; exact q.2.2.2⟩
  rw [fu_n (fun y => n.1 (by rw [← y]; exact hz))]
  exact q.2.1
theorem fz_b {T : Zt} {d : Dr_} {f : Int → Int} {l : List Int} {fx gp : Int} (hd : d = dh_ T) (h : FZ_ T f l) : nw_ d fx gp l f ≤ 13824 := by
  subst hd
  exact nw_m h.1 (fun x hx => by
    have q := h.2 x hx
    exact ⟨q.1.1, q.1.2, q.2.1, q.2.2.1.1, q.2.2.1.2⟩)
/-- what counting from a list leaves -/
def PC_ (T T' : Zt) (d : Dr_) (l : List Int) (f : Int → Int) (x : Int) : Prop := x = (nw_ d (-1) (-1) l f : Nat) ∧ (∀ j, T' 434 0 j = T 434 0 j) ∧ (∀ j, T' 435 0 j = T 435 0 j) ∧ (∀ c ∈ l, ∀ u, 0 ≤ u → u < 4 → T' 431 0 (c * 4 + u) = wr_ (T 431 0 (c * 4 + u) + (nw_ d c u l f : Nat))) ∧ ∀ c, c ∉ l → ∀ u, 0 ≤ u → u < 4 → T' 431 0 (c * 4 + u) = T 431 0 (c * 4 + u)
/-- the count of a club's groups, below g -/
def CI_ (T T1 : Zt) (d : Dr_) (x : Int) (l : List Int) (f : Int → Int) (v g : Int) : Prop := v + (qs_ (ok_ d (-1) (-1) f x) (fun u => nw_ d (-1) (-1) l (fu_ f x u)) (g - 1) : Nat) = (nw_ d (-1) (-1) (x :: l) f : Nat) ∧ (∀ c ∈ x :: l, ∀ u, 0 ≤ u → u < 4 → T1 431 0 (c * 4 + u) = wr_ (T 431 0 (c * 4 + u) + (nw_ d c u (x :: l) f : Nat) - (qs_ (ok_ d c u f x) (fun w => nw_ d c u l (fu_ f x w)) (g - 1) : Nat))) ∧ ∀ c, c ∉ x :: l → ∀ u, 0 ≤ u → u < 4 → T1 431 0 (c * 4 + u) = T 431 0 (c * 4 + u)
theorem ci_0 {T : Zt} {d : Dr_} {x : Int} {l : List Int} {f : Int → Int} (hl : ∀ z ∈ x :: l, 0 ≤ z) (hb : ∀ j, 0 ≤ j → -2147483648 ≤ T 431 0 j ∧ T 431 0 j ≤ 2147483647) : CI_ T T d x l f 0 0 := by
  refine ⟨?_, fun c hc u a b => ?_, fun _ _ _ _ _ => rfl⟩
  · show (0 : Int) + (qs_ (ok_ d (-1) (-1) f x) (fun u => nw_ d (-1) (-1) l (fu_ f x u)) (-1) : Nat) = (qs_ (ok_ d (-1) (-1) f x) (fun u => nw_ d (-1) (-1) l (fu_ f x u)) (-1) : Nat)
    omega
  · have e : nw_ d c u (x :: l) f = qs_ (ok_ d c u f x) (fun w => nw_ d c u l (fu_ f x w)) (0 - 1) := rfl
    have z := hl c hc
    rw [e, show T 431 0 (c * 4 + u) + ((qs_ (ok_ d c u f x) (fun w => nw_ d c u l (fu_ f x w)) (0 - 1) : Nat) : Int) - ((qs_ (ok_ d c u f x) (fun w => nw_ d c u l (fu_ f x w)) (0 - 1) : Nat) : Int) = T 431 0 (c * 4 + u) by omega, wr_i (hb _ (by omega))]
theorem ci_n {T T1 : Zt} {d : Dr_} {x : Int} {l : List Int} {f : Int → Int} {v g : Int} (h : CI_ T T1 d x l f v g) (n : ¬ ms_ d f x g) : CI_ T T1 d x l f v (g + 1) := by
  have e : ∀ c u, qs_ (ok_ d c u f x) (fun w => nw_ d c u l (fu_ f x w)) (g - 1) = qs_ (ok_ d c u f x) (fun w => nw_ d c u l (fu_ f x w)) (g + 1 - 1) := fun c u => by
    rw [show g + 1 - 1 = g by omega]
    exact qs_g0 (fun q => n q.2.2)
  refine ⟨by rw [← e]; exact h.1, fun c hc u a b => by rw [← e]; exact h.2.1 c hc u a b, h.2.2⟩
theorem ci_y {T T1 T2 T3 T4 : Zt} {d : Dr_} {x : Int} {l : List Int} {f : Int → Int} {v w g : Int} (h : CI_ T T1 d x l f v g) (hn : (x :: l).Nodup) (hl : ∀ z ∈ x :: l, 0 ≤ z) (hg : 0 ≤ g ∧ g < 4) (hG : g < d.G) (m : ms_ d f x g) (e2 : ∀ j, T2 431 0 j = T1 431 0 j) (p : PC_ T2 T3 d l (fu_ f x g) w) (e4 : T4 431 0 (x * 4 + g) = wr_ (T3 431 0 (x * 4 + g) + w)) (e5 : ∀ j, j ≠ x * 4 + g → T4 431 0 j = T3 431 0 j) : CI_ T T4 d x l f (v + w) (g + 1) := by
  rw [List.nodup_cons] at hn
  have s : ∀ c u, ok_ d c u f x g → qs_ (ok_ d c u f x) (fun w => nw_ d c u l (fu_ f x w)) (g - 1) = nw_ d c u l (fu_ f x g) + qs_ (ok_ d c u f x) (fun w => nw_ d c u l (fu_ f x w)) (g + 1 - 1) := fun c u o => by
    rw [show g + 1 - 1 = g by omega]
    exact qs_g1 (C := ok_ d c u f x) (V := fun w => nw_ d c u l (fu_ f x w)) hg.1 hg.2 o
  obtain ⟨h1, h2, h3⟩ := h
  obtain ⟨p1, -, -, p4, p5⟩ := p
  have x0 := hl x List.mem_cons_self
  refine ⟨?_, fun c hc u a b => ?_, fun c hc u a b => ?_⟩
  · have s0 := s (-1) (-1) ⟨hG, fun z => by omega, m⟩
    rw [s0] at h1
    rw [p1]
    omega
  · rcases List.mem_cons.mp hc with z | z
    · subst z
      by_cases y : u = g
      · subst y
        have s0 := s c u ⟨hG, fun _ => rfl, m⟩
        have o : nw_ d c u l (fu_ f c u) = nw_ d (-1) (-1) l (fu_ f c u) := nw_o l _ (fun y hy => ⟨fun e => hn.1 (by rw [← e]; exact hy), by have := hl y (List.mem_cons_of_mem _ hy); omega⟩)
        rw [e4, p5 c hn.1 u a b, e2, h2 c hc u a b, wr_w, s0, p1, o]
        congr 1
        omega
      · have z0 : qs_ (ok_ d c u f c) (fun w => nw_ d c u l (fu_ f c w)) (g - 1) = qs_ (ok_ d c u f c) (fun w => nw_ d c u l (fu_ f c w)) g := qs_g0 (C := ok_ d c u f c) (fun q => y (q.2.1 rfl).symm)
        rw [e5 _ (by omega), p5 c hn.1 u a b, e2, h2 c hc u a b, show g + 1 - 1 = g by omega, z0]
    · have cx : c ≠ x := fun e => hn.1 (by rw [← e]; exact z)
      have s0 := s c u ⟨hG, fun e => absurd e.symm cx, m⟩
      have c0 := hl c hc
      rw [e5 _ (by omega), p4 c z u a b, e2, h2 c hc u a b, wr_w, s0]
      congr 1
      omega
  · have cx : c ≠ x := fun e => hc (by rw [e]; exact List.mem_cons_self)
    have cl : c ∉ l := fun e => hc (List.mem_cons_of_mem _ e)
    rw [e5 _ (by omega), p5 c cl u a b, e2]
    exact h3 c hc u a b
theorem ci_e {T T1 : Zt} {d : Dr_} {x : Int} {l : List Int} {f : Int → Int} {v g : Int} (h : CI_ T T1 d x l f v g) (hg : d.G ≤ g) (a : ∀ j, T1 434 0 j = T 434 0 j) (b : ∀ j, T1 435 0 j = T 435 0 j) : PC_ T T1 d (x :: l) f v := by
  have e : ∀ c u, qs_ (ok_ d c u f x) (fun w => nw_ d c u l (fu_ f x w)) (g - 1) = 0 := fun c u => qs_n (fun u p _ _ q => by have := q.1; omega)
  obtain ⟨h1, h2, h3⟩ := h
  refine ⟨?_, a, b, fun c hc u p q => ?_, h3⟩
  · rw [e] at h1
    omega
  · rw [h2 c hc u p q, e]
    congr 1
    omega
theorem pc_n {T : Zt} {d : Dr_} {f : Int → Int} : PC_ T T d [] f 1 := ⟨rfl, fun _ => rfl, fun _ => rfl, fun c hc => absurd hc List.not_mem_nil, fun _ _ _ _ _ => rfl⟩
def zX1_cf (n : Nat) : Zm := (RX1, cX1_countFrom, 8, (some .int), { frames := n + 1, cells := 0, slots := 0, locals := 27 * (n + 1) })
theorem rf_cf (n : Nat) : rf_ (zX1_cf n) (zX1_cf (n + 1)) = true := by
  unfold rf_
  rw [Bool.and_eq_true, decide_eq_true_eq, decide_eq_true_eq]
  show n + 1 + 1 ≤ n + 1 + 1 ∧ 8 + (8 + 11) + 27 * (n + 1) ≤ 27 * (n + 1 + 1)
  omega
set_option maxRecDepth 100000 in
theorem cl_cf (n : Nat) : cv_ RX1 68 yX1_countFrom (zX1_cf n) 1 1 := ⟨gi_V (lwq_6 (dqc_m (dqc_m (dqc_m (dqc_m (dqa_m (dqa_m (List.mem_of_getElem? (i := 2) rfl))))))) rfl : Cond.methodLink RX1 68 yX1_countFrom ∈ lw_g) (lwq_6 (dqc_m (dqc_m (dqc_m (dqc_m (dqa_m (dqa_m (List.mem_of_getElem? (i := 4) rfl))))))) rfl : Cond.instanceMethod yX1_countFrom ∈ lw_g) (lw_sel 81 rfl : Cond.selects yX1_countFrom.cls yX1_countFrom yX1_countFrom ∈ lw_g) (lwq_1 (dqa_m (List.mem_of_getElem? (i := 0) rfl)) rfl : Cond.initialized yX1_countFrom.cls ∈ lw_g) (lwq_6 (dqc_m (dqc_m (dqc_m (dqc_m (dqa_m (dqa_m (List.mem_of_getElem? (i := 5) rfl))))))) rfl : Cond.code yX1_countFrom cX1_countFrom 8 (some .int) ∈ lw_g), ⟨by decide, by decide, by decide +kernel⟩, ⟨_, _, rfl⟩⟩
abbrev po_X1_cf (T : Zt) (d : Dr_) (l : List Int) (f : Int → Int) : Zt → Option Zv → Prop := fun T' r => ∃ x : Int, r = some (vI x) ∧ fr_ [(434, []), (435, []), (431, [])] T T' ∧ PC_ T T' d l f x
theorem bk_X1_cf_0 : ck_ fX1 (some .int) cX1_countFrom 0 [.iload 1, .aload 0, .tableswitch 0 1 13 #[], .if_icmp .lt 10, .iconst 1, .ireturn] 10 = true := qck_r (nn_ _) (by decide +kernel)
theorem bs_X1_cf_0 {P : Zt → Option Zv → Prop} (K : Int → Zl → List Zv → Zt → Prop) : sx_ K P [.iload 1, .aload 0, .tableswitch 0 1 13 #[], .if_icmp .lt 10, .iconst 1, .ireturn] 10 = x_iload 1 (x_aload 0 (x_g0 101 13 0 12 (x_if_icmp .lt 10 K (x_iconst 1 (x_ireturn P))))) := ((xe_iload 1).trans (congrArg (x_iload 1) ((xe_aload 0).trans (congrArg (x_aload 0) ((xe_g0 (kk := 101) rfl tl_1_13).trans (congrArg (x_g0 101 13 0 12) ((xe_if_icmp .lt 10).trans (congrArg (x_if_icmp .lt 10 K) ((xe_iconst 1).trans (congrArg (x_iconst 1) (xe_ireturn)))))))))))
abbrev po_X1_cf_n (T : Zt) (d : Dr_) (f : Int → Int) (n : Nat) (k : Int) : Zt → Option Zv → Prop := fun T' r => ∃ x : Int, r = some (vI x) ∧ fr_ [(434, []), (435, []), (431, [])] T T' ∧ (PC_ T T' d [] f x)
set_option maxHeartbeats 4000000 in
theorem ct_X1_cf_n {T : Zt} {d : Dr_} {f : Int → Int} {n : Nat} {k : Int} (hk : k = T 101 0 13) : Ct_ yX1_countFrom (zX1_cf n) T [vR 101 0, vI k] (po_X1_cf_n T d f n k) := by
  refine ct_of pn_1 rfl rfl (Nat.le_of_ble_eq_true rfl) (fun hT hav => ?_) (hi := fun h => absurd (show im_ 0 = true from h) (by decide))
  have hr_k : -2147483648 ≤ k ∧ k ≤ 2147483647 := hav (vI k) (List.mem_cons_of_mem _ List.mem_cons_self)
  have hz : (zX1_cf n).2.2.2.1 = some .boolean → ∀ (T' : Zt) (x : Int), po_X1_cf_n T d f n k T' (some (vI x)) → 0 ≤ x ∧ x ≤ 1 := fun h => by cases h
  show J_ (zX1_cf n) T (po_X1_cf_n T d f n k) 0 0 0 [some (vR 101 0), some (vI k), none, none, none, none, none, none] [] T
  refine j_blx (F := fX1) tb_X1 (nn_ _) bk_X1_cf_0 bs_X1_cf_0 hz (fun K hK => ?_)
  intro b1 b1b
  refine And.intro (fun c2 => ?_) (fun c2 => ?_)
  · exact absurd c2 (by omega)
  · refine (show po_X1_cf_n T d f n k T (some (vI 1)) from ?_)
    exact ⟨_, rfl, fr_0 _ _, pc_n⟩
theorem bk_X1_cf_22 : ck_ fX1 (some .int) cX1_countFrom 22 [.iload 4, .aload 0, .tableswitch 0 1 1 #[], .if_icmp .ge 159, .aload 0, .tableswitch 0 1 8 #[], .iload 2, .iaload, .iconst 4, .imul, .iload 4, .iadd, .istore 5, .iload 4, .iconst 8, .imul, .aload 0, .tableswitch 0 1 0 #[], .tableswitch 0 8 1 #[], .iload 2, .iaload, .iadd, .istore 6, .aload 0, .tableswitch 0 1 14 #[], .iload 5, .iaload, .ifCond .ne 153, .aload 0, .tableswitch 0 1 15 #[], .iload 6, .iaload, .aload 0, .tableswitch 0 1 2 #[], .if_icmp .ge 153, .aload 0, .tableswitch 0 1 14 #[], .iload 5, .iconst 1, .iastore, .aload 0, .tableswitch 0 1 15 #[], .iload 6, .dup2, .iaload, .iconst 1, .iadd, .iastore, .aload 0, .iload 1, .iconst 1, .iadd] 108 = true := qck_r (nn_ _) (by decide +kernel)
theorem bs_X1_cf_22 {P : Zt → Option Zv → Prop} (K : Int → Zl → List Zv → Zt → Prop) : sx_ K P [.iload 4, .aload 0, .tableswitch 0 1 1 #[], .if_icmp .ge 159, .aload 0, .tableswitch 0 1 8 #[], .iload 2, .iaload, .iconst 4, .imul, .iload 4, .iadd, .istore 5, .iload 4, .iconst 8, .imul, .aload 0, .tableswitch 0 1 0 #[], .tableswitch 0 8 1 #[], .iload 2, .iaload, .iadd, .istore 6, .aload 0, .tableswitch 0 1 14 #[], .iload 5, .iaload, .ifCond .ne 153, .aload 0, .tableswitch 0 1 15 #[], .iload 6, .iaload, .aload 0, .tableswitch 0 1 2 #[], .if_icmp .ge 153, .aload 0, .tableswitch 0 1 14 #[], .iload 5, .iconst 1, .iastore, .aload 0, .tableswitch 0 1 15 #[], .iload 6, .dup2, .iaload, .iconst 1, .iadd, .iastore, .aload 0, .iload 1, .iconst 1, .iadd] 108 = x_iload 4 (x_aload 0 (x_g0 101 1 0 4 (x_if_icmp .ge 159 K (x_aload 0 (x_g1 101 428 (x_iload 2 (x_iaload (x_iconst 4 (x_imul (x_iload 4 (x_iadd (x_istore 5 (x_iload 4 (x_iconst 8 (x_imul (x_aload 0 (x_g1 101 108 (x_g1 108 561 (x_iload 2 (x_iaload (x_iadd (x_istore 6 (x_aload 0 (x_g1 101 434 (x_iload 5 (x_iaload (x_ifCond .ne 153 K (x_aload 0 (x_g1 101 435 (x_iload 6 (x_iaload (x_aload 0 (x_g0 101 2 0 3 (x_if_icmp .ge 153 K (x_aload 0 (x_g1 101 434 (x_iload 5 (x_iconst 1 (x_iastore (x_aload 0 (x_g1 101 435 (x_iload 6 (x_dup2 (x_iaload (x_iconst 1 (x_iadd (x_iastore (x_aload 0 (x_iload 1 (x_iconst 1 (x_iadd (K 108)))))))))))))))))))))))))))))))))))))))))))))))))))) := ((xe_iload 4).trans (congrArg (x_iload 4) ((xe_aload 0).trans (congrArg (x_aload 0) ((xe_g0 (kk := 101) rfl tl_1_1).trans (congrArg (x_g0 101 1 0 4) ((xe_if_icmp .ge 159).trans (congrArg (x_if_icmp .ge 159 K) ((xe_aload 0).trans (congrArg (x_aload 0) ((xe_g1 (kk := 101) rfl tl_1_8).trans (congrArg (x_g1 101 428) ((xe_iload 2).trans (congrArg (x_iload 2) ((xe_iaload).trans (congrArg (x_iaload) ((xe_iconst 4).trans (congrArg (x_iconst 4) ((xe_imul).trans (congrArg (x_imul) ((xe_iload 4).trans (congrArg (x_iload 4) ((xe_iadd).trans (congrArg (x_iadd) ((xe_istore 5).trans (congrArg (x_istore 5) ((xe_iload 4).trans (congrArg (x_iload 4) ((xe_iconst 8).trans (congrArg (x_iconst 8) ((xe_imul).trans (congrArg (x_imul) ((xe_aload 0).trans (congrArg (x_aload 0) ((xe_g1 (kk := 101) rfl tl_1_0).trans (congrArg (x_g1 101 108) ((xe_g1 (kk := 108) rfl tl_8_1).trans (congrArg (x_g1 108 561) ((xe_iload 2).trans (congrArg (x_iload 2) ((xe_iaload).trans (congrArg (x_iaload) ((xe_iadd).trans (congrArg (x_iadd) ((xe_istore 6).trans (congrArg (x_istore 6) ((xe_aload 0).trans (congrArg (x_aload 0) ((xe_g1 (kk := 101) rfl tl_1_14).trans (congrArg (x_g1 101 434) ((xe_iload 5).trans (congrArg (x_iload 5) ((xe_iaload).trans (congrArg (x_iaload) ((xe_ifCond .ne 153).trans (congrArg (x_ifCond .ne 153 K) ((xe_aload 0).trans (congrArg (x_aload 0) ((xe_g1 (kk := 101) rfl tl_1_15).trans (congrArg (x_g1 101 435) ((xe_iload 6).trans (congrArg (x_iload 6) ((xe_iaload).trans (congrArg (x_iaload) ((xe_aload 0).trans (congrArg (x_aload 0) ((xe_g0 (kk := 101) rfl tl_1_2).trans (congrArg (x_g0 101 2 0 3) ((xe_if_icmp .ge 153).trans (congrArg (x_if_icmp .ge 153 K) ((xe_aload 0).trans (congrArg (x_aload 0) ((xe_g1 (kk := 101) rfl tl_1_14).trans (congrArg (x_g1 101 434) ((xe_iload 5).trans (congrArg (x_iload 5) ((xe_iconst 1).trans (congrArg (x_iconst 1) ((xe_iastore).trans (congrArg (x_iastore) ((xe_aload 0).trans (congrArg (x_aload 0) ((xe_g1 (kk := 101) rfl tl_1_15).trans (congrArg (x_g1 101 435) ((xe_iload 6).trans (congrArg (x_iload 6) ((xe_dup2).trans (congrArg (x_dup2) ((xe_iaload).trans (congrArg (x_iaload) ((xe_iconst 1).trans (congrArg (x_iconst 1) ((xe_iadd).trans (congrArg (x_iadd) ((xe_iastore).trans (congrArg (x_iastore) ((xe_aload 0).trans (congrArg (x_aload 0) ((xe_iload 1).trans (congrArg (x_iload 1) ((xe_iconst 1).trans (congrArg (x_iconst 1) ((xe_iadd).trans (congrArg (x_iadd) xe_nil))))))))))))))))))))))))))))))))))))))))))))))))))))))))))))))))))))))))))))))))))))))))))))))))))))))))
theorem bk_X1_cf_159 : ck_ fX1 (some .int) cX1_countFrom 159 [.iload 3, .ireturn] 161 = true := qck_r (nn_ _) (by decide +kernel)
theorem bs_X1_cf_159 {P : Zt → Option Zv → Prop} (K : Int → Zl → List Zv → Zt → Prop) : sx_ K P [.iload 3, .ireturn] 161 = x_iload 3 (x_ireturn P) := ((xe_iload 3).trans (congrArg (x_iload 3) (xe_ireturn)))
theorem bk_X1_cf_153 : ck_ fX1 (some .int) cX1_countFrom 153 [.iinc 4 1, .goto 22] 159 = true := qck_r (nn_ _) (by decide +kernel)
theorem bs_X1_cf_153 {P : Zt → Option Zv → Prop} (K : Int → Zl → List Zv → Zt → Prop) : sx_ K P [.iinc 4 1, .goto 22] 159 = x_iinc 4 1 (x_goto 22 K) := ((xe_iinc 4 1).trans (congrArg (x_iinc 4 1) (xe_goto 22)))
theorem bk_X1_cf_111 : ck_ fX1 (some .int) cX1_countFrom 111 [.istore 7, .aload 0, .tableswitch 0 1 11 #[], .iload 2, .iconst 4, .imul, .iload 4, .iadd, .dup2, .iaload, .iload 7, .fadd, .iastore, .iload 3, .iload 7, .iadd, .istore 3, .aload 0, .tableswitch 0 1 15 #[], .iload 6, .dup2, .iaload, .iconst 1, .isub, .iastore, .aload 0, .tableswitch 0 1 14 #[], .iload 5, .iconst 0, .iastore, .iinc 4 1, .goto 22] 159 = true := qck_r (nn_ _) (by decide +kernel)
theorem bs_X1_cf_111 {P : Zt → Option Zv → Prop} (K : Int → Zl → List Zv → Zt → Prop) : sx_ K P [.istore 7, .aload 0, .tableswitch 0 1 11 #[], .iload 2, .iconst 4, .imul, .iload 4, .iadd, .dup2, .iaload, .iload 7, .fadd, .iastore, .iload 3, .iload 7, .iadd, .istore 3, .aload 0, .tableswitch 0 1 15 #[], .iload 6, .dup2, .iaload, .iconst 1, .isub, .iastore, .aload 0, .tableswitch 0 1 14 #[], .iload 5, .iconst 0, .iastore, .iinc 4 1, .goto 22] 159 = x_istore 7 (x_aload 0 (x_g1 101 431 (x_iload 2 (x_iconst 4 (x_imul (x_iload 4 (x_iadd (x_dup2 (x_iaload (x_iload 7 (x_fadd (x_iastore (x_iload 3 (x_iload 7 (x_iadd (x_istore 3 (x_aload 0 (x_g1 101 435 (x_iload 6 (x_dup2 (x_iaload (x_iconst 1 (x_isub (x_iastore (x_aload 0 (x_g1 101 434 (x_iload 5 (x_iconst 0 (x_iastore (x_iinc 4 1 (x_goto 22 K))))))))))))))))))))))))))))))) := ((xe_istore 7).trans (congrArg (x_istore 7) ((xe_aload 0).trans (congrArg (x_aload 0) ((xe_g1 (kk := 101) rfl tl_1_11).trans (congrArg (x_g1 101 431) ((xe_iload 2).trans (congrArg (x_iload 2) ((xe_iconst 4).trans (congrArg (x_iconst 4) ((xe_imul).trans (congrArg (x_imul) ((xe_iload 4).trans (congrArg (x_iload 4) ((xe_iadd).trans (congrArg (x_iadd) ((xe_dup2).trans (congrArg (x_dup2) ((xe_iaload).trans (congrArg (x_iaload) ((xe_iload 7).trans (congrArg (x_iload 7) ((xe_fadd).trans (congrArg (x_fadd) ((xe_iastore).trans (congrArg (x_iastore) ((xe_iload 3).trans (congrArg (x_iload 3) ((xe_iload 7).trans (congrArg (x_iload 7) ((xe_iadd).trans (congrArg (x_iadd) ((xe_istore 3).trans (congrArg (x_istore 3) ((xe_aload 0).trans (congrArg (x_aload 0) ((xe_g1 (kk := 101) rfl tl_1_15).trans (congrArg (x_g1 101 435) ((xe_iload 6).trans (congrArg (x_iload 6) ((xe_dup2).trans (congrArg (x_dup2) ((xe_iaload).trans (congrArg (x_iaload) ((xe_iconst 1).trans (congrArg (x_iconst 1) ((xe_isub).trans (congrArg (x_isub) ((xe_iastore).trans (congrArg (x_iastore) ((xe_aload 0).trans (congrArg (x_aload 0) ((xe_g1 (kk := 101) rfl tl_1_14).trans (congrArg (x_g1 101 434) ((xe_iload 5).trans (congrArg (x_iload 5) ((xe_iconst 0).trans (congrArg (x_iconst 0) ((xe_iastore).trans (congrArg (x_iastore) ((xe_iinc 4 1).trans (congrArg (x_iinc 4 1) (xe_goto 22)))))))))))))))))))))))))))))))))))))))))))))))))))))))))))))))
theorem bk_X1_cf_10 : ck_ fX1 (some .int) cX1_countFrom 10 [.aload 0, .tableswitch 0 1 12 #[], .iload 1, .iaload, .istore 2, .iconst 0, .istore 3, .iconst 0, .istore 4] 22 = true := qck_r (nn_ _) (by decide +kernel)
theorem bs_X1_cf_10 {P : Zt → Option Zv → Prop} (K : Int → Zl → List Zv → Zt → Prop) : sx_ K P [.aload 0, .tableswitch 0 1 12 #[], .iload 1, .iaload, .istore 2, .iconst 0, .istore 3, .iconst 0, .istore 4] 22 = x_aload 0 (x_g1 101 432 (x_iload 1 (x_iaload (x_istore 2 (x_iconst 0 (x_istore 3 (x_iconst 0 (x_istore 4 (K 22))))))))) := ((xe_aload 0).trans (congrArg (x_aload 0) ((xe_g1 (kk := 101) rfl tl_1_12).trans (congrArg (x_g1 101 432) ((xe_iload 1).trans (congrArg (x_iload 1) ((xe_iaload).trans (congrArg (x_iaload) ((xe_istore 2).trans (congrArg (x_istore 2) ((xe_iconst 0).trans (congrArg (x_iconst 0) ((xe_istore 3).trans (congrArg (x_istore 3) ((xe_iconst 0).trans (congrArg (x_iconst 0) ((xe_istore 4).trans (congrArg (x_istore 4) xe_nil))))))))))))))))))
abbrev po_X1_cf_s (T : Zt) (d : Dr_) (l : List Int) (f : Int → Int) (n : Nat) (k : Int) : Zt → Option Zv → Prop := fun T' r => ∃ x : Int, r = some (vI x) ∧ fr_ [(434, []), (435, []), (431, [])] T T' ∧ (PC_ T T' d ((T 432 0 k) :: l) f x)
set_option maxHeartbeats 4000000 in
theorem ct_X1_cf_s {T : Zt} {d : Dr_} {l : List Int} {f : Int → Int} {n : Nat} {k : Int} (IH : ∀ (T1 : Zt) (f1 : Int → Int) (k1 : Int), d = dh_ T1 → WL_ T1 l k1 → OCW_ T1 d.E d.C f1 → FZ_ T1 f1 l → 0 ≤ k1 → Ct_ yX1_countFrom (zX1_cf n) T1 [vR 101 0, vI k1] (po_X1_cf T1 d l f1)) (hd : d = dh_ T) (hw : WL_ T l (k + 1)) (ho : OCW_ T d.E d.C f) (hz9 : FZ_ T f ((T 432 0 k) :: l)) (hk : 0 ≤ k) : Ct_ yX1_countFrom (zX1_cf (n + 1)) T [vR 101 0, vI k] (po_X1_cf_s T d l f n k) := by
  refine ct_of pn_1 rfl rfl (Nat.le_of_ble_eq_true rfl) (fun hT hav => ?_) (hi := fun h => absurd (show im_ 0 = true from h) (by decide))
  have hr_k : -2147483648 ≤ k ∧ k ≤ 2147483647 := hav (vI k) (by simp)
  have hz : (zX1_cf (n + 1)).2.2.2.1 = some .boolean → ∀ (T' : Zt) (x : Int), po_X1_cf_s T d l f n k T' (some (vI x)) → 0 ≤ x ∧ x ≤ 1 := fun h => by cases h
  have hwc : 0 ≤ T 101 0 13 ∧ T 101 0 13 ≤ 12 := bd_f hT 101 13 tl_1_13 0
  have hgr : 0 ≤ T 101 0 1 ∧ T 101 0 1 ≤ 4 := bd_f hT 101 1 tl_1_1 0
  have hwk := wl_c hw
  have hy := hz9.2 (T 432 0 k) List.mem_cons_self
  have hN := fz_b (fx := -1) (gp := -1) hd hz9
  show J_ (zX1_cf (n + 1)) T (po_X1_cf_s T d l f n k) 0 0 0 [some (vR 101 0), some (vI k), none, none, none, none, none, none] [] T
  have c_22 : ∀ (nn : Nat) (v : Int) (g : Int) (T1 : Zt), ((4 - g).toNat) ≤ nn → (fr_ [(434, []), (435, []), (431, [])] T T1) → (0 ≤ v ∧ v ≤ 13824) → (0 ≤ g ∧ g ≤ T 101 0 1) → (∀ j, T1 434 0 j = T 434 0 j) → (∀ j, T1 435 0 j = T 435 0 j) → (CI_ T T1 d (T 432 0 k) l f v g) → J_ (zX1_cf (n + 1)) T (po_X1_cf_s T d l f n k) 0 0 22 [some (vR 101 0), some (vI k), some (vI (T 432 0 k)), some (vI v), some (vI g), none, none, none] [] T1 := by
    intro nn
    induction nn using Nat.strongRecOn with
    | _ nn ih_22 =>
      intro v g T1 hm_22 hf_22 i2 i1 ta1 cm1 ci1
      replace hm_22 := fun (_ : Unit) => hm_22
      have hv1 := ci1.1
      refine j_blx (F := fX1) tb_X1 (nn_ _) bk_X1_cf_22 bs_X1_cf_22 hz (fun K hK => ?_)
      intro b1 b1b
      have e2 : T1 101 0 1 = T 101 0 1 := hf_22 101 0 1 rfl
      rw [e2] at b1 b1b ⊢
      refine And.intro (fun c3 => ?_) (fun c3 => ?_)
      · refine hK 159 _ [] T1 ?_
        refine j_blx (F := fX1) tb_X1 (nn_ _) bk_X1_cf_159 bs_X1_cf_159 hz (fun K hK => ?_)
        refine (show po_X1_cf_s T d l f n k T1 (some (vI v)) from ?_)
        exact ⟨_, rfl, hf_22, ci_e ci1 (by rw [hd]; show T 101 0 1 ≤ g; omega) ta1 cm1⟩
      · have hms := oc_t (x := (T 432 0 k)) (g := g) hd ho hy.1 hy.2.1 hy.2.2.1 hy.2.2.2 ⟨by omega, by omega⟩
        have ht1 := ta1 (T 428 0 (T 432 0 k) * 4 + g)
        have hc1 := cm1 (g * 8 + T 561 0 (T 432 0 k))
        have hcb : T 435 0 (g * 8 + T 561 0 (T 432 0 k)) = cmk_ d.E d.C f g (T 561 0 (T 432 0 k)) 12 := ho.2 g (T 561 0 (T 432 0 k)) (by omega) (by omega) hy.2.2.2.1 (by omega)
        have hcc := cmk_b d.E d.C f g (T 561 0 (T 432 0 k)) 12
        refine ix_i (by omega) ?_
        intro b4 b4b
        have e5 : T1 428 0 (T 432 0 k) = T 428 0 (T 432 0 k) := hf_22 428 0 (T 432 0 k) rfl
        rw [e5] at b4 b4b ⊢
        refine rg_i (by omega) ?_
        refine rg_i (by omega) ?_
        refine rg_i (by omega) ?_
        refine ix_i (by omega) ?_
        intro b6 b6b
        have e7 : T1 561 0 (T 432 0 k) = T 561 0 (T 432 0 k) := hf_22 561 0 (T 432 0 k) rfl
        rw [e7] at b6 b6b ⊢
        refine rg_i (by omega) ?_
        refine ix_i (by omega) ?_
        intro b8 b8b
        refine And.intro (fun c9 => ?_) (fun c9 => ?_)
        · refine hK 153 [some (vR 101 0), some (vI k), some (vI (T 432 0 k)), some (vI v), some (vI g), some (vI (((T 428 0 (T 432 0 k)) * 4) + g)), some (vI ((g * 8) + (T 561 0 (T 432 0 k)))), none] [] T1 ?_
          refine j_blx (F := fX1) tb_X1 (nn_ _) bk_X1_cf_153 bs_X1_cf_153 hz (fun K hK => ?_)
          refine rg_i (by omega) ?_
          refine hK 22 [some (vR 101 0), some (vI k), some (vI (T 432 0 k)), some (vI v), some (vI (g + 1)), some (vI (((T 428 0 (T 432 0 k)) * 4) + g)), some (vI ((g * 8) + (T 561 0 (T 432 0 k)))), none] [] T1 ?_
          refine j_drop [some (vR 101 0), some (vI k), some (vI (T 432 0 k)), some (vI v), some (vI (g + 1)), none, none, none] (fun k v hk => ?_) rfl ?_
          · match k, hk with
            | 0, hk => exact hk
            | 1, hk => exact hk
            | 2, hk => exact hk
            | 3, hk => exact hk
            | 4, hk => exact hk
            | 5, hk => cases hk
            | 6, hk => cases hk
            | 7, hk => cases hk
            | k + 8, hk => cases hk
          refine ih_22 _ ?_ v (g + 1) T1 (Nat.le_refl _) ?_ ?_ ?_ ?_ ?_ ?_
          · have hm_22 := hm_22 (); omega
          · exact fr_t (fr_0 _ _) (fr_s hf_22 rfl)
          · omega
          · omega
          · exact ta1
          · exact cm1
          · exact ci_n ci1 (fun z9 => by have z := hms.mpr z9; omega)
        · refine ix_i (by omega) ?_
          intro b10 b10b
          intro b11 b11b
          have e12 : T1 101 0 2 = T 101 0 2 := hf_22 101 0 2 rfl
          rw [e12] at b11 b11b ⊢
          refine And.intro (fun c13 => ?_) (fun c13 => ?_)
          · refine hK 153 [some (vR 101 0), some (vI k), some (vI (T 432 0 k)), some (vI v), some (vI g), some (vI (((T 428 0 (T 432 0 k)) * 4) + g)), some (vI ((g * 8) + (T 561 0 (T 432 0 k)))), none] [] T1 ?_
            refine j_blx (F := fX1) tb_X1 (nn_ _) bk_X1_cf_153 bs_X1_cf_153 hz (fun K hK => ?_)
            refine rg_i (by omega) ?_
            refine hK 22 [some (vR 101 0), some (vI k), some (vI (T 432 0 k)), some (vI v), some (vI (g + 1)), some (vI (((T 428 0 (T 432 0 k)) * 4) + g)), some (vI ((g * 8) + (T 561 0 (T 432 0 k)))), none] [] T1 ?_
            refine j_drop [some (vR 101 0), some (vI k), some (vI (T 432 0 k)), some (vI v), some (vI (g + 1)), none, none, none] (fun k v hk => ?_) rfl ?_
            · match k, hk with
              | 0, hk => exact hk
              | 1, hk => exact hk
              | 2, hk => exact hk
              | 3, hk => exact hk
              | 4, hk => exact hk
              | 5, hk => cases hk
              | 6, hk => cases hk
              | 7, hk => cases hk
              | k + 8, hk => cases hk
            refine ih_22 _ ?_ v (g + 1) T1 (Nat.le_refl _) ?_ ?_ ?_ ?_ ?_ ?_
            · have hm_22 := hm_22 (); omega
            · exact fr_t (fr_0 _ _) (fr_s hf_22 rfl)
            · omega
            · omega
            · exact ta1
            · exact cm1
            · exact ci_n ci1 (fun z9 => by have z := hms.mpr z9; omega)
          · refine iy_i (by omega) (by omega) ?_
            refine x_nm (fun U14 hU14 => ?_)
            have e15 := up_f hU14
            refine ix_i (by omega) ?_
            intro b16 b16b
            have e17 : U14 435 0 ((g * 8) + (T 561 0 (T 432 0 k))) = T1 435 0 ((g * 8) + (T 561 0 (T 432 0 k))) := up_k hU14 (by exact Nat.ne_of_beq_eq_false rfl) 0 ((g * 8) + (T 561 0 (T 432 0 k)))
            rw [e17] at b16 b16b ⊢
            refine rg_i (by omega) ?_
            refine iy_i (by omega) (by omega) ?_
            refine x_nm (fun U18 hU18 => ?_)
            have e19 := up_f hU18
            refine rg_i (by omega) ?_
            refine hK 108 [some (vR 101 0), some (vI k), some (vI (T 432 0 k)), some (vI v), some (vI g), some (vI (((T 428 0 (T 432 0 k)) * 4) + g)), some (vI ((g * 8) + (T 561 0 (T 432 0 k)))), none] [vI (k + 1), vR 101 0] U18 ?_
            have fq := (show fr_ [(434, []), (435, []), (431, [])] T U18 from fr_u (fr_u (fr_t (fr_0 _ _) (fr_s hf_22 rfl)) hU14 rfl) hU18 rfl)
            have okm : ms_ d f (T 432 0 k) g := hms.mp ⟨by omega, by omega⟩
            have hoc : OCW_ U18 d.E d.C (fu_ f (T 432 0 k) g) := oc_u (T := T1) (oc_e ho ta1 cm1) ⟨hy.1.1, hy.1.2⟩ hy.2.1 (by rw [hd]; exact hy.2.2.1) (by rw [hd]; exact ⟨hy.2.2.2.1, by have := hy.2.2.2.2; show T 561 0 (T 432 0 k) < 8; omega⟩) ⟨by omega, by omega⟩ (by rw [hd]; show U18 434 0 (T 428 0 (T 432 0 k) * 4 + g) ≠ 0; rw [up_k hU18 (by exact Nat.ne_of_beq_eq_false rfl), up_f hU14]; decide) (by rw [hd]; exact fun j hj => (up_k hU18 (by exact Nat.ne_of_beq_eq_false rfl) 0 j).trans (up_g hU14 (fun q => hj q.2.2))) (by rw [hd]; show U18 435 0 (g * 8 + T 561 0 (T 432 0 k)) = T1 435 0 (g * 8 + T 561 0 (T 432 0 k)) + 1; exact up_f hU18) (by rw [hd]; exact fun j hj => (up_g hU18 (fun q => hj q.2.2)).trans (up_k hU14 (by exact Nat.ne_of_beq_eq_false rfl) 0 j))
            have hwl2 := wl_e (fun j => fq 432 0 j rfl) (fq 101 0 13 rfl) hw
            have hfz2 : FZ_ U18 (fu_ f (T 432 0 k) g) l := fz_u hz9 (fun j => fq 428 0 j rfl) (fun j => fq 561 0 j rfl)
            have hdq2 : d = dh_ U18 := dq_f hd fq ⟨fun _ => rfl, fun _ => rfl, rfl, rfl⟩
            refine j_callV (pc := 108) (y := yX1_countFrom) (Yc := zX1_cf n) (rest := []) [vI (k + 1)] (IH U18 (fu_ f (T 432 0 k) g) (k + 1) hdq2 hwl2 hoc hfz2 (by omega)) (cl_cf n) (by show decode cX1_countFrom (Int.toNat 108) = _; decide +kernel) (by decide) rfl (rf_cf n) (Nat.le_of_ble_eq_true rfl) (Nat.le_refl _) (Nat.le_refl _) rfl ?_
            rintro U21 _ ⟨x20, rfl, fU21, qU21⟩
            have hb9 := fz_b (fx := -1) (gp := -1) hdq2 hfz2
            have hx9 : 0 ≤ x20 ∧ x20 ≤ 13824 := by have := qU21.1; omega
            have hvw : v + x20 ≤ 13824 := by
              have s0 := qs_g1 (C := ok_ d (-1) (-1) f (T 432 0 k)) (V := fun u => nw_ d (-1) (-1) l (fu_ f (T 432 0 k) u)) (g := g) (by omega) (by omega) ⟨by rw [hd]; show g < T 101 0 1; omega, fun z => by omega, okm⟩
              have s1 := ci1.1
              rw [s0] at s1
              have s2 := qU21.1
              have s3 := hN
              omega
            show J_ (zX1_cf (n + 1)) T (po_X1_cf_s T d l f n k) 0 0 111 _ [vI x20] U21
            refine j_blx (F := fX1) tb_X1 (nn_ _) bk_X1_cf_111 bs_X1_cf_111 hz (fun K hK => ?_)
            refine rg_i (by omega) ?_
            refine rg_i (by omega) ?_
            refine ix_i (by omega) ?_
            intro b22 b22b
            intro w23 w23b
            refine iy_i (by omega) (by omega) ?_
            refine x_nm (fun U24 hU24 => ?_)
            have e25 := up_f hU24
            refine rg_i (by omega) ?_
            refine ix_i (by omega) ?_
            intro b26 b26b
            have e27 : U24 435 0 ((g * 8) + (T 561 0 (T 432 0 k))) = U21 435 0 ((g * 8) + (T 561 0 (T 432 0 k))) := up_k hU24 (by exact Nat.ne_of_beq_eq_false rfl) 0 ((g * 8) + (T 561 0 (T 432 0 k)))
            rw [e27] at b26 b26b ⊢
            have y5 := qU21.2.2.1 (g * 8 + T 561 0 (T 432 0 k))
            have y6 := up_f hU18
            have y7 : U24 435 0 (g * 8 + T 561 0 (T 432 0 k)) = U21 435 0 (g * 8 + T 561 0 (T 432 0 k)) := up_k hU24 (by exact Nat.ne_of_beq_eq_false rfl) 0 _
            refine rg_i (by omega) ?_
            refine iy_i (by omega) (by omega) ?_
            refine x_nm (fun U28 hU28 => ?_)
            have e29 := up_f hU28
            refine iy_i (by omega) (by omega) ?_
            refine x_nm (fun U30 hU30 => ?_)
            have e31 := up_f hU30
            refine rg_i (by omega) ?_
            refine hK 22 [some (vR 101 0), some (vI k), some (vI (T 432 0 k)), some (vI (v + x20)), some (vI (g + 1)), some (vI (((T 428 0 (T 432 0 k)) * 4) + g)), some (vI ((g * 8) + (T 561 0 (T 432 0 k)))), some (vI x20)] [] U30 ?_
            refine j_drop [some (vR 101 0), some (vI k), some (vI (T 432 0 k)), some (vI (v + x20)), some (vI (g + 1)), none, none, none] (fun k v hk => ?_) rfl ?_
            · match k, hk with
              | 0, hk => exact hk
              | 1, hk => exact hk
              | 2, hk => exact hk
              | 3, hk => exact hk
              | 4, hk => exact hk
              | 5, hk => cases hk
              | 6, hk => cases hk
              | 7, hk => cases hk
              | k + 8, hk => cases hk
            refine ih_22 _ ?_ (v + x20) (g + 1) U30 (Nat.le_refl _) ?_ ?_ ?_ ?_ ?_ ?_
            · have hm_22 := hm_22 (); omega
            · exact fr_u (fr_u (fr_u (fr_t (fr_u (fr_u (fr_t (fr_0 _ _) (fr_s hf_22 rfl)) hU14 rfl) hU18 rfl) (fr_s fU21 rfl)) hU24 rfl) hU28 rfl) hU30 rfl
            · omega
            · omega
            · intro j
              by_cases z : j = T 428 0 (T 432 0 k) * 4 + g
              · rw [z, up_f hU30]; omega
              · rw [up_g hU30 (fun q => z q.2.2), up_k hU28 (by exact Nat.ne_of_beq_eq_false rfl), up_k hU24 (by exact Nat.ne_of_beq_eq_false rfl), qU21.2.1, up_k hU18 (by exact Nat.ne_of_beq_eq_false rfl), up_g hU14 (fun q => z q.2.2)]; exact ta1 j
            · intro j
              by_cases z : j = g * 8 + T 561 0 (T 432 0 k)
              · rw [z, up_k hU30 (by exact Nat.ne_of_beq_eq_false rfl), up_f hU28]; have y1 := qU21.2.2.1 (g * 8 + T 561 0 (T 432 0 k)); have y2 := up_f hU18; have y3 := cm1 (g * 8 + T 561 0 (T 432 0 k)); omega
              · rw [up_k hU30 (by exact Nat.ne_of_beq_eq_false rfl), up_g hU28 (fun q => z q.2.2), up_k hU24 (by exact Nat.ne_of_beq_eq_false rfl), qU21.2.2.1, up_g hU18 (fun q => z q.2.2), up_k hU14 (by exact Nat.ne_of_beq_eq_false rfl)]; exact cm1 j
            · exact ci_y (T1 := T1) (T2 := U18) (T3 := U21) ci1 hz9.1 (fun z hz => (hz9.2 z hz).1.1) ⟨by omega, by omega⟩ (by rw [hd]; show g < T 101 0 1; omega) okm (fun j => (up_k hU18 (by exact Nat.ne_of_beq_eq_false rfl) 0 j).trans (up_k hU14 (by exact Nat.ne_of_beq_eq_false rfl) 0 j)) qU21 ((up_k hU30 (by exact Nat.ne_of_beq_eq_false rfl) 0 _).trans ((up_k hU28 (by exact Nat.ne_of_beq_eq_false rfl) 0 _).trans (up_f hU24))) (fun j hj => (up_k hU30 (by exact Nat.ne_of_beq_eq_false rfl) 0 j).trans ((up_k hU28 (by exact Nat.ne_of_beq_eq_false rfl) 0 j).trans (up_g hU24 (fun q => hj q.2.2))))
  refine j_blx (F := fX1) tb_X1 (nn_ _) bk_X1_cf_0 bs_X1_cf_0 hz (fun K hK => ?_)
  intro b32 b32b
  refine And.intro (fun c33 => ?_) (fun c33 => ?_)
  · refine hK 10 _ [] T ?_
    refine j_blx (F := fX1) tb_X1 (nn_ _) bk_X1_cf_10 bs_X1_cf_10 hz (fun K hK => ?_)
    refine ix_i (by omega) ?_
    intro b34 b34b
    refine hK 22 [some (vR 101 0), some (vI k), some (vI (T 432 0 k)), some (vI 0), some (vI 0), none, none, none] [] T ?_
    refine c_22 _ 0 0 T (Nat.le_refl _) ?_ ?_ ?_ ?_ ?_ ?_
    · exact fr_0 _ _
    · omega
    · omega
    · exact fun _ => rfl
    · exact fun _ => rfl
    · exact ci_0 (fun z hz => (hz9.2 z hz).1.1) (fun j hj => bd_a hT 431 (by decide +kernel : ta_ 431 = some (1, some 48, -2147483648, 2147483647)) 0 hj)
  · exact absurd c33 (by omega)
theorem ct_cf {d : Dr_} : ∀ (l : List Int) (n : Nat), l.length ≤ n → ∀ (T : Zt) (f : Int → Int) (k : Int), d = dh_ T → WL_ T l k → OCW_ T d.E d.C f → FZ_ T f l → 0 ≤ k → Ct_ yX1_countFrom (zX1_cf n) T [vR 101 0, vI k] (po_X1_cf T d l f)
  | [], n, _, T, f, k, _, hw, _, _, _ => ct_X1_cf_n (T := T) (d := d) (f := f) (n := n) (k := k) hw
  | y :: l, 0, h, _, _, _, _, _, _, _, _ => by rw [List.length_cons] at h; omega
  | y :: l, n + 1, h, T, f, k, hd, hw, ho, hz, hk => by
    obtain ⟨e, hw⟩ := hw
    subst e
    exact ct_X1_cf_s (T := T) (d := d) (l := l) (f := f) (n := n) (k := k) (fun T1 f1 k1 a b c e g => ct_cf l n (by rw [List.length_cons] at h; omega) T1 f1 k1 a b c e g) hd hw ho hz hk
