abbrev cX11_club : ByteArray := prog_13_method_21_code
def yX11_club : MethodName := ⟨RX11, "club", "(II)I"⟩
def zX11_club : Zm := (RX11, cX11_club, 3, (some .int), { frames := 1, cells := 0, slots := 0, locals := 22 })
theorem bk_X11_club_0 : ck_ fX11 (some .int) cX11_club 0 [.iload 1, .iconst 0, .iconst 11] 4 = true := qck_r (nn_ _) (by decide +kernel)
theorem bs_X11_club_0 {P : Zt → Option Zv → Prop} (K : Int → Zl → List Zv → Zt → Prop) : sx_ K P [.iload 1, .iconst 0, .iconst 11] 4 = x_iload 1 (x_iconst 0 (x_iconst 11 (K 4))) := ((xe_iload 1).trans (congrArg (x_iload 1) ((xe_iconst 0).trans (congrArg (x_iconst 0) ((xe_iconst 11).trans (congrArg (x_iconst 11) xe_nil))))))
theorem bk_X11_club_7 : ck_ fX11 (some .int) cX11_club 7 [.ifCond .eq 20, .iload 2, .iconst 0, .iconst 7] 14 = true := qck_r (nn_ _) (by decide +kernel)
theorem bs_X11_club_7 {P : Zt → Option Zv → Prop} (K : Int → Zl → List Zv → Zt → Prop) : sx_ K P [.ifCond .eq 20, .iload 2, .iconst 0, .iconst 7] 14 = x_ifCond .eq 20 K (x_iload 2 (x_iconst 0 (x_iconst 7 (K 14)))) := ((xe_ifCond .eq 20).trans (congrArg (x_ifCond .eq 20 K) ((xe_iload 2).trans (congrArg (x_iload 2) ((xe_iconst 0).trans (congrArg (x_iconst 0) ((xe_iconst 7).trans (congrArg (x_iconst 7) xe_nil))))))))
theorem bk_X11_club_20 : ck_ fX11 (some .int) cX11_club 20 [.iconst (-3), .ireturn] 23 = true := qck_r (nn_ _) (by decide +kernel)
theorem bs_X11_club_20 {P : Zt → Option Zv → Prop} (K : Int → Zl → List Zv → Zt → Prop) : sx_ K P [.iconst (-3), .ireturn] 23 = x_iconst (-3) (x_ireturn P) := ((xe_iconst (-3)).trans (congrArg (x_iconst (-3)) (xe_ireturn)))
theorem bk_X11_club_17 : ck_ fX11 (some .int) cX11_club 17 [.ifCond .ne 23, .iconst (-3), .ireturn] 23 = true := qck_r (nn_ _) (by decide +kernel)
theorem bs_X11_club_17 {P : Zt → Option Zv → Prop} (K : Int → Zl → List Zv → Zt → Prop) : sx_ K P [.ifCond .ne 23, .iconst (-3), .ireturn] 23 = x_ifCond .ne 23 K (x_iconst (-3) (x_ireturn P)) := ((xe_ifCond .ne 23).trans (congrArg (x_ifCond .ne 23 K) ((xe_iconst (-3)).trans (congrArg (x_iconst (-3)) (xe_ireturn)))))
theorem bk_X11_club_23 : ck_ fX11 (some .int) cX11_club 23 [.aload 0, .tableswitch 0 11 12 #[], .iconst 12, .if_icmp .ne 35, .iconst (-5), .ireturn] 35 = true := qck_r (nn_ _) (by decide +kernel)
theorem bs_X11_club_23 {P : Zt → Option Zv → Prop} (K : Int → Zl → List Zv → Zt → Prop) : sx_ K P [.aload 0, .tableswitch 0 11 12 #[], .iconst 12, .if_icmp .ne 35, .iconst (-5), .ireturn] 35 = x_aload 0 (x_g0 111 12 0 12 (x_iconst 12 (x_if_icmp .ne 35 K (x_iconst (-5) (x_ireturn P))))) := ((xe_aload 0).trans (congrArg (x_aload 0) ((xe_g0 (kk := 111) rfl tl_11_12).trans (congrArg (x_g0 111 12 0 12) ((xe_iconst 12).trans (congrArg (x_iconst 12) ((xe_if_icmp .ne 35).trans (congrArg (x_if_icmp .ne 35 K) ((xe_iconst (-5)).trans (congrArg (x_iconst (-5)) (xe_ireturn)))))))))))
theorem bk_X11_club_35 : ck_ fX11 (some .int) cX11_club 35 [.aload 0, .tableswitch 0 11 13 #[], .aload 0, .tableswitch 0 11 12 #[], .iload 1, .iastore, .aload 0, .tableswitch 0 11 14 #[], .aload 0, .tableswitch 0 11 12 #[], .iload 2, .iastore, .aload 0, .dup, .tableswitch 0 11 12 #[], .iconst 1, .iadd, .tableswitch 1 11 12 #[], .aload 0, .tableswitch 0 11 12 #[], .iconst 1, .isub, .ireturn] 72 = true := qck_r (nn_ _) (by decide +kernel)
theorem bs_X11_club_35 {P : Zt → Option Zv → Prop} (K : Int → Zl → List Zv → Zt → Prop) : sx_ K P [.aload 0, .tableswitch 0 11 13 #[], .aload 0, .tableswitch 0 11 12 #[], .iload 1, .iastore, .aload 0, .tableswitch 0 11 14 #[], .aload 0, .tableswitch 0 11 12 #[], .iload 2, .iastore, .aload 0, .dup, .tableswitch 0 11 12 #[], .iconst 1, .iadd, .tableswitch 1 11 12 #[], .aload 0, .tableswitch 0 11 12 #[], .iconst 1, .isub, .ireturn] 72 = x_aload 0 (x_g1 111 213 (x_aload 0 (x_g0 111 12 0 12 (x_iload 1 (x_iastore (x_aload 0 (x_g1 111 214 (x_aload 0 (x_g0 111 12 0 12 (x_iload 2 (x_iastore (x_aload 0 (x_dup (x_g0 111 12 0 12 (x_iconst 1 (x_iadd (x_p 111 12 0 12 (x_aload 0 (x_g0 111 12 0 12 (x_iconst 1 (x_isub (x_ireturn P)))))))))))))))))))))) := ((xe_aload 0).trans (congrArg (x_aload 0) ((xe_g1 (kk := 111) rfl tl_11_13).trans (congrArg (x_g1 111 213) ((xe_aload 0).trans (congrArg (x_aload 0) ((xe_g0 (kk := 111) rfl tl_11_12).trans (congrArg (x_g0 111 12 0 12) ((xe_iload 1).trans (congrArg (x_iload 1) ((xe_iastore).trans (congrArg (x_iastore) ((xe_aload 0).trans (congrArg (x_aload 0) ((xe_g1 (kk := 111) rfl tl_11_14).trans (congrArg (x_g1 111 214) ((xe_aload 0).trans (congrArg (x_aload 0) ((xe_g0 (kk := 111) rfl tl_11_12).trans (congrArg (x_g0 111 12 0 12) ((xe_iload 2).trans (congrArg (x_iload 2) ((xe_iastore).trans (congrArg (x_iastore) ((xe_aload 0).trans (congrArg (x_aload 0) ((xe_dup).trans (congrArg (x_dup) ((xe_g0 (kk := 111) rfl tl_11_12).trans (congrArg (x_g0 111 12 0 12) ((xe_iconst 1).trans (congrArg (x_iconst 1) ((xe_iadd).trans (congrArg (x_iadd) ((xe_p (kk := 111) rfl tl_11_12).trans (congrArg (x_p 111 12 0 12) ((xe_aload 0).trans (congrArg (x_aload 0) ((xe_g0 (kk := 111) rfl tl_11_12).trans (congrArg (x_g0 111 12 0 12) ((xe_iconst 1).trans (congrArg (x_iconst 1) ((xe_isub).trans (congrArg (x_isub) (xe_ireturn)))))))))))))))))))))))))))))))))))))))))))))
abbrev po_X11_club (T : Zt) (s c : Int) : Zt → Option Zv → Prop := fun T' r => ∃ x : Int, r = some (vI x) ∧ fr_ [(111, [12]), (213, []), (214, [])] T T' ∧ ((x = -3 ∧ ¬ (0 ≤ s ∧ s ≤ 11 ∧ 0 ≤ c ∧ c ≤ 7) ∧ T' 111 0 12 = T 111 0 12) ∨ ((0 ≤ s ∧ s ≤ 11 ∧ 0 ≤ c ∧ c ≤ 7) ∧ T 111 0 12 = 12 ∧ x = -5 ∧ T' 111 0 12 = T 111 0 12) ∨ ((0 ≤ s ∧ s ≤ 11 ∧ 0 ≤ c ∧ c ≤ 7) ∧ T 111 0 12 < 12 ∧ x = T 111 0 12 ∧ T' 111 0 12 = T 111 0 12 + 1))
set_option maxHeartbeats 4000000 in
theorem ct_X11_club {T : Zt} {s c : Int} : Ct_ yX11_club zX11_club T [vR 111 0, vI s, vI c] (po_X11_club T s c) := by
  refine ct_of pn_11 rfl rfl (Nat.le_of_ble_eq_true rfl) (fun hT hav => ?_)
  have hr_s : -2147483648 ≤ s ∧ s ≤ 2147483647 := hav (vI s) (by simp)
  have hr_c : -2147483648 ≤ c ∧ c ≤ 2147483647 := hav (vI c) (by simp)
  have hz : zX11_club.2.2.2.1 = some .boolean → ∀ (T' : Zt) (x : Int), po_X11_club T s c T' (some (vI x)) → 0 ≤ x ∧ x ≤ 1 := fun h => by cases h
  show J_ zX11_club T (po_X11_club T s c) 0 0 0 [some (vR 111 0), some (vI s), some (vI c)] [] T
  refine j_blx (F := fX11) tb_X11 (nn_ _) bk_X11_club_0 bs_X11_club_0 hz (fun K hK => ?_)
  refine hK 4 _ [vI 11, vI 0, vI s] T ?_
  refine j_callS (y := yX11_in) (Yc := zX11_in) (rest := []) [vI s, vI 0, vI 11] (ct_X11_in (T := T)) cl_X11_255 (qd_c (by decide +kernel)) (nn_ _) rfl (rf_of rfl) (Nat.le_of_ble_eq_true rfl) (Nat.le_of_ble_eq_true rfl) (Nat.le_of_ble_eq_true rfl) rfl ?_
  rintro _ _ ⟨rfl, x1, rfl, hx1⟩
  show J_ zX11_club T (po_X11_club T s c) 0 0 7 _ [vI x1] T
  refine j_blx (F := fX11) tb_X11 (nn_ _) bk_X11_club_7 bs_X11_club_7 hz (fun K hK => ?_)
  refine And.intro (fun c2 => ?_) (fun c2 => ?_)
  · refine hK 20 _ [] T ?_
    refine j_blx (F := fX11) tb_X11 (nn_ _) bk_X11_club_20 bs_X11_club_20 hz (fun K hK => ?_)
    refine (show po_X11_club T s c T (some (vI (-3))) from ?_)
    exact ⟨_, rfl, fr_0 _ _, by omega⟩
  · refine hK 14 _ [vI 7, vI 0, vI c] T ?_
    refine j_callS (y := yX11_in) (Yc := zX11_in) (rest := []) [vI c, vI 0, vI 7] (ct_X11_in (T := T)) cl_X11_255 (qd_c (by decide +kernel)) (nn_ _) rfl (rf_of rfl) (Nat.le_of_ble_eq_true rfl) (Nat.le_of_ble_eq_true rfl) (Nat.le_of_ble_eq_true rfl) rfl ?_
    rintro _ _ ⟨rfl, x3, rfl, hx3⟩
    show J_ zX11_club T (po_X11_club T s c) 0 0 17 _ [vI x3] T
    refine j_blx (F := fX11) tb_X11 (nn_ _) bk_X11_club_17 bs_X11_club_17 hz (fun K hK => ?_)
    refine And.intro (fun c4 => ?_) (fun c4 => ?_)
    · refine hK 23 _ [] T ?_
      refine j_blx (F := fX11) tb_X11 (nn_ _) bk_X11_club_23 bs_X11_club_23 hz (fun K hK => ?_)
      intro b5 b5b
      refine And.intro (fun c6 => ?_) (fun c6 => ?_)
      · refine hK 35 _ [] T ?_
        refine j_blx (F := fX11) tb_X11 (nn_ _) bk_X11_club_35 bs_X11_club_35 hz (fun K hK => ?_)
        intro b7 b7b
        refine iy_i (by omega) (by omega) ?_
        refine x_nm (fun U8 hU8 => ?_)
        have e9 := up_f hU8
        intro b10 b10b
        have e11 : U8 111 0 12 = T 111 0 12 := up_k hU8 (by exact Nat.ne_of_beq_eq_false rfl) 0 12
        rw [e11] at b10 b10b ⊢
        refine iy_i (by omega) (by omega) ?_
        refine x_nm (fun U12 hU12 => ?_)
        have e13 := up_f hU12
        intro b14 b14b
        have e15 : U12 111 0 12 = T 111 0 12 := (up_k hU12 (by exact Nat.ne_of_beq_eq_false rfl) 0 12).trans (up_k hU8 (by exact Nat.ne_of_beq_eq_false rfl) 0 12)
        rw [e15] at b14 b14b ⊢
        refine rg_i (by omega) ?_
        refine bd_i (by omega) ?_
        refine x_nm (fun U16 hU16 => ?_)
        have e17 := up_f hU16
        intro b18 b18b
        have e19 : U16 111 0 12 = (T 111 0 12) + 1 := up_f hU16
        rw [e19] at b18 b18b ⊢
        refine rg_i (by omega) ?_
        refine (show po_X11_club T s c U16 (some (vI (((T 111 0 12) + 1) - 1))) from ?_)
        have e20 : U16 111 0 12 = (T 111 0 12) + 1 := up_f hU16
        exact ⟨_, rfl, fr_u (fr_u (fr_u (fr_0 _ _) hU8 rfl) hU12 rfl) hU16 rfl, by omega⟩
      · refine (show po_X11_club T s c T (some (vI (-5))) from ?_)
        exact ⟨_, rfl, fr_0 _ _, by omega⟩
    · refine (show po_X11_club T s c T (some (vI (-3))) from ?_)
      exact ⟨_, rfl, fr_0 _ _, by omega⟩
abbrev cX11_person : ByteArray := prog_13_method_22_code
def yX11_person : MethodName := ⟨RX11, "person", "()I"⟩
def zX11_person : Zm := (RX11, cX11_person, 1, (some .int), { frames := 0, cells := 0, slots := 0, locals := 0 })
theorem bk_X11_person_0 : ck_ fX11 (some .int) cX11_person 0 [.aload 0, .tableswitch 0 11 15 #[], .iconst 200, .if_icmp .ne 13, .iconst (-5), .ireturn] 13 = true := qck_r (nn_ _) (by decide +kernel)
theorem bs_X11_person_0 {P : Zt → Option Zv → Prop} (K : Int → Zl → List Zv → Zt → Prop) : sx_ K P [.aload 0, .tableswitch 0 11 15 #[], .iconst 200, .if_icmp .ne 13, .iconst (-5), .ireturn] 13 = x_aload 0 (x_g0 111 15 0 200 (x_iconst 200 (x_if_icmp .ne 13 K (x_iconst (-5) (x_ireturn P))))) := ((xe_aload 0).trans (congrArg (x_aload 0) ((xe_g0 (kk := 111) rfl tl_11_15).trans (congrArg (x_g0 111 15 0 200) ((xe_iconst 200).trans (congrArg (x_iconst 200) ((xe_if_icmp .ne 13).trans (congrArg (x_if_icmp .ne 13 K) ((xe_iconst (-5)).trans (congrArg (x_iconst (-5)) (xe_ireturn)))))))))))
theorem bk_X11_person_13 : ck_ fX11 (some .int) cX11_person 13 [.aload 0, .dup, .tableswitch 0 11 15 #[], .iconst 1, .iadd, .tableswitch 1 11 15 #[], .aload 0, .tableswitch 0 11 15 #[], .iconst 1, .isub, .ireturn] 30 = true := qck_r (nn_ _) (by decide +kernel)
theorem bs_X11_person_13 {P : Zt → Option Zv → Prop} (K : Int → Zl → List Zv → Zt → Prop) : sx_ K P [.aload 0, .dup, .tableswitch 0 11 15 #[], .iconst 1, .iadd, .tableswitch 1 11 15 #[], .aload 0, .tableswitch 0 11 15 #[], .iconst 1, .isub, .ireturn] 30 = x_aload 0 (x_dup (x_g0 111 15 0 200 (x_iconst 1 (x_iadd (x_p 111 15 0 200 (x_aload 0 (x_g0 111 15 0 200 (x_iconst 1 (x_isub (x_ireturn P)))))))))) := ((xe_aload 0).trans (congrArg (x_aload 0) ((xe_dup).trans (congrArg (x_dup) ((xe_g0 (kk := 111) rfl tl_11_15).trans (congrArg (x_g0 111 15 0 200) ((xe_iconst 1).trans (congrArg (x_iconst 1) ((xe_iadd).trans (congrArg (x_iadd) ((xe_p (kk := 111) rfl tl_11_15).trans (congrArg (x_p 111 15 0 200) ((xe_aload 0).trans (congrArg (x_aload 0) ((xe_g0 (kk := 111) rfl tl_11_15).trans (congrArg (x_g0 111 15 0 200) ((xe_iconst 1).trans (congrArg (x_iconst 1) ((xe_isub).trans (congrArg (x_isub) (xe_ireturn)))))))))))))))))))))
abbrev po_X11_person (T : Zt) : Zt → Option Zv → Prop := fun T' r => ∃ x : Int, r = some (vI x) ∧ fr_ [(111, [15])] T T' ∧ ((x = -3 ∧ ¬ (0 = (0 : Int)) ∧ T' 111 0 15 = T 111 0 15) ∨ ((0 = (0 : Int)) ∧ T 111 0 15 = 200 ∧ x = -5 ∧ T' 111 0 15 = T 111 0 15) ∨ ((0 = (0 : Int)) ∧ T 111 0 15 < 200 ∧ x = T 111 0 15 ∧ T' 111 0 15 = T 111 0 15 + 1))
set_option maxHeartbeats 4000000 in
theorem ct_X11_person {T : Zt} : Ct_ yX11_person zX11_person T [vR 111 0] (po_X11_person T) := by
  refine ct_of pn_11 rfl rfl (Nat.le_of_ble_eq_true rfl) (fun hT hav => ?_)
  have hz : zX11_person.2.2.2.1 = some .boolean → ∀ (T' : Zt) (x : Int), po_X11_person T T' (some (vI x)) → 0 ≤ x ∧ x ≤ 1 := fun h => by cases h
  show J_ zX11_person T (po_X11_person T) 0 0 0 [some (vR 111 0)] [] T
  refine j_blx (F := fX11) tb_X11 (nn_ _) bk_X11_person_0 bs_X11_person_0 hz (fun K hK => ?_)
  intro b1 b1b
  refine And.intro (fun c2 => ?_) (fun c2 => ?_)
  · refine hK 13 _ [] T ?_
    refine j_blx (F := fX11) tb_X11 (nn_ _) bk_X11_person_13 bs_X11_person_13 hz (fun K hK => ?_)
    intro b3 b3b
    refine rg_i (by omega) ?_
    refine bd_i (by omega) ?_
    refine x_nm (fun U4 hU4 => ?_)
    have e5 := up_f hU4
    intro b6 b6b
    have e7 : U4 111 0 15 = (T 111 0 15) + 1 := up_f hU4
    rw [e7] at b6 b6b ⊢
    refine rg_i (by omega) ?_
    refine (show po_X11_person T U4 (some (vI (((T 111 0 15) + 1) - 1))) from ?_)
    have e8 : U4 111 0 15 = (T 111 0 15) + 1 := up_f hU4
    exact ⟨_, rfl, fr_u (fr_0 _ _) hU4 rfl, by omega⟩
  · refine (show po_X11_person T T (some (vI (-5))) from ?_)
    exact ⟨_, rfl, fr_0 _ _, by omega⟩
abbrev cX11_official : ByteArray := prog_13_method_25_code
def yX11_official : MethodName := ⟨RX11, "official", "(II)I"⟩
def zX11_official : Zm := (RX11, cX11_official, 3, (some .int), { frames := 1, cells := 0, slots := 0, locals := 22 })
theorem bk_X11_official_0 : ck_ fX11 (some .int) cX11_official 0 [.iload 1, .iconst 0, .iconst 11] 4 = true := qck_r (nn_ _) (by decide +kernel)
theorem bs_X11_official_0 {P : Zt → Option Zv → Prop} (K : Int → Zl → List Zv → Zt → Prop) : sx_ K P [.iload 1, .iconst 0, .iconst 11] 4 = x_iload 1 (x_iconst 0 (x_iconst 11 (K 4))) := ((xe_iload 1).trans (congrArg (x_iload 1) ((xe_iconst 0).trans (congrArg (x_iconst 0) ((xe_iconst 11).trans (congrArg (x_iconst 11) xe_nil))))))
theorem bk_X11_official_7 : ck_ fX11 (some .int) cX11_official 7 [.ifCond .eq 20, .iload 2, .iconst 0, .iconst 7] 14 = true := qck_r (nn_ _) (by decide +kernel)
theorem bs_X11_official_7 {P : Zt → Option Zv → Prop} (K : Int → Zl → List Zv → Zt → Prop) : sx_ K P [.ifCond .eq 20, .iload 2, .iconst 0, .iconst 7] 14 = x_ifCond .eq 20 K (x_iload 2 (x_iconst 0 (x_iconst 7 (K 14)))) := ((xe_ifCond .eq 20).trans (congrArg (x_ifCond .eq 20 K) ((xe_iload 2).trans (congrArg (x_iload 2) ((xe_iconst 0).trans (congrArg (x_iconst 0) ((xe_iconst 7).trans (congrArg (x_iconst 7) xe_nil))))))))
theorem bk_X11_official_20 : ck_ fX11 (some .int) cX11_official 20 [.iconst (-3), .ireturn] 23 = true := qck_r (nn_ _) (by decide +kernel)
theorem bs_X11_official_20 {P : Zt → Option Zv → Prop} (K : Int → Zl → List Zv → Zt → Prop) : sx_ K P [.iconst (-3), .ireturn] 23 = x_iconst (-3) (x_ireturn P) := ((xe_iconst (-3)).trans (congrArg (x_iconst (-3)) (xe_ireturn)))
theorem bk_X11_official_17 : ck_ fX11 (some .int) cX11_official 17 [.ifCond .ne 23, .iconst (-3), .ireturn] 23 = true := qck_r (nn_ _) (by decide +kernel)
theorem bs_X11_official_17 {P : Zt → Option Zv → Prop} (K : Int → Zl → List Zv → Zt → Prop) : sx_ K P [.ifCond .ne 23, .iconst (-3), .ireturn] 23 = x_ifCond .ne 23 K (x_iconst (-3) (x_ireturn P)) := ((xe_ifCond .ne 23).trans (congrArg (x_ifCond .ne 23 K) ((xe_iconst (-3)).trans (congrArg (x_iconst (-3)) (xe_ireturn)))))
theorem bk_X11_official_23 : ck_ fX11 (some .int) cX11_official 23 [.aload 0, .tableswitch 0 11 21 #[], .iconst 8, .if_icmp .ne 35, .iconst (-5), .ireturn] 35 = true := qck_r (nn_ _) (by decide +kernel)
theorem bs_X11_official_23 {P : Zt → Option Zv → Prop} (K : Int → Zl → List Zv → Zt → Prop) : sx_ K P [.aload 0, .tableswitch 0 11 21 #[], .iconst 8, .if_icmp .ne 35, .iconst (-5), .ireturn] 35 = x_aload 0 (x_g0 111 21 0 8 (x_iconst 8 (x_if_icmp .ne 35 K (x_iconst (-5) (x_ireturn P))))) := ((xe_aload 0).trans (congrArg (x_aload 0) ((xe_g0 (kk := 111) rfl tl_11_21).trans (congrArg (x_g0 111 21 0 8) ((xe_iconst 8).trans (congrArg (x_iconst 8) ((xe_if_icmp .ne 35).trans (congrArg (x_if_icmp .ne 35 K) ((xe_iconst (-5)).trans (congrArg (x_iconst (-5)) (xe_ireturn)))))))))))
theorem bk_X11_official_35 : ck_ fX11 (some .int) cX11_official 35 [.aload 0, .tableswitch 0 11 22 #[], .aload 0, .tableswitch 0 11 21 #[], .iload 1, .iastore, .aload 0, .tableswitch 0 11 23 #[], .aload 0, .tableswitch 0 11 21 #[], .iload 2, .iastore, .aload 0, .dup, .tableswitch 0 11 21 #[], .iconst 1, .iadd, .tableswitch 1 11 21 #[], .aload 0, .tableswitch 0 11 21 #[], .iconst 1, .isub, .ireturn] 72 = true := qck_r (nn_ _) (by decide +kernel)
theorem bs_X11_official_35 {P : Zt → Option Zv → Prop} (K : Int → Zl → List Zv → Zt → Prop) : sx_ K P [.aload 0, .tableswitch 0 11 22 #[], .aload 0, .tableswitch 0 11 21 #[], .iload 1, .iastore, .aload 0, .tableswitch 0 11 23 #[], .aload 0, .tableswitch 0 11 21 #[], .iload 2, .iastore, .aload 0, .dup, .tableswitch 0 11 21 #[], .iconst 1, .iadd, .tableswitch 1 11 21 #[], .aload 0, .tableswitch 0 11 21 #[], .iconst 1, .isub, .ireturn] 72 = x_aload 0 (x_g1 111 222 (x_aload 0 (x_g0 111 21 0 8 (x_iload 1 (x_iastore (x_aload 0 (x_g1 111 223 (x_aload 0 (x_g0 111 21 0 8 (x_iload 2 (x_iastore (x_aload 0 (x_dup (x_g0 111 21 0 8 (x_iconst 1 (x_iadd (x_p 111 21 0 8 (x_aload 0 (x_g0 111 21 0 8 (x_iconst 1 (x_isub (x_ireturn P)))))))))))))))))))))) := ((xe_aload 0).trans (congrArg (x_aload 0) ((xe_g1 (kk := 111) rfl tl_11_22).trans (congrArg (x_g1 111 222) ((xe_aload 0).trans (congrArg (x_aload 0) ((xe_g0 (kk := 111) rfl tl_11_21).trans (congrArg (x_g0 111 21 0 8) ((xe_iload 1).trans (congrArg (x_iload 1) ((xe_iastore).trans (congrArg (x_iastore) ((xe_aload 0).trans (congrArg (x_aload 0) ((xe_g1 (kk := 111) rfl tl_11_23).trans (congrArg (x_g1 111 223) ((xe_aload 0).trans (congrArg (x_aload 0) ((xe_g0 (kk := 111) rfl tl_11_21).trans (congrArg (x_g0 111 21 0 8) ((xe_iload 2).trans (congrArg (x_iload 2) ((xe_iastore).trans (congrArg (x_iastore) ((xe_aload 0).trans (congrArg (x_aload 0) ((xe_dup).trans (congrArg (x_dup) ((xe_g0 (kk := 111) rfl tl_11_21).trans (congrArg (x_g0 111 21 0 8) ((xe_iconst 1).trans (congrArg (x_iconst 1) ((xe_iadd).trans (congrArg (x_iadd) ((xe_p (kk := 111) rfl tl_11_21).trans (congrArg (x_p 111 21 0 8) ((xe_aload 0).trans (congrArg (x_aload 0) ((xe_g0 (kk := 111) rfl tl_11_21).trans (congrArg (x_g0 111 21 0 8) ((xe_iconst 1).trans (congrArg (x_iconst 1) ((xe_isub).trans (congrArg (x_isub) (xe_ireturn)))))))))))))))))))))))))))))))))))))))))))))
abbrev po_X11_official (T : Zt) (s c : Int) : Zt → Option Zv → Prop := fun T' r => ∃ x : Int, r = some (vI x) ∧ fr_ [(111, [21]), (222, []), (223, [])] T T' ∧ ((x = -3 ∧ ¬ (0 ≤ s ∧ s ≤ 11 ∧ 0 ≤ c ∧ c ≤ 7) ∧ T' 111 0 21 = T 111 0 21) ∨ ((0 ≤ s ∧ s ≤ 11 ∧ 0 ≤ c ∧ c ≤ 7) ∧ T 111 0 21 = 8 ∧ x = -5 ∧ T' 111 0 21 = T 111 0 21) ∨ ((0 ≤ s ∧ s ≤ 11 ∧ 0 ≤ c ∧ c ≤ 7) ∧ T 111 0 21 < 8 ∧ x = T 111 0 21 ∧ T' 111 0 21 = T 111 0 21 + 1))
set_option maxHeartbeats 4000000 in
theorem ct_X11_official {T : Zt} {s c : Int} : Ct_ yX11_official zX11_official T [vR 111 0, vI s, vI c] (po_X11_official T s c) := by
  refine ct_of pn_11 rfl rfl (Nat.le_of_ble_eq_true rfl) (fun hT hav => ?_)
  have hr_s : -2147483648 ≤ s ∧ s ≤ 2147483647 := hav (vI s) (by simp)
  have hr_c : -2147483648 ≤ c ∧ c ≤ 2147483647 := hav (vI c) (by simp)
  have hz : zX11_official.2.2.2.1 = some .boolean → ∀ (T' : Zt) (x : Int), po_X11_official T s c T' (some (vI x)) → 0 ≤ x ∧ x ≤ 1 := fun h => by cases h
  show J_ zX11_official T (po_X11_official T s c) 0 0 0 [some (vR 111 0), some (vI s), some (vI c)] [] T
  refine j_blx (F := fX11) tb_X11 (nn_ _) bk_X11_official_0 bs_X11_official_0 hz (fun K hK => ?_)
  refine hK 4 _ [vI 11, vI 0, vI s] T ?_
  refine j_callS (y := yX11_in) (Yc := zX11_in) (rest := []) [vI s, vI 0, vI 11] (ct_X11_in (T := T)) cl_X11_255 (qd_c (by decide +kernel)) (nn_ _) rfl (rf_of rfl) (Nat.le_of_ble_eq_true rfl) (Nat.le_of_ble_eq_true rfl) (Nat.le_of_ble_eq_true rfl) rfl ?_
  rintro _ _ ⟨rfl, x1, rfl, hx1⟩
  show J_ zX11_official T (po_X11_official T s c) 0 0 7 _ [vI x1] T
  refine j_blx (F := fX11) tb_X11 (nn_ _) bk_X11_official_7 bs_X11_official_7 hz (fun K hK => ?_)
  refine And.intro (fun c2 => ?_) (fun c2 => ?_)
  · refine hK 20 _ [] T ?_
    refine j_blx (F := fX11) tb_X11 (nn_ _) bk_X11_official_20 bs_X11_official_20 hz (fun K hK => ?_)
    refine (show po_X11_official T s c T (some (vI (-3))) from ?_)
    exact ⟨_, rfl, fr_0 _ _, by omega⟩
  · refine hK 14 _ [vI 7, vI 0, vI c] T ?_
    refine j_callS (y := yX11_in) (Yc := zX11_in) (rest := []) [vI c, vI 0, vI 7] (ct_X11_in (T := T)) cl_X11_255 (qd_c (by decide +kernel)) (nn_ _) rfl (rf_of rfl) (Nat.le_of_ble_eq_true rfl) (Nat.le_of_ble_eq_true rfl) (Nat.le_of_ble_eq_true rfl) rfl ?_
    rintro _ _ ⟨rfl, x3, rfl, hx3⟩
    show J_ zX11_official T (po_X11_official T s c) 0 0 17 _ [vI x3] T
    refine j_blx (F := fX11) tb_X11 (nn_ _) bk_X11_official_17 bs_X11_official_17 hz (fun K hK => ?_)
    refine And.intro (fun c4 => ?_) (fun c4 => ?_)
    · refine hK 23 _ [] T ?_
      refine j_blx (F := fX11) tb_X11 (nn_ _) bk_X11_official_23 bs_X11_official_23 hz (fun K hK => ?_)
      intro b5 b5b
      refine And.intro (fun c6 => ?_) (fun c6 => ?_)
      · refine hK 35 _ [] T ?_
        refine j_blx (F := fX11) tb_X11 (nn_ _) bk_X11_official_35 bs_X11_official_35 hz (fun K hK => ?_)
        intro b7 b7b
        refine iy_i (by omega) (by omega) ?_
        refine x_nm (fun U8 hU8 => ?_)
        have e9 := up_f hU8
        intro b10 b10b
        have e11 : U8 111 0 21 = T 111 0 21 := up_k hU8 (by exact Nat.ne_of_beq_eq_false rfl) 0 21
        rw [e11] at b10 b10b ⊢
        refine iy_i (by omega) (by omega) ?_
        refine x_nm (fun U12 hU12 => ?_)
        have e13 := up_f hU12
        intro b14 b14b
        have e15 : U12 111 0 21 = T 111 0 21 := (up_k hU12 (by exact Nat.ne_of_beq_eq_false rfl) 0 21).trans (up_k hU8 (by exact Nat.ne_of_beq_eq_false rfl) 0 21)
        rw [e15] at b14 b14b ⊢
        refine rg_i (by omega) ?_
        refine bd_i (by omega) ?_
        refine x_nm (fun U16 hU16 => ?_)
        have e17 := up_f hU16
        intro b18 b18b
        have e19 : U16 111 0 21 = (T 111 0 21) + 1 := up_f hU16
        rw [e19] at b18 b18b ⊢
        refine rg_i (by omega) ?_
        refine (show po_X11_official T s c U16 (some (vI (((T 111 0 21) + 1) - 1))) from ?_)
        have e20 : U16 111 0 21 = (T 111 0 21) + 1 := up_f hU16
        exact ⟨_, rfl, fr_u (fr_u (fr_u (fr_0 _ _) hU8 rfl) hU12 rfl) hU16 rfl, by omega⟩
      · refine (show po_X11_official T s c T (some (vI (-5))) from ?_)
        exact ⟨_, rfl, fr_0 _ _, by omega⟩
    · refine (show po_X11_official T s c T (some (vI (-3))) from ?_)
      exact ⟨_, rfl, fr_0 _ _, by omega⟩
abbrev cX11_day : ByteArray := prog_13_method_26_code
def yX11_day : MethodName := ⟨RX11, "day", "(I)I"⟩
def zX11_day : Zm := (RX11, cX11_day, 3, (some .int), { frames := 1, cells := 0, slots := 0, locals := 22 })
theorem bk_X11_day_0 : ck_ fX11 (some .int) cX11_day 0 [.iload 1, .aload 0, .tableswitch 0 11 3 #[], .iconst 1, .iadd, .iconst 999] 10 = true := qck_r (nn_ _) (by decide +kernel)
theorem bs_X11_day_0 {P : Zt → Option Zv → Prop} (K : Int → Zl → List Zv → Zt → Prop) : sx_ K P [.iload 1, .aload 0, .tableswitch 0 11 3 #[], .iconst 1, .iadd, .iconst 999] 10 = x_iload 1 (x_aload 0 (x_g0 111 3 0 999 (x_iconst 1 (x_iadd (x_iconst 999 (K 10)))))) := ((xe_iload 1).trans (congrArg (x_iload 1) ((xe_aload 0).trans (congrArg (x_aload 0) ((xe_g0 (kk := 111) rfl tl_11_3).trans (congrArg (x_g0 111 3 0 999) ((xe_iconst 1).trans (congrArg (x_iconst 1) ((xe_iadd).trans (congrArg (x_iadd) ((xe_iconst 999).trans (congrArg (x_iconst 999) xe_nil))))))))))))
theorem bk_X11_day_13 : ck_ fX11 (some .int) cX11_day 13 [.ifCond .ne 19, .iconst (-3), .ireturn] 19 = true := qck_r (nn_ _) (by decide +kernel)
theorem bs_X11_day_13 {P : Zt → Option Zv → Prop} (K : Int → Zl → List Zv → Zt → Prop) : sx_ K P [.ifCond .ne 19, .iconst (-3), .ireturn] 19 = x_ifCond .ne 19 K (x_iconst (-3) (x_ireturn P)) := ((xe_ifCond .ne 19).trans (congrArg (x_ifCond .ne 19 K) ((xe_iconst (-3)).trans (congrArg (x_iconst (-3)) (xe_ireturn)))))
theorem bk_X11_day_19 : ck_ fX11 (some .int) cX11_day 19 [.aload 0, .tableswitch 0 11 3 #[], .istore 2, .aload 0, .iload 1, .tableswitch 1 11 3 #[], .iload 2, .ireturn] 31 = true := qck_r (nn_ _) (by decide +kernel)
theorem bs_X11_day_19 {P : Zt → Option Zv → Prop} (K : Int → Zl → List Zv → Zt → Prop) : sx_ K P [.aload 0, .tableswitch 0 11 3 #[], .istore 2, .aload 0, .iload 1, .tableswitch 1 11 3 #[], .iload 2, .ireturn] 31 = x_aload 0 (x_g0 111 3 0 999 (x_istore 2 (x_aload 0 (x_iload 1 (x_p 111 3 0 999 (x_iload 2 (x_ireturn P))))))) := ((xe_aload 0).trans (congrArg (x_aload 0) ((xe_g0 (kk := 111) rfl tl_11_3).trans (congrArg (x_g0 111 3 0 999) ((xe_istore 2).trans (congrArg (x_istore 2) ((xe_aload 0).trans (congrArg (x_aload 0) ((xe_iload 1).trans (congrArg (x_iload 1) ((xe_p (kk := 111) rfl tl_11_3).trans (congrArg (x_p 111 3 0 999) ((xe_iload 2).trans (congrArg (x_iload 2) (xe_ireturn)))))))))))))))
abbrev po_X11_day (T : Zt) (d : Int) : Zt → Option Zv → Prop := fun T' r => ∃ x : Int, r = some (vI x) ∧ fr_ [(111, [3])] T T' ∧ ((x = -3 ∧ ¬ (T 111 0 3 < d ∧ d ≤ 999) ∧ T' 111 0 3 = T 111 0 3) ∨ (T 111 0 3 < d ∧ d ≤ 999 ∧ x = T 111 0 3 ∧ T' 111 0 3 = d))
set_option maxHeartbeats 4000000 in
theorem ct_X11_day {T : Zt} {d : Int} : Ct_ yX11_day zX11_day T [vR 111 0, vI d] (po_X11_day T d) := by
  refine ct_of pn_11 rfl rfl (Nat.le_of_ble_eq_true rfl) (fun hT hav => ?_)
  have hr_d : -2147483648 ≤ d ∧ d ≤ 2147483647 := hav (vI d) (by simp)
  have hz : zX11_day.2.2.2.1 = some .boolean → ∀ (T' : Zt) (x : Int), po_X11_day T d T' (some (vI x)) → 0 ≤ x ∧ x ≤ 1 := fun h => by cases h
  show J_ zX11_day T (po_X11_day T d) 0 0 0 [some (vR 111 0), some (vI d), none] [] T
  refine j_blx (F := fX11) tb_X11 (nn_ _) bk_X11_day_0 bs_X11_day_0 hz (fun K hK => ?_)
  intro b1 b1b
  refine rg_i (by omega) ?_
  refine hK 10 _ [vI 999, vI ((T 111 0 3) + 1), vI d] T ?_
  refine j_callS (y := yX11_in) (Yc := zX11_in) (rest := []) [vI d, vI ((T 111 0 3) + 1), vI 999] (ct_X11_in (T := T)) cl_X11_255 (qd_c (by decide +kernel)) (nn_ _) rfl (rf_of rfl) (Nat.le_of_ble_eq_true rfl) (Nat.le_of_ble_eq_true rfl) (Nat.le_of_ble_eq_true rfl) rfl ?_
  rintro _ _ ⟨rfl, x2, rfl, hx2⟩
  show J_ zX11_day T (po_X11_day T d) 0 0 13 _ [vI x2] T
  refine j_blx (F := fX11) tb_X11 (nn_ _) bk_X11_day_13 bs_X11_day_13 hz (fun K hK => ?_)
  refine And.intro (fun c3 => ?_) (fun c3 => ?_)
  · refine hK 19 _ [] T ?_
    refine j_blx (F := fX11) tb_X11 (nn_ _) bk_X11_day_19 bs_X11_day_19 hz (fun K hK => ?_)
    intro b4 b4b
    refine bd_i (by omega) ?_
    refine x_nm (fun U5 hU5 => ?_)
    have e6 := up_f hU5
    refine (show po_X11_day T d U5 (some (vI (T 111 0 3))) from ?_)
    have e7 : U5 111 0 3 = d := up_f hU5
    exact ⟨_, rfl, fr_u (fr_0 _ _) hU5 rfl, by omega⟩
  · refine (show po_X11_day T d T (some (vI (-3))) from ?_)
    exact ⟨_, rfl, fr_0 _ _, by omega⟩
abbrev cX11_clubOf : ByteArray := prog_13_method_23_code
def yX11_clubOf : MethodName := ⟨RX11, "clubOf", "(II)I"⟩
def zX11_clubOf : Zm := (RX11, cX11_clubOf, 5, (some .int), { frames := 1, cells := 0, slots := 0, locals := 22 })
theorem bk_X11_clubOf_57 : ck_ fX11 (some .int) cX11_clubOf 57 [.istore 3, .iinc 4 1, .goto 5] 64 = true := qck_r (nn_ _) (by decide +kernel)
theorem bs_X11_clubOf_57 {P : Zt → Option Zv → Prop} (K : Int → Zl → List Zv → Zt → Prop) : sx_ K P [.istore 3, .iinc 4 1, .goto 5] 64 = x_istore 3 (x_iinc 4 1 (x_goto 5 K)) := ((xe_istore 3).trans (congrArg (x_istore 3) ((xe_iinc 4 1).trans (congrArg (x_iinc 4 1) (xe_goto 5)))))
theorem bk_X11_clubOf_5 : ck_ fX11 (some .int) cX11_clubOf 5 [.iload 4, .aload 0, .tableswitch 0 11 16 #[], .if_icmp .ge 64, .aload 0, .tableswitch 0 11 17 #[], .iload 4, .iaload, .iload 1, .if_icmp .ne 56, .iload 2, .aload 0, .tableswitch 0 11 19 #[], .iload 4, .iaload, .aload 0, .tableswitch 0 11 20 #[], .iload 4, .iaload] 40 = true := qck_r (nn_ _) (by decide +kernel)
theorem bs_X11_clubOf_5 {P : Zt → Option Zv → Prop} (K : Int → Zl → List Zv → Zt → Prop) : sx_ K P [.iload 4, .aload 0, .tableswitch 0 11 16 #[], .if_icmp .ge 64, .aload 0, .tableswitch 0 11 17 #[], .iload 4, .iaload, .iload 1, .if_icmp .ne 56, .iload 2, .aload 0, .tableswitch 0 11 19 #[], .iload 4, .iaload, .aload 0, .tableswitch 0 11 20 #[], .iload 4, .iaload] 40 = x_iload 4 (x_aload 0 (x_g0 111 16 0 300 (x_if_icmp .ge 64 K (x_aload 0 (x_g1 111 217 (x_iload 4 (x_iaload (x_iload 1 (x_if_icmp .ne 56 K (x_iload 2 (x_aload 0 (x_g1 111 219 (x_iload 4 (x_iaload (x_aload 0 (x_g1 111 220 (x_iload 4 (x_iaload (K 40))))))))))))))))))) := ((xe_iload 4).trans (congrArg (x_iload 4) ((xe_aload 0).trans (congrArg (x_aload 0) ((xe_g0 (kk := 111) rfl tl_11_16).trans (congrArg (x_g0 111 16 0 300) ((xe_if_icmp .ge 64).trans (congrArg (x_if_icmp .ge 64 K) ((xe_aload 0).trans (congrArg (x_aload 0) ((xe_g1 (kk := 111) rfl tl_11_17).trans (congrArg (x_g1 111 217) ((xe_iload 4).trans (congrArg (x_iload 4) ((xe_iaload).trans (congrArg (x_iaload) ((xe_iload 1).trans (congrArg (x_iload 1) ((xe_if_icmp .ne 56).trans (congrArg (x_if_icmp .ne 56 K) ((xe_iload 2).trans (congrArg (x_iload 2) ((xe_aload 0).trans (congrArg (x_aload 0) ((xe_g1 (kk := 111) rfl tl_11_19).trans (congrArg (x_g1 111 219) ((xe_iload 4).trans (congrArg (x_iload 4) ((xe_iaload).trans (congrArg (x_iaload) ((xe_aload 0).trans (congrArg (x_aload 0) ((xe_g1 (kk := 111) rfl tl_11_20).trans (congrArg (x_g1 111 220) ((xe_iload 4).trans (congrArg (x_iload 4) ((xe_iaload).trans (congrArg (x_iaload) xe_nil))))))))))))))))))))))))))))))))))))))
theorem bk_X11_clubOf_64 : ck_ fX11 (some .int) cX11_clubOf 64 [.iload 3, .ireturn] 66 = true := qck_r (nn_ _) (by decide +kernel)
theorem bs_X11_clubOf_64 {P : Zt → Option Zv → Prop} (K : Int → Zl → List Zv → Zt → Prop) : sx_ K P [.iload 3, .ireturn] 66 = x_iload 3 (x_ireturn P) := ((xe_iload 3).trans (congrArg (x_iload 3) (xe_ireturn)))
theorem bk_X11_clubOf_56 : ck_ fX11 (some .int) cX11_clubOf 56 [.iload 3] 57 = true := qck_r (nn_ _) (by decide +kernel)
theorem bs_X11_clubOf_56 {P : Zt → Option Zv → Prop} (K : Int → Zl → List Zv → Zt → Prop) : sx_ K P [.iload 3] 57 = x_iload 3 (K 57) := ((xe_iload 3).trans (congrArg (x_iload 3) xe_nil))
theorem bk_X11_clubOf_43 : ck_ fX11 (some .int) cX11_clubOf 43 [.ifCond .eq 56, .aload 0, .tableswitch 0 11 18 #[], .iload 4, .iaload, .goto 57] 56 = true := qck_r (nn_ _) (by decide +kernel)
theorem bs_X11_clubOf_43 {P : Zt → Option Zv → Prop} (K : Int → Zl → List Zv → Zt → Prop) : sx_ K P [.ifCond .eq 56, .aload 0, .tableswitch 0 11 18 #[], .iload 4, .iaload, .goto 57] 56 = x_ifCond .eq 56 K (x_aload 0 (x_g1 111 218 (x_iload 4 (x_iaload (x_goto 57 K))))) := ((xe_ifCond .eq 56).trans (congrArg (x_ifCond .eq 56 K) ((xe_aload 0).trans (congrArg (x_aload 0) ((xe_g1 (kk := 111) rfl tl_11_18).trans (congrArg (x_g1 111 218) ((xe_iload 4).trans (congrArg (x_iload 4) ((xe_iaload).trans (congrArg (x_iaload) (xe_goto 57)))))))))))
theorem bk_X11_clubOf_0 : ck_ fX11 (some .int) cX11_clubOf 0 [.iconst (-1), .istore 3, .iconst 0, .istore 4] 5 = true := qck_r (nn_ _) (by decide +kernel)
theorem bs_X11_clubOf_0 {P : Zt → Option Zv → Prop} (K : Int → Zl → List Zv → Zt → Prop) : sx_ K P [.iconst (-1), .istore 3, .iconst 0, .istore 4] 5 = x_iconst (-1) (x_istore 3 (x_iconst 0 (x_istore 4 (K 5)))) := ((xe_iconst (-1)).trans (congrArg (x_iconst (-1)) ((xe_istore 3).trans (congrArg (x_istore 3) ((xe_iconst 0).trans (congrArg (x_iconst 0) ((xe_istore 4).trans (congrArg (x_istore 4) xe_nil))))))))
abbrev po_X11_clubOf (T : Zt) (p d : Int) : Zt → Option Zv → Prop := fun T' r => T = T' ∧ ∃ x : Int, r = some (vI x) ∧ (-1 ≤ x ∧ x ≤ 11)
set_option maxHeartbeats 4000000 in
theorem ct_X11_clubOf {T : Zt} {p d : Int} : Ct_ yX11_clubOf zX11_clubOf T [vR 111 0, vI p, vI d] (po_X11_clubOf T p d) := by
  refine ct_of pn_11 rfl rfl (Nat.le_of_ble_eq_true rfl) (fun hT hav => ?_)
  have hr_p : -2147483648 ≤ p ∧ p ≤ 2147483647 := hav (vI p) (by simp)
  have hr_d : -2147483648 ≤ d ∧ d ≤ 2147483647 := hav (vI d) (by simp)
  have hz : zX11_clubOf.2.2.2.1 = some .boolean → ∀ (T' : Zt) (x : Int), po_X11_clubOf T p d T' (some (vI x)) → 0 ≤ x ∧ x ≤ 1 := fun h => by cases h
  show J_ zX11_clubOf T (po_X11_clubOf T p d) 0 0 0 [some (vR 111 0), some (vI p), some (vI d), none, none] [] T
  have c_5 : ∀ (nn : Nat) (cl : Int) (s : Int), ((300 - s).toNat) ≤ nn → (0 ≤ s ∧ -1 ≤ cl ∧ cl ≤ 11) → J_ zX11_clubOf T (po_X11_clubOf T p d) 0 0 5 [some (vR 111 0), some (vI p), some (vI d), some (vI cl), some (vI s)] [] T := by
    intro nn
    induction nn using Nat.strongRecOn with
    | _ nn ih_5 =>
      intro cl s hm_5 i1
      have c_57 : ∀ (v : Int), (-1 ≤ v ∧ v ≤ 11 ∧ s < 300) → J_ zX11_clubOf T (po_X11_clubOf T p d) 0 0 57 [some (vR 111 0), some (vI p), some (vI d), some (vI cl), some (vI s)] [vI v] T := by
        intro v i2
        refine j_blx (F := fX11) tb_X11 (nn_ _) bk_X11_clubOf_57 bs_X11_clubOf_57 hz (fun K hK => ?_)
        refine rg_i (by omega) ?_
        refine hK 5 [some (vR 111 0), some (vI p), some (vI d), some (vI v), some (vI (s + 1))] [] T ?_
        refine ih_5 _ ?_ v (s + 1) (Nat.le_refl _) ?_
        · omega
        · omega
      refine j_blx (F := fX11) tb_X11 (nn_ _) bk_X11_clubOf_5 bs_X11_clubOf_5 hz (fun K hK => ?_)
      intro b1 b1b
      refine And.intro (fun c2 => ?_) (fun c2 => ?_)
      · refine hK 64 _ [] T ?_
        refine j_blx (F := fX11) tb_X11 (nn_ _) bk_X11_clubOf_64 bs_X11_clubOf_64 hz (fun K hK => ?_)
        refine (show po_X11_clubOf T p d T (some (vI cl)) from ?_)
        exact ⟨rfl, _, rfl, by omega⟩
      · refine ix_i (by omega) ?_
        intro b3 b3b
        refine And.intro (fun c4 => ?_) (fun c4 => ?_)
        · refine hK 56 _ [] T ?_
          refine j_blx (F := fX11) tb_X11 (nn_ _) bk_X11_clubOf_56 bs_X11_clubOf_56 hz (fun K hK => ?_)
          refine hK 57 _ [vI cl] T ?_
          refine c_57 cl ?_
          · omega
        · refine ix_i (by omega) ?_
          intro b5 b5b
          refine ix_i (by omega) ?_
          intro b6 b6b
          refine hK 40 _ [vI (T 220 0 s), vI (T 219 0 s), vI d] T ?_
          refine j_callS (y := yX11_in) (Yc := zX11_in) (rest := []) [vI d, vI (T 219 0 s), vI (T 220 0 s)] (ct_X11_in (T := T)) cl_X11_255 (qd_c (by decide +kernel)) (nn_ _) rfl (rf_of rfl) (Nat.le_of_ble_eq_true rfl) (Nat.le_of_ble_eq_true rfl) (Nat.le_of_ble_eq_true rfl) rfl ?_
          rintro _ _ ⟨rfl, x7, rfl, hx7⟩
          show J_ zX11_clubOf T (po_X11_clubOf T p d) 0 0 43 _ [vI x7] T
          refine j_blx (F := fX11) tb_X11 (nn_ _) bk_X11_clubOf_43 bs_X11_clubOf_43 hz (fun K hK => ?_)
          refine And.intro (fun c8 => ?_) (fun c8 => ?_)
          · refine hK 56 _ [] T ?_
            refine j_blx (F := fX11) tb_X11 (nn_ _) bk_X11_clubOf_56 bs_X11_clubOf_56 hz (fun K hK => ?_)
            refine hK 57 _ [vI cl] T ?_
            refine c_57 cl ?_
            · omega
          · refine ix_i (by omega) ?_
            intro b9 b9b
            refine hK 57 _ [vI (T 218 0 s)] T ?_
            refine c_57 (T 218 0 s) ?_
            · omega
  refine j_blx (F := fX11) tb_X11 (nn_ _) bk_X11_clubOf_0 bs_X11_clubOf_0 hz (fun K hK => ?_)
  refine hK 5 [some (vR 111 0), some (vI p), some (vI d), some (vI (-1)), some (vI 0)] [] T ?_
  refine c_5 _ (-1) 0 (Nat.le_refl _) ?_
  · omega
abbrev cX11_register : ByteArray := prog_13_method_24_code
def yX11_register : MethodName := ⟨RX11, "register", "(IIII)I"⟩
def zX11_register : Zm := (RX11, cX11_register, 6, (some .int), { frames := 2, cells := 0, slots := 0, locals := 43 })
theorem bk_X11_register_60 : ck_ fX11 (some .int) cX11_register 60 [.iload 5, .aload 0, .tableswitch 0 11 16 #[], .if_icmp .ge 112, .aload 0, .tableswitch 0 11 17 #[], .iload 5, .iaload, .iload 1, .if_icmp .ne 106, .aload 0, .tableswitch 0 11 19 #[], .iload 5, .iaload, .iload 4, .if_icmp .gt 106, .aload 0, .tableswitch 0 11 20 #[], .iload 5, .iaload, .iload 3, .if_icmp .lt 106, .iconst (-4), .ireturn] 106 = true := qck_r (nn_ _) (by decide +kernel)
theorem bs_X11_register_60 {P : Zt → Option Zv → Prop} (K : Int → Zl → List Zv → Zt → Prop) : sx_ K P [.iload 5, .aload 0, .tableswitch 0 11 16 #[], .if_icmp .ge 112, .aload 0, .tableswitch 0 11 17 #[], .iload 5, .iaload, .iload 1, .if_icmp .ne 106, .aload 0, .tableswitch 0 11 19 #[], .iload 5, .iaload, .iload 4, .if_icmp .gt 106, .aload 0, .tableswitch 0 11 20 #[], .iload 5, .iaload, .iload 3, .if_icmp .lt 106, .iconst (-4), .ireturn] 106 = x_iload 5 (x_aload 0 (x_g0 111 16 0 300 (x_if_icmp .ge 112 K (x_aload 0 (x_g1 111 217 (x_iload 5 (x_iaload (x_iload 1 (x_if_icmp .ne 106 K (x_aload 0 (x_g1 111 219 (x_iload 5 (x_iaload (x_iload 4 (x_if_icmp .gt 106 K (x_aload 0 (x_g1 111 220 (x_iload 5 (x_iaload (x_iload 3 (x_if_icmp .lt 106 K (x_iconst (-4) (x_ireturn P))))))))))))))))))))))) := ((xe_iload 5).trans (congrArg (x_iload 5) ((xe_aload 0).trans (congrArg (x_aload 0) ((xe_g0 (kk := 111) rfl tl_11_16).trans (congrArg (x_g0 111 16 0 300) ((xe_if_icmp .ge 112).trans (congrArg (x_if_icmp .ge 112 K) ((xe_aload 0).trans (congrArg (x_aload 0) ((xe_g1 (kk := 111) rfl tl_11_17).trans (congrArg (x_g1 111 217) ((xe_iload 5).trans (congrArg (x_iload 5) ((xe_iaload).trans (congrArg (x_iaload) ((xe_iload 1).trans (congrArg (x_iload 1) ((xe_if_icmp .ne 106).trans (congrArg (x_if_icmp .ne 106 K) ((xe_aload 0).trans (congrArg (x_aload 0) ((xe_g1 (kk := 111) rfl tl_11_19).trans (congrArg (x_g1 111 219) ((xe_iload 5).trans (congrArg (x_iload 5) ((xe_iaload).trans (congrArg (x_iaload) ((xe_iload 4).trans (congrArg (x_iload 4) ((xe_if_icmp .gt 106).trans (congrArg (x_if_icmp .gt 106 K) ((xe_aload 0).trans (congrArg (x_aload 0) ((xe_g1 (kk := 111) rfl tl_11_20).trans (congrArg (x_g1 111 220) ((xe_iload 5).trans (congrArg (x_iload 5) ((xe_iaload).trans (congrArg (x_iaload) ((xe_iload 3).trans (congrArg (x_iload 3) ((xe_if_icmp .lt 106).trans (congrArg (x_if_icmp .lt 106 K) ((xe_iconst (-4)).trans (congrArg (x_iconst (-4)) (xe_ireturn)))))))))))))))))))))))))))))))))))))))))))))))
theorem bk_X11_register_112 : ck_ fX11 (some .int) cX11_register 112 [.aload 0, .tableswitch 0 11 16 #[], .iconst 300, .if_icmp .ne 125, .iconst (-5), .ireturn] 125 = true := qck_r (nn_ _) (by decide +kernel)
theorem bs_X11_register_112 {P : Zt → Option Zv → Prop} (K : Int → Zl → List Zv → Zt → Prop) : sx_ K P [.aload 0, .tableswitch 0 11 16 #[], .iconst 300, .if_icmp .ne 125, .iconst (-5), .ireturn] 125 = x_aload 0 (x_g0 111 16 0 300 (x_iconst 300 (x_if_icmp .ne 125 K (x_iconst (-5) (x_ireturn P))))) := ((xe_aload 0).trans (congrArg (x_aload 0) ((xe_g0 (kk := 111) rfl tl_11_16).trans (congrArg (x_g0 111 16 0 300) ((xe_iconst 300).trans (congrArg (x_iconst 300) ((xe_if_icmp .ne 125).trans (congrArg (x_if_icmp .ne 125 K) ((xe_iconst (-5)).trans (congrArg (x_iconst (-5)) (xe_ireturn)))))))))))
theorem bk_X11_register_125 : ck_ fX11 (some .int) cX11_register 125 [.aload 0, .tableswitch 0 11 17 #[], .aload 0, .tableswitch 0 11 16 #[], .iload 1, .iastore, .aload 0, .tableswitch 0 11 18 #[], .aload 0, .tableswitch 0 11 16 #[], .iload 2, .iastore, .aload 0, .tableswitch 0 11 19 #[], .aload 0, .tableswitch 0 11 16 #[], .iload 3, .iastore, .aload 0, .tableswitch 0 11 20 #[], .aload 0, .tableswitch 0 11 16 #[], .iload 4, .iastore, .aload 0, .dup, .tableswitch 0 11 16 #[], .iconst 1, .iadd, .tableswitch 1 11 16 #[], .aload 0, .tableswitch 0 11 16 #[], .ireturn] 181 = true := qck_r (nn_ _) (by decide +kernel)
theorem bs_X11_register_125 {P : Zt → Option Zv → Prop} (K : Int → Zl → List Zv → Zt → Prop) : sx_ K P [.aload 0, .tableswitch 0 11 17 #[], .aload 0, .tableswitch 0 11 16 #[], .iload 1, .iastore, .aload 0, .tableswitch 0 11 18 #[], .aload 0, .tableswitch 0 11 16 #[], .iload 2, .iastore, .aload 0, .tableswitch 0 11 19 #[], .aload 0, .tableswitch 0 11 16 #[], .iload 3, .iastore, .aload 0, .tableswitch 0 11 20 #[], .aload 0, .tableswitch 0 11 16 #[], .iload 4, .iastore, .aload 0, .dup, .tableswitch 0 11 16 #[], .iconst 1, .iadd, .tableswitch 1 11 16 #[], .aload 0, .tableswitch 0 11 16 #[], .ireturn] 181 = x_aload 0 (x_g1 111 217 (x_aload 0 (x_g0 111 16 0 300 (x_iload 1 (x_iastore (x_aload 0 (x_g1 111 218 (x_aload 0 (x_g0 111 16 0 300 (x_iload 2 (x_iastore (x_aload 0 (x_g1 111 219 (x_aload 0 (x_g0 111 16 0 300 (x_iload 3 (x_iastore (x_aload 0 (x_g1 111 220 (x_aload 0 (x_g0 111 16 0 300 (x_iload 4 (x_iastore (x_aload 0 (x_dup (x_g0 111 16 0 300 (x_iconst 1 (x_iadd (x_p 111 16 0 300 (x_aload 0 (x_g0 111 16 0 300 (x_ireturn P)))))))))))))))))))))))))))))))) := ((xe_aload 0).trans (congrArg (x_aload 0) ((xe_g1 (kk := 111) rfl tl_11_17).trans (congrArg (x_g1 111 217) ((xe_aload 0).trans (congrArg (x_aload 0) ((xe_g0 (kk := 111) rfl tl_11_16).trans (congrArg (x_g0 111 16 0 300) ((xe_iload 1).trans (congrArg (x_iload 1) ((xe_iastore).trans (congrArg (x_iastore) ((xe_aload 0).trans (congrArg (x_aload 0) ((xe_g1 (kk := 111) rfl tl_11_18).trans (congrArg (x_g1 111 218) ((xe_aload 0).trans (congrArg (x_aload 0) ((xe_g0 (kk := 111) rfl tl_11_16).trans (congrArg (x_g0 111 16 0 300) ((xe_iload 2).trans (congrArg (x_iload 2) ((xe_iastore).trans (congrArg (x_iastore) ((xe_aload 0).trans (congrArg (x_aload 0) ((xe_g1 (kk := 111) rfl tl_11_19).trans (congrArg (x_g1 111 219) ((xe_aload 0).trans (congrArg (x_aload 0) ((xe_g0 (kk := 111) rfl tl_11_16).trans (congrArg (x_g0 111 16 0 300) ((xe_iload 3).trans (congrArg (x_iload 3) ((xe_iastore).trans (congrArg (x_iastore) ((xe_aload 0).trans (congrArg (x_aload 0) ((xe_g1 (kk := 111) rfl tl_11_20).trans (congrArg (x_g1 111 220) ((xe_aload 0).trans (congrArg (x_aload 0) ((xe_g0 (kk := 111) rfl tl_11_16).trans (congrArg (x_g0 111 16 0 300) ((xe_iload 4).trans (congrArg (x_iload 4) ((xe_iastore).trans (congrArg (x_iastore) ((xe_aload 0).trans (congrArg (x_aload 0) ((xe_dup).trans (congrArg (x_dup) ((xe_g0 (kk := 111) rfl tl_11_16).trans (congrArg (x_g0 111 16 0 300) ((xe_iconst 1).trans (congrArg (x_iconst 1) ((xe_iadd).trans (congrArg (x_iadd) ((xe_p (kk := 111) rfl tl_11_16).trans (congrArg (x_p 111 16 0 300) ((xe_aload 0).trans (congrArg (x_aload 0) ((xe_g0 (kk := 111) rfl tl_11_16).trans (congrArg (x_g0 111 16 0 300) (xe_ireturn)))))))))))))))))))))))))))))))))))))))))))))))))))))))))))))))))
theorem bk_X11_register_106 : ck_ fX11 (some .int) cX11_register 106 [.iinc 5 1, .goto 60] 112 = true := qck_r (nn_ _) (by decide +kernel)
theorem bs_X11_register_106 {P : Zt → Option Zv → Prop} (K : Int → Zl → List Zv → Zt → Prop) : sx_ K P [.iinc 5 1, .goto 60] 112 = x_iinc 5 1 (x_goto 60 K) := ((xe_iinc 5 1).trans (congrArg (x_iinc 5 1) (xe_goto 60)))
theorem bk_X11_register_0 : ck_ fX11 (some .int) cX11_register 0 [.iload 1, .aload 0, .tableswitch 0 11 15 #[]] 5 = true := qck_r (nn_ _) (by decide +kernel)
theorem bs_X11_register_0 {P : Zt → Option Zv → Prop} (K : Int → Zl → List Zv → Zt → Prop) : sx_ K P [.iload 1, .aload 0, .tableswitch 0 11 15 #[]] 5 = x_iload 1 (x_aload 0 (x_g0 111 15 0 200 (K 5))) := ((xe_iload 1).trans (congrArg (x_iload 1) ((xe_aload 0).trans (congrArg (x_aload 0) ((xe_g0 (kk := 111) rfl tl_11_15).trans (congrArg (x_g0 111 15 0 200) xe_nil))))))
theorem bk_X11_register_8 : ck_ fX11 (some .int) cX11_register 8 [.ifCond .eq 22, .iload 2, .aload 0, .tableswitch 0 11 12 #[]] 16 = true := qck_r (nn_ _) (by decide +kernel)
theorem bs_X11_register_8 {P : Zt → Option Zv → Prop} (K : Int → Zl → List Zv → Zt → Prop) : sx_ K P [.ifCond .eq 22, .iload 2, .aload 0, .tableswitch 0 11 12 #[]] 16 = x_ifCond .eq 22 K (x_iload 2 (x_aload 0 (x_g0 111 12 0 12 (K 16)))) := ((xe_ifCond .eq 22).trans (congrArg (x_ifCond .eq 22 K) ((xe_iload 2).trans (congrArg (x_iload 2) ((xe_aload 0).trans (congrArg (x_aload 0) ((xe_g0 (kk := 111) rfl tl_11_12).trans (congrArg (x_g0 111 12 0 12) xe_nil))))))))
theorem bk_X11_register_22 : ck_ fX11 (some .int) cX11_register 22 [.iconst (-2), .ireturn] 25 = true := qck_r (nn_ _) (by decide +kernel)
theorem bs_X11_register_22 {P : Zt → Option Zv → Prop} (K : Int → Zl → List Zv → Zt → Prop) : sx_ K P [.iconst (-2), .ireturn] 25 = x_iconst (-2) (x_ireturn P) := ((xe_iconst (-2)).trans (congrArg (x_iconst (-2)) (xe_ireturn)))
theorem bk_X11_register_19 : ck_ fX11 (some .int) cX11_register 19 [.ifCond .ne 25, .iconst (-2), .ireturn] 25 = true := qck_r (nn_ _) (by decide +kernel)
theorem bs_X11_register_19 {P : Zt → Option Zv → Prop} (K : Int → Zl → List Zv → Zt → Prop) : sx_ K P [.ifCond .ne 25, .iconst (-2), .ireturn] 25 = x_ifCond .ne 25 K (x_iconst (-2) (x_ireturn P)) := ((xe_ifCond .ne 25).trans (congrArg (x_ifCond .ne 25 K) ((xe_iconst (-2)).trans (congrArg (x_iconst (-2)) (xe_ireturn)))))
theorem bk_X11_register_25 : ck_ fX11 (some .int) cX11_register 25 [.iload 3, .iconst 0, .iconst 999] 30 = true := qck_r (nn_ _) (by decide +kernel)
theorem bs_X11_register_25 {P : Zt → Option Zv → Prop} (K : Int → Zl → List Zv → Zt → Prop) : sx_ K P [.iload 3, .iconst 0, .iconst 999] 30 = x_iload 3 (x_iconst 0 (x_iconst 999 (K 30))) := ((xe_iload 3).trans (congrArg (x_iload 3) ((xe_iconst 0).trans (congrArg (x_iconst 0) ((xe_iconst 999).trans (congrArg (x_iconst 999) xe_nil))))))
theorem bk_X11_register_33 : ck_ fX11 (some .int) cX11_register 33 [.ifCond .eq 54, .iload 4, .iconst 0, .iconst 999] 42 = true := qck_r (nn_ _) (by decide +kernel)
theorem bs_X11_register_33 {P : Zt → Option Zv → Prop} (K : Int → Zl → List Zv → Zt → Prop) : sx_ K P [.ifCond .eq 54, .iload 4, .iconst 0, .iconst 999] 42 = x_ifCond .eq 54 K (x_iload 4 (x_iconst 0 (x_iconst 999 (K 42)))) := ((xe_ifCond .eq 54).trans (congrArg (x_ifCond .eq 54 K) ((xe_iload 4).trans (congrArg (x_iload 4) ((xe_iconst 0).trans (congrArg (x_iconst 0) ((xe_iconst 999).trans (congrArg (x_iconst 999) xe_nil))))))))
theorem bk_X11_register_54 : ck_ fX11 (some .int) cX11_register 54 [.iconst (-3), .ireturn] 57 = true := qck_r (nn_ _) (by decide +kernel)
theorem bs_X11_register_54 {P : Zt → Option Zv → Prop} (K : Int → Zl → List Zv → Zt → Prop) : sx_ K P [.iconst (-3), .ireturn] 57 = x_iconst (-3) (x_ireturn P) := ((xe_iconst (-3)).trans (congrArg (x_iconst (-3)) (xe_ireturn)))
theorem bk_X11_register_45 : ck_ fX11 (some .int) cX11_register 45 [.ifCond .eq 54, .iload 3, .iload 4, .if_icmp .le 57, .iconst (-3), .ireturn] 57 = true := qck_r (nn_ _) (by decide +kernel)
theorem bs_X11_register_45 {P : Zt → Option Zv → Prop} (K : Int → Zl → List Zv → Zt → Prop) : sx_ K P [.ifCond .eq 54, .iload 3, .iload 4, .if_icmp .le 57, .iconst (-3), .ireturn] 57 = x_ifCond .eq 54 K (x_iload 3 (x_iload 4 (x_if_icmp .le 57 K (x_iconst (-3) (x_ireturn P))))) := ((xe_ifCond .eq 54).trans (congrArg (x_ifCond .eq 54 K) ((xe_iload 3).trans (congrArg (x_iload 3) ((xe_iload 4).trans (congrArg (x_iload 4) ((xe_if_icmp .le 57).trans (congrArg (x_if_icmp .le 57 K) ((xe_iconst (-3)).trans (congrArg (x_iconst (-3)) (xe_ireturn)))))))))))
theorem bk_X11_register_57 : ck_ fX11 (some .int) cX11_register 57 [.iconst 0, .istore 5] 60 = true := qck_r (nn_ _) (by decide +kernel)
theorem bs_X11_register_57 {P : Zt → Option Zv → Prop} (K : Int → Zl → List Zv → Zt → Prop) : sx_ K P [.iconst 0, .istore 5] 60 = x_iconst 0 (x_istore 5 (K 60)) := ((xe_iconst 0).trans (congrArg (x_iconst 0) ((xe_istore 5).trans (congrArg (x_istore 5) xe_nil))))
abbrev po_X11_register (T : Zt) (p c f t : Int) : Zt → Option Zv → Prop := fun T' r => ∃ x : Int, r = some (vI x) ∧ fr_ [(111, [16]), (217, []), (218, []), (219, []), (220, [])] T T' ∧ (x = -2 ∨ x = -3 ∨ x = -4 ∨ x = -5 ∨ x = T' 111 0 16)
/-- a club has entered -/
def HE_ (T : Zt) (c cl : Int) : Prop := ∃ j, 0 ≤ j ∧ j < T 208 0 c ∧ T 207 0 (12 * c + j) = cl
abbrev cX11_hasEntered : ByteArray := prog_13_method_27_code
def yX11_hasEntered : MethodName := ⟨RX11, "hasEntered", "(II)Z"⟩
def zX11_hasEntered : Zm := (RX11, cX11_hasEntered, 5, (some .boolean), { frames := 0, cells := 0, slots := 0, locals := 0 })
theorem bk_X11_hasEntered_41 : ck_ fX11 (some .boolean) cX11_hasEntered 41 [.istore 3, .iinc 4 1, .goto 5] 48 = true := qck_r (nn_ _) (by decide +kernel)
theorem bs_X11_hasEntered_41 {P : Zt → Option Zv → Prop} (K : Int → Zl → List Zv → Zt → Prop) : sx_ K P [.istore 3, .iinc 4 1, .goto 5] 48 = x_istore 3 (x_iinc 4 1 (x_goto 5 K)) := ((xe_istore 3).trans (congrArg (x_istore 3) ((xe_iinc 4 1).trans (congrArg (x_iinc 4 1) (xe_goto 5)))))
theorem bk_X11_hasEntered_5 : ck_ fX11 (some .boolean) cX11_hasEntered 5 [.iload 4, .aload 0, .tableswitch 0 11 8 #[], .iload 1, .iaload, .if_icmp .ge 48, .iload 3, .ifCond .ne 36, .aload 0, .tableswitch 0 11 7 #[], .iconst 12, .iload 1, .imul, .iload 4, .iadd, .iaload, .iload 2, .if_icmp .ne 40, .iconst 1, .goto 41] 40 = true := qck_r (nn_ _) (by decide +kernel)
theorem bs_X11_hasEntered_5 {P : Zt → Option Zv → Prop} (K : Int → Zl → List Zv → Zt → Prop) : sx_ K P [.iload 4, .aload 0, .tableswitch 0 11 8 #[], .iload 1, .iaload, .if_icmp .ge 48, .iload 3, .ifCond .ne 36, .aload 0, .tableswitch 0 11 7 #[], .iconst 12, .iload 1, .imul, .iload 4, .iadd, .iaload, .iload 2, .if_icmp .ne 40, .iconst 1, .goto 41] 40 = x_iload 4 (x_aload 0 (x_g1 111 208 (x_iload 1 (x_iaload (x_if_icmp .ge 48 K (x_iload 3 (x_ifCond .ne 36 K (x_aload 0 (x_g1 111 207 (x_iconst 12 (x_iload 1 (x_imul (x_iload 4 (x_iadd (x_iaload (x_iload 2 (x_if_icmp .ne 40 K (x_iconst 1 (x_goto 41 K))))))))))))))))))) := ((xe_iload 4).trans (congrArg (x_iload 4) ((xe_aload 0).trans (congrArg (x_aload 0) ((xe_g1 (kk := 111) rfl tl_11_8).trans (congrArg (x_g1 111 208) ((xe_iload 1).trans (congrArg (x_iload 1) ((xe_iaload).trans (congrArg (x_iaload) ((xe_if_icmp .ge 48).trans (congrArg (x_if_icmp .ge 48 K) ((xe_iload 3).trans (congrArg (x_iload 3) ((xe_ifCond .ne 36).trans (congrArg (x_ifCond .ne 36 K) ((xe_aload 0).trans (congrArg (x_aload 0) ((xe_g1 (kk := 111) rfl tl_11_7).trans (congrArg (x_g1 111 207) ((xe_iconst 12).trans (congrArg (x_iconst 12) ((xe_iload 1).trans (congrArg (x_iload 1) ((xe_imul).trans (congrArg (x_imul) ((xe_iload 4).trans (congrArg (x_iload 4) ((xe_iadd).trans (congrArg (x_iadd) ((xe_iaload).trans (congrArg (x_iaload) ((xe_iload 2).trans (congrArg (x_iload 2) ((xe_if_icmp .ne 40).trans (congrArg (x_if_icmp .ne 40 K) ((xe_iconst 1).trans (congrArg (x_iconst 1) (xe_goto 41)))))))))))))))))))))))))))))))))))))))
theorem bk_X11_hasEntered_48 : ck_ fX11 (some .boolean) cX11_hasEntered 48 [.iload 3, .ireturn] 50 = true := qck_r (nn_ _) (by decide +kernel)
theorem bs_X11_hasEntered_48 {P : Zt → Option Zv → Prop} (K : Int → Zl → List Zv → Zt → Prop) : sx_ K P [.iload 3, .ireturn] 50 = x_iload 3 (x_ireturn P) := ((xe_iload 3).trans (congrArg (x_iload 3) (xe_ireturn)))
theorem bk_X11_hasEntered_36 : ck_ fX11 (some .boolean) cX11_hasEntered 36 [.iconst 1, .goto 41] 40 = true := qck_r (nn_ _) (by decide +kernel)
theorem bs_X11_hasEntered_36 {P : Zt → Option Zv → Prop} (K : Int → Zl → List Zv → Zt → Prop) : sx_ K P [.iconst 1, .goto 41] 40 = x_iconst 1 (x_goto 41 K) := ((xe_iconst 1).trans (congrArg (x_iconst 1) (xe_goto 41)))
theorem bk_X11_hasEntered_40 : ck_ fX11 (some .boolean) cX11_hasEntered 40 [.iconst 0] 41 = true := qck_r (nn_ _) (by decide +kernel)
theorem bs_X11_hasEntered_40 {P : Zt → Option Zv → Prop} (K : Int → Zl → List Zv → Zt → Prop) : sx_ K P [.iconst 0] 41 = x_iconst 0 (K 41) := ((xe_iconst 0).trans (congrArg (x_iconst 0) xe_nil))
theorem bk_X11_hasEntered_0 : ck_ fX11 (some .boolean) cX11_hasEntered 0 [.iconst 0, .istore 3, .iconst 0, .istore 4] 5 = true := qck_r (nn_ _) (by decide +kernel)
theorem bs_X11_hasEntered_0 {P : Zt → Option Zv → Prop} (K : Int → Zl → List Zv → Zt → Prop) : sx_ K P [.iconst 0, .istore 3, .iconst 0, .istore 4] 5 = x_iconst 0 (x_istore 3 (x_iconst 0 (x_istore 4 (K 5)))) := ((xe_iconst 0).trans (congrArg (x_iconst 0) ((xe_istore 3).trans (congrArg (x_istore 3) ((xe_iconst 0).trans (congrArg (x_iconst 0) ((xe_istore 4).trans (congrArg (x_istore 4) xe_nil))))))))
abbrev po_X11_hasEntered (T : Zt) (c cl : Int) : Zt → Option Zv → Prop := fun T' r => T = T' ∧ ∃ x : Int, r = some (vI x) ∧ ((x = 1 ∧ HE_ T c cl) ∨ (x = 0 ∧ ¬ HE_ T c cl))
set_option maxHeartbeats 4000000 in
theorem ct_X11_hasEntered {T : Zt} {c cl : Int} (h1 : 0 ≤ c ∧ c < 4) : Ct_ yX11_hasEntered zX11_hasEntered T [vR 111 0, vI c, vI cl] (po_X11_hasEntered T c cl) := by
  refine ct_of pn_11 rfl rfl (Nat.le_of_ble_eq_true rfl) (fun hT hav => ?_)
  have hr_c : -2147483648 ≤ c ∧ c ≤ 2147483647 := hav (vI c) (by simp)
  have hr_cl : -2147483648 ≤ cl ∧ cl ≤ 2147483647 := hav (vI cl) (by simp)
  have hz : zX11_hasEntered.2.2.2.1 = some .boolean → ∀ (T' : Zt) (x : Int), po_X11_hasEntered T c cl T' (some (vI x)) → 0 ≤ x ∧ x ≤ 1 := fun _ T' x h => by obtain ⟨-, y, e, hy⟩ := h; cases e; omega
  show J_ zX11_hasEntered T (po_X11_hasEntered T c cl) 0 0 0 [some (vR 111 0), some (vI c), some (vI cl), none, none] [] T
  have c_5 : ∀ (nn : Nat) (h : Int) (k : Int), ((12 - k).toNat) ≤ nn → (0 ≤ k) → ((h = 1 ∧ ∃ j, 0 ≤ j ∧ j < T 208 0 c ∧ T 207 0 (12 * c + j) = cl) ∨ (h = 0 ∧ ∀ j, 0 ≤ j → j < k → T 207 0 (12 * c + j) ≠ cl)) → J_ zX11_hasEntered T (po_X11_hasEntered T c cl) 0 0 5 [some (vR 111 0), some (vI c), some (vI cl), some (vI h), some (vI k)] [] T := by
    intro nn
    induction nn using Nat.strongRecOn with
    | _ nn ih_5 =>
      intro h k hm_5 k1 k2
      have c_41 : ∀ (v : Int), (k < T 208 0 c ∧ T 208 0 c ≤ 12) → ((v = 1 ∧ ∃ j, 0 ≤ j ∧ j < T 208 0 c ∧ T 207 0 (12 * c + j) = cl) ∨ (v = 0 ∧ ∀ j, 0 ≤ j → j < k + 1 → T 207 0 (12 * c + j) ≠ cl)) → J_ zX11_hasEntered T (po_X11_hasEntered T c cl) 0 0 41 [some (vR 111 0), some (vI c), some (vI cl), some (vI h), some (vI k)] [vI v] T := by
        intro v v0 v1
        refine j_blx (F := fX11) tb_X11 (nn_ _) bk_X11_hasEntered_41 bs_X11_hasEntered_41 hz (fun K hK => ?_)
        refine rg_i (by omega) ?_
        refine hK 5 [some (vR 111 0), some (vI c), some (vI cl), some (vI v), some (vI (k + 1))] [] T ?_
        refine ih_5 _ ?_ v (k + 1) (Nat.le_refl _) ?_ ?_
        · clear k2 v1; omega
        · omega
        · exact v1
      refine j_blx (F := fX11) tb_X11 (nn_ _) bk_X11_hasEntered_5 bs_X11_hasEntered_5 hz (fun K hK => ?_)
      refine ix_i (by omega) ?_
      intro b1 b1b
      refine And.intro (fun c2 => ?_) (fun c2 => ?_)
      · refine hK 48 _ [] T ?_
        refine j_blx (F := fX11) tb_X11 (nn_ _) bk_X11_hasEntered_48 bs_X11_hasEntered_48 hz (fun K hK => ?_)
        refine (show po_X11_hasEntered T c cl T (some (vI h)) from ?_)
        exact ⟨rfl, _, rfl, k2.imp id (fun z => ⟨z.1, fun ⟨j, a, b, e9⟩ => z.2 j a (by omega) e9⟩)⟩
      · refine And.intro (fun c3 => ?_) (fun c3 => ?_)
        · refine hK 36 _ [] T ?_
          refine j_blx (F := fX11) tb_X11 (nn_ _) bk_X11_hasEntered_36 bs_X11_hasEntered_36 hz (fun K hK => ?_)
          refine hK 41 _ [vI 1] T ?_
          refine c_41 1 ?_ ?_
          · omega
          · first | exact Or.inl ⟨rfl, k, k1, by omega, by omega⟩ | (rcases k2 with z | z; exact Or.inl ⟨rfl, z.2⟩; omega)
        · refine rg_i (by omega) ?_
          refine rg_i (by omega) ?_
          refine ix_i (by omega) ?_
          intro b4 b4b
          refine And.intro (fun c5 => ?_) (fun c5 => ?_)
          · refine hK 40 _ [] T ?_
            refine j_blx (F := fX11) tb_X11 (nn_ _) bk_X11_hasEntered_40 bs_X11_hasEntered_40 hz (fun K hK => ?_)
            refine hK 41 _ [vI 0] T ?_
            refine c_41 0 ?_ ?_
            · omega
            · refine Or.inr ⟨rfl, fun j a b => ?_⟩
              rcases k2 with z | z
              · omega
              · by_cases e : j = k
                · subst e; omega
                · exact z.2 j a (by omega)
          · refine hK 41 _ [vI 1] T ?_
            refine c_41 1 ?_ ?_
            · omega
            · first | exact Or.inl ⟨rfl, k, k1, by omega, by omega⟩ | (rcases k2 with z | z; exact Or.inl ⟨rfl, z.2⟩; omega)
  refine j_blx (F := fX11) tb_X11 (nn_ _) bk_X11_hasEntered_0 bs_X11_hasEntered_0 hz (fun K hK => ?_)
  refine hK 5 [some (vR 111 0), some (vI c), some (vI cl), some (vI 0), some (vI 0)] [] T ?_
  refine c_5 _ 0 0 (Nat.le_refl _) ?_ ?_
  · omega
  · exact Or.inr ⟨rfl, fun j a b => by omega⟩
theorem ph_n : ∀ (m n : Nat) (f : Nat → Nat), (∀ i, i < n → f i < m) → (∀ i j, i < n → j < n → f i = f j → i = j) → n ≤ m
  | 0, 0, _, _, _ => Nat.le_refl 0
  | 0, n + 1, f, h, _ => absurd (h 0 (by omega)) (by omega)
  | m + 1, 0, _, _, _ => by omega
  | m + 1, k + 1, f, h, g => by
    have := ph_n m k (fun i => if f i = m then f k else f i) (fun i hi => by
      have hk := h k (by omega)
      have h1 := h i (by omega)
      by_cases e : f i = m
      · simp only [e, if_true]
        have : f k ≠ m := fun z => absurd (g i k (by omega) (by omega) (e.trans z.symm)) (by omega)
        omega
      · simp only [e, if_false]; omega) (fun i j hi hj e => by
      by_cases a : f i = m <;> by_cases b : f j = m
      · exact g i j (by omega) (by omega) (a.trans b.symm)
      · simp only [a, b, if_true, if_false] at e
        exact absurd (g k j (by omega) (by omega) e) (by omega)
      · simp only [a, b, if_true, if_false] at e
        exact absurd (g i k (by omega) (by omega) e) (by omega)
      · simp only [a, b, if_false] at e
        exact g i j (by omega) (by omega) e)
    omega
theorem ph_i {n m : Int} (f : Int → Int) (h0 : 0 ≤ n) (hm : 0 ≤ m) (h : ∀ i, 0 ≤ i → i < n → 0 ≤ f i ∧ f i < m) (g : ∀ i j, 0 ≤ i → i < j → j < n → f i ≠ f j) : n ≤ m := by
  have := ph_n m.toNat n.toNat (fun i => (f i).toNat) (fun i hi => by have := h i (by omega) (by omega); omega) (fun i j hi hj e => by
    have h1 := h i (by omega) (by omega)
    have h2 := h j (by omega) (by omega)
    have e2 : f i = f j := by omega
    rcases Nat.lt_trichotomy i j with z | z | z
    · exact absurd e2 (g i j (by omega) (by omega) (by omega))
    · exact z
    · exact absurd e2.symm (g j i (by omega) (by omega) (by omega)))
  omega
def EN_ (T : Zt) : Prop := ∀ c : Int, 0 ≤ c → c < 4 → (∀ j : Int, 0 ≤ j → j < T 208 0 c → 0 ≤ T 207 0 (12 * c + j) ∧ T 207 0 (12 * c + j) < T 111 0 12) ∧ (∀ i j : Int, 0 ≤ i → i < j → j < T 208 0 c → T 207 0 (12 * c + i) ≠ T 207 0 (12 * c + j))
theorem EN__f {ws : List (Nat × List Int)} {T T' : Zt} (h : EN_ T) (f : fr_ ws T T') (w : (∀ j, fw_ ws 208 j = false) ∧ (∀ j, fw_ ws 207 j = false) ∧ fw_ ws 111 12 = false ∧ True) : EN_ T' := by
  have e0 : ∀ i j, T' 208 i j = T 208 i j := fun i j => f 208 i j (w.1 j)
  have e1 : ∀ i j, T' 207 i j = T 207 i j := fun i j => f 207 i j (w.2.1 j)
  have e2 : ∀ i, T' 111 i 12 = T 111 i 12 := fun i => f 111 i 12 w.2.2.1
  simp only [EN_, e0, e1, e2] at h ⊢
  exact h
abbrev cX11_enter : ByteArray := prog_13_method_28_code
def yX11_enter : MethodName := ⟨RX11, "enter", "(II)I"⟩
def zX11_enter : Zm := (RX11, cX11_enter, 3, (some .int), { frames := 2, cells := 0, slots := 0, locals := 43 })
theorem bk_X11_enter_0 : ck_ fX11 (some .int) cX11_enter 0 [.iload 1, .aload 0, .tableswitch 0 11 6 #[]] 5 = true := qck_r (nn_ _) (by decide +kernel)
theorem bs_X11_enter_0 {P : Zt → Option Zv → Prop} (K : Int → Zl → List Zv → Zt → Prop) : sx_ K P [.iload 1, .aload 0, .tableswitch 0 11 6 #[]] 5 = x_iload 1 (x_aload 0 (x_g0 111 6 0 4 (K 5))) := ((xe_iload 1).trans (congrArg (x_iload 1) ((xe_aload 0).trans (congrArg (x_aload 0) ((xe_g0 (kk := 111) rfl tl_11_6).trans (congrArg (x_g0 111 6 0 4) xe_nil))))))
theorem bk_X11_enter_8 : ck_ fX11 (some .int) cX11_enter 8 [.ifCond .eq 22, .iload 2, .aload 0, .tableswitch 0 11 12 #[]] 16 = true := qck_r (nn_ _) (by decide +kernel)
theorem bs_X11_enter_8 {P : Zt → Option Zv → Prop} (K : Int → Zl → List Zv → Zt → Prop) : sx_ K P [.ifCond .eq 22, .iload 2, .aload 0, .tableswitch 0 11 12 #[]] 16 = x_ifCond .eq 22 K (x_iload 2 (x_aload 0 (x_g0 111 12 0 12 (K 16)))) := ((xe_ifCond .eq 22).trans (congrArg (x_ifCond .eq 22 K) ((xe_iload 2).trans (congrArg (x_iload 2) ((xe_aload 0).trans (congrArg (x_aload 0) ((xe_g0 (kk := 111) rfl tl_11_12).trans (congrArg (x_g0 111 12 0 12) xe_nil))))))))
theorem bk_X11_enter_22 : ck_ fX11 (some .int) cX11_enter 22 [.iconst (-2), .ireturn] 25 = true := qck_r (nn_ _) (by decide +kernel)
theorem bs_X11_enter_22 {P : Zt → Option Zv → Prop} (K : Int → Zl → List Zv → Zt → Prop) : sx_ K P [.iconst (-2), .ireturn] 25 = x_iconst (-2) (x_ireturn P) := ((xe_iconst (-2)).trans (congrArg (x_iconst (-2)) (xe_ireturn)))
theorem bk_X11_enter_19 : ck_ fX11 (some .int) cX11_enter 19 [.ifCond .ne 25, .iconst (-2), .ireturn] 25 = true := qck_r (nn_ _) (by decide +kernel)
theorem bs_X11_enter_19 {P : Zt → Option Zv → Prop} (K : Int → Zl → List Zv → Zt → Prop) : sx_ K P [.ifCond .ne 25, .iconst (-2), .ireturn] 25 = x_ifCond .ne 25 K (x_iconst (-2) (x_ireturn P)) := ((xe_ifCond .ne 25).trans (congrArg (x_ifCond .ne 25 K) ((xe_iconst (-2)).trans (congrArg (x_iconst (-2)) (xe_ireturn)))))
theorem bk_X11_enter_25 : ck_ fX11 (some .int) cX11_enter 25 [.aload 0, .tableswitch 0 11 9 #[], .iload 1, .baload, .ifCond .ne 43, .aload 0, .iload 1, .iload 2] 37 = true := qck_r (nn_ _) (by decide +kernel)
theorem bs_X11_enter_25 {P : Zt → Option Zv → Prop} (K : Int → Zl → List Zv → Zt → Prop) : sx_ K P [.aload 0, .tableswitch 0 11 9 #[], .iload 1, .baload, .ifCond .ne 43, .aload 0, .iload 1, .iload 2] 37 = x_aload 0 (x_g1 111 209 (x_iload 1 (x_baload (x_ifCond .ne 43 K (x_aload 0 (x_iload 1 (x_iload 2 (K 37)))))))) := ((xe_aload 0).trans (congrArg (x_aload 0) ((xe_g1 (kk := 111) rfl tl_11_9).trans (congrArg (x_g1 111 209) ((xe_iload 1).trans (congrArg (x_iload 1) ((xe_baload).trans (congrArg (x_baload) ((xe_ifCond .ne 43).trans (congrArg (x_ifCond .ne 43 K) ((xe_aload 0).trans (congrArg (x_aload 0) ((xe_iload 1).trans (congrArg (x_iload 1) ((xe_iload 2).trans (congrArg (x_iload 2) xe_nil))))))))))))))))
theorem bk_X11_enter_43 : ck_ fX11 (some .int) cX11_enter 43 [.iconst (-4), .ireturn] 46 = true := qck_r (nn_ _) (by decide +kernel)
theorem bs_X11_enter_43 {P : Zt → Option Zv → Prop} (K : Int → Zl → List Zv → Zt → Prop) : sx_ K P [.iconst (-4), .ireturn] 46 = x_iconst (-4) (x_ireturn P) := ((xe_iconst (-4)).trans (congrArg (x_iconst (-4)) (xe_ireturn)))
set_option maxRecDepth 100000 in
theorem cl_X11_340 : cv_ RX11 340 yX11_hasEntered zX11_hasEntered 11 2 := ⟨gi_V (lw_b8 183 (by decide +kernel) rfl : Cond.methodLink RX11 340 yX11_hasEntered ∈ lw_g) (lw_b8 185 (by decide +kernel) rfl : Cond.instanceMethod yX11_hasEntered ∈ lw_g) (lw_sel 19 rfl : Cond.selects yX11_hasEntered.cls yX11_hasEntered yX11_hasEntered ∈ lw_g) (lw_b1 10 (by decide +kernel) rfl : Cond.initialized yX11_hasEntered.cls ∈ lw_g) (lw_b8 186 rfl rfl : Cond.code yX11_hasEntered cX11_hasEntered 5 (some .boolean) ∈ lw_g), ⟨by decide, by decide, by decide +kernel⟩, ⟨_, _, rfl⟩⟩
theorem bk_X11_enter_40 : ck_ fX11 (some .int) cX11_enter 40 [.ifCond .eq 46, .iconst (-4), .ireturn] 46 = true := qck_r (nn_ _) (by decide +kernel)
theorem bs_X11_enter_40 {P : Zt → Option Zv → Prop} (K : Int → Zl → List Zv → Zt → Prop) : sx_ K P [.ifCond .eq 46, .iconst (-4), .ireturn] 46 = x_ifCond .eq 46 K (x_iconst (-4) (x_ireturn P)) := ((xe_ifCond .eq 46).trans (congrArg (x_ifCond .eq 46 K) ((xe_iconst (-4)).trans (congrArg (x_iconst (-4)) (xe_ireturn)))))
theorem bk_X11_enter_46 : ck_ fX11 (some .int) cX11_enter 46 [.aload 0, .tableswitch 0 11 7 #[], .iconst 12, .iload 1, .imul, .aload 0, .tableswitch 0 11 8 #[], .iload 1, .iaload, .iadd, .iload 2, .iastore, .aload 0, .tableswitch 0 11 8 #[], .iload 1, .dup2, .iaload, .iconst 1, .iadd, .iastore, .aload 0, .tableswitch 0 11 8 #[], .iload 1, .iaload, .ireturn] 80 = true := qck_r (nn_ _) (by decide +kernel)
theorem bs_X11_enter_46 {P : Zt → Option Zv → Prop} (K : Int → Zl → List Zv → Zt → Prop) : sx_ K P [.aload 0, .tableswitch 0 11 7 #[], .iconst 12, .iload 1, .imul, .aload 0, .tableswitch 0 11 8 #[], .iload 1, .iaload, .iadd, .iload 2, .iastore, .aload 0, .tableswitch 0 11 8 #[], .iload 1, .dup2, .iaload, .iconst 1, .iadd, .iastore, .aload 0, .tableswitch 0 11 8 #[], .iload 1, .iaload, .ireturn] 80 = x_aload 0 (x_g1 111 207 (x_iconst 12 (x_iload 1 (x_imul (x_aload 0 (x_g1 111 208 (x_iload 1 (x_iaload (x_iadd (x_iload 2 (x_iastore (x_aload 0 (x_g1 111 208 (x_iload 1 (x_dup2 (x_iaload (x_iconst 1 (x_iadd (x_iastore (x_aload 0 (x_g1 111 208 (x_iload 1 (x_iaload (x_ireturn P)))))))))))))))))))))))) := ((xe_aload 0).trans (congrArg (x_aload 0) ((xe_g1 (kk := 111) rfl tl_11_7).trans (congrArg (x_g1 111 207) ((xe_iconst 12).trans (congrArg (x_iconst 12) ((xe_iload 1).trans (congrArg (x_iload 1) ((xe_imul).trans (congrArg (x_imul) ((xe_aload 0).trans (congrArg (x_aload 0) ((xe_g1 (kk := 111) rfl tl_11_8).trans (congrArg (x_g1 111 208) ((xe_iload 1).trans (congrArg (x_iload 1) ((xe_iaload).trans (congrArg (x_iaload) ((xe_iadd).trans (congrArg (x_iadd) ((xe_iload 2).trans (congrArg (x_iload 2) ((xe_iastore).trans (congrArg (x_iastore) ((xe_aload 0).trans (congrArg (x_aload 0) ((xe_g1 (kk := 111) rfl tl_11_8).trans (congrArg (x_g1 111 208) ((xe_iload 1).trans (congrArg (x_iload 1) ((xe_dup2).trans (congrArg (x_dup2) ((xe_iaload).trans (congrArg (x_iaload) ((xe_iconst 1).trans (congrArg (x_iconst 1) ((xe_iadd).trans (congrArg (x_iadd) ((xe_iastore).trans (congrArg (x_iastore) ((xe_aload 0).trans (congrArg (x_aload 0) ((xe_g1 (kk := 111) rfl tl_11_8).trans (congrArg (x_g1 111 208) ((xe_iload 1).trans (congrArg (x_iload 1) ((xe_iaload).trans (congrArg (x_iaload) (xe_ireturn)))))))))))))))))))))))))))))))))))))))))))))))))
abbrev po_X11_enter (T : Zt) (c cl : Int) : Zt → Option Zv → Prop := fun T' r => ∃ x : Int, r = some (vI x) ∧ fr_ [(207, []), (208, [])] T T' ∧ (EN_ T')
set_option maxHeartbeats 4000000 in
theorem ct_X11_enter {T : Zt} {c cl : Int} (hEN : EN_ T) : Ct_ yX11_enter zX11_enter T [vR 111 0, vI c, vI cl] (po_X11_enter T c cl) := by
  refine ct_of pn_11 rfl rfl (Nat.le_of_ble_eq_true rfl) (fun hT hav => ?_)
  have hr_c : -2147483648 ≤ c ∧ c ≤ 2147483647 := hav (vI c) (by simp)
  have hr_cl : -2147483648 ≤ cl ∧ cl ≤ 2147483647 := hav (vI cl) (by simp)
  have hz : zX11_enter.2.2.2.1 = some .boolean → ∀ (T' : Zt) (x : Int), po_X11_enter T c cl T' (some (vI x)) → 0 ≤ x ∧ x ≤ 1 := fun h => by cases h
  show J_ zX11_enter T (po_X11_enter T c cl) 0 0 0 [some (vR 111 0), some (vI c), some (vI cl)] [] T
  refine j_blx (F := fX11) tb_X11 (nn_ _) bk_X11_enter_0 bs_X11_enter_0 hz (fun K hK => ?_)
  intro b1 b1b
  refine hK 5 _ [vI (T 111 0 6), vI c] T ?_
  refine j_callS (y := yX11_isOf) (Yc := zX11_isOf) (rest := []) [vI c, vI (T 111 0 6)] (ct_X11_isOf (T := T) (by omega)) cl_X11_317 (qd_c (by decide +kernel)) (nn_ _) rfl (rf_of rfl) (Nat.le_of_ble_eq_true rfl) (Nat.le_of_ble_eq_true rfl) (Nat.le_of_ble_eq_true rfl) rfl ?_
  rintro _ _ ⟨rfl, x2, rfl, hx2⟩
  show J_ zX11_enter T (po_X11_enter T c cl) 0 0 8 _ [vI x2] T
  refine j_blx (F := fX11) tb_X11 (nn_ _) bk_X11_enter_8 bs_X11_enter_8 hz (fun K hK => ?_)
  refine And.intro (fun c3 => ?_) (fun c3 => ?_)
  · refine hK 22 _ [] T ?_
    refine j_blx (F := fX11) tb_X11 (nn_ _) bk_X11_enter_22 bs_X11_enter_22 hz (fun K hK => ?_)
    refine (show po_X11_enter T c cl T (some (vI (-2))) from ?_)
    exact ⟨_, rfl, fr_0 _ _, hEN⟩
  · intro b4 b4b
    refine hK 16 _ [vI (T 111 0 12), vI cl] T ?_
    refine j_callS (y := yX11_isOf) (Yc := zX11_isOf) (rest := []) [vI cl, vI (T 111 0 12)] (ct_X11_isOf (T := T) (by omega)) cl_X11_317 (qd_c (by decide +kernel)) (nn_ _) rfl (rf_of rfl) (Nat.le_of_ble_eq_true rfl) (Nat.le_of_ble_eq_true rfl) (Nat.le_of_ble_eq_true rfl) rfl ?_
    rintro _ _ ⟨rfl, x5, rfl, hx5⟩
    show J_ zX11_enter T (po_X11_enter T c cl) 0 0 19 _ [vI x5] T
    refine j_blx (F := fX11) tb_X11 (nn_ _) bk_X11_enter_19 bs_X11_enter_19 hz (fun K hK => ?_)
    refine And.intro (fun c6 => ?_) (fun c6 => ?_)
    · refine hK 25 _ [] T ?_
      refine j_blx (F := fX11) tb_X11 (nn_ _) bk_X11_enter_25 bs_X11_enter_25 hz (fun K hK => ?_)
      refine ix_i (by omega) ?_
      intro b7 b7b
      refine And.intro (fun c8 => ?_) (fun c8 => ?_)
      · refine hK 43 _ [] T ?_
        refine j_blx (F := fX11) tb_X11 (nn_ _) bk_X11_enter_43 bs_X11_enter_43 hz (fun K hK => ?_)
        refine (show po_X11_enter T c cl T (some (vI (-4))) from ?_)
        exact ⟨_, rfl, fr_0 _ _, hEN⟩
      · refine hK 37 _ [vI cl, vI c, vR 111 0] T ?_
        refine j_callV (y := yX11_hasEntered) (Yc := zX11_hasEntered) (rest := []) [vI c, vI cl] (ct_X11_hasEntered (T := T) (by omega)) cl_X11_340 (qd_c (by decide +kernel)) (nn_ _) rfl (rf_of rfl) (Nat.le_of_ble_eq_true rfl) (Nat.le_of_ble_eq_true rfl) (Nat.le_of_ble_eq_true rfl) rfl ?_
        rintro _ _ ⟨rfl, x9, rfl, hx9⟩
        show J_ zX11_enter T (po_X11_enter T c cl) 0 0 40 _ [vI x9] T
        refine j_blx (F := fX11) tb_X11 (nn_ _) bk_X11_enter_40 bs_X11_enter_40 hz (fun K hK => ?_)
        refine And.intro (fun c10 => ?_) (fun c10 => ?_)
        · have hno : ∀ j, 0 ≤ j → j < T 208 0 c → T 207 0 (12 * c + j) ≠ cl := by rcases hx9 with z | z; omega; exact fun j a b e9 => z.2 ⟨j, a, b, e9⟩
          have hbe : 0 ≤ T 208 0 c ∧ T 208 0 c ≤ 12 := bd_a hT 208 (by decide +kernel : ta_ 208 = some (1, some 4, 0, 12)) 0 (by omega)
          have hb_12 : 0 ≤ T 111 0 12 ∧ T 111 0 12 ≤ 12 := bd_f hT 111 12 (by decide +kernel : (tf_ 111)[12]? = some (0, 0, 0, 12)) 0
          have hlt : T 208 0 c + 1 ≤ T 111 0 12 := by
            refine ph_i (fun i => if i = T 208 0 c then cl else T 207 0 (12 * c + i)) (by omega) (by omega) (fun i a b => ?_) (fun i j a b d => ?_)
            · show 0 ≤ (if i = T 208 0 c then cl else T 207 0 (12 * c + i)) ∧ (if i = T 208 0 c then cl else T 207 0 (12 * c + i)) < T 111 0 12
              by_cases z : i = T 208 0 c
              · rw [if_pos z]; omega
              · rw [if_neg z]; exact (hEN c (by omega) (by omega)).1 i a (by omega)
            · show (if i = T 208 0 c then cl else T 207 0 (12 * c + i)) ≠ (if j = T 208 0 c then cl else T 207 0 (12 * c + j))
              rw [if_neg (by omega : ¬ i = T 208 0 c)]
              by_cases z : j = T 208 0 c
              · rw [if_pos z]; exact hno i a (by omega)
              · rw [if_neg z]; exact (hEN c (by omega) (by omega)).2 i j a b (by omega)
          refine hK 46 _ [] T ?_
          refine j_blx (F := fX11) tb_X11 (nn_ _) bk_X11_enter_46 bs_X11_enter_46 hz (fun K hK => ?_)
          refine rg_i (by omega) ?_
          refine ix_i (by omega) ?_
          intro b11 b11b
          refine rg_i (by omega) ?_
          refine iy_i (by omega) (by omega) ?_
          refine x_nm (fun U12 hU12 => ?_)
          have e13 := up_f hU12
          refine ix_i (by omega) ?_
          intro b14 b14b
          have e15 : U12 208 0 c = T 208 0 c := up_k hU12 (by exact Nat.ne_of_beq_eq_false rfl) 0 c
          rw [e15] at b14 b14b ⊢
          refine rg_i (by omega) ?_
          refine iy_i (by omega) (by omega) ?_
          refine x_nm (fun U16 hU16 => ?_)
          have e17 := up_f hU16
          refine ix_i (by omega) ?_
          intro b18 b18b
          have e19 : U16 208 0 c = (T 208 0 c) + 1 := up_f hU16
          rw [e19] at b18 b18b ⊢
          refine (show po_X11_enter T c cl U16 (some (vI ((T 208 0 c) + 1))) from ?_)
          have ed : ∀ z, z ≠ c → U16 208 0 z = T 208 0 z := fun z hz => (up_g hU16 (fun q => hz q.2.2)).trans (up_k hU12 (by exact Nat.ne_of_beq_eq_false rfl) 0 z)
          have et : ∀ z, z ≠ 12 * c + T 208 0 c → U16 207 0 z = T 207 0 z := fun z hz => (up_k hU16 (by exact Nat.ne_of_beq_eq_false rfl) 0 z).trans (up_g hU12 (fun q => hz q.2.2))
          have ee : U16 207 0 (12 * c + T 208 0 c) = cl := (up_k hU16 (by exact Nat.ne_of_beq_eq_false rfl) 0 _).trans (up_f hU12)
          have ec : U16 208 0 c = T 208 0 c + 1 := by omega
          have e12 : U16 111 0 12 = T 111 0 12 := (up_k hU16 (by exact Nat.ne_of_beq_eq_false rfl) 0 12).trans (up_k hU12 (by exact Nat.ne_of_beq_eq_false rfl) 0 12)
          refine ⟨_, rfl, fr_u (fr_u (fr_0 _ _) hU12 rfl) hU16 rfl, fun d a b => ?_⟩
          have hd := hEN d a b
          have bdd := bd_a hT 208 (by decide +kernel : ta_ 208 = some (1, some 4, 0, 12)) 0 a
          by_cases z : d = c
          · subst z
            rw [ec, e12]
            refine ⟨fun j p q => ?_, fun i j p q r => ?_⟩
            · by_cases y : j = T 208 0 d
              · rw [y, ee]; omega
              · rw [et _ (by omega)]; exact hd.1 j p (by omega)
            · rw [et (12 * d + i) (by omega)]
              by_cases y : j = T 208 0 d
              · rw [y, ee]; exact hno i p (by omega)
              · rw [et _ (by omega)]; exact hd.2 i j p q (by omega)
          · rw [ed d z, e12]
            refine ⟨fun j p q => ?_, fun i j p q r => ?_⟩
            · rw [et _ (by omega)]; exact hd.1 j p q
            · rw [et _ (by omega), et _ (by omega)]; exact hd.2 i j p q r
        · refine (show po_X11_enter T c cl T (some (vI (-4))) from ?_)
          exact ⟨_, rfl, fr_0 _ _, hEN⟩
    · refine (show po_X11_enter T c cl T (some (vI (-2))) from ?_)
      exact ⟨_, rfl, fr_0 _ _, hEN⟩
abbrev cX11_match : ByteArray := prog_13_method_31_code
def yX11_match : MethodName := ⟨RX11, "match", "(II)I"⟩
def zX11_match : Zm := (RX11, cX11_match, 3, (some .int), { frames := 2, cells := 0, slots := 0, locals := 43 })
theorem bk_X11_match_0 : ck_ fX11 (some .int) cX11_match 0 [.iload 1, .aload 0, .tableswitch 0 11 29 #[]] 5 = true := qck_r (nn_ _) (by decide +kernel)
theorem bs_X11_match_0 {P : Zt → Option Zv → Prop} (K : Int → Zl → List Zv → Zt → Prop) : sx_ K P [.iload 1, .aload 0, .tableswitch 0 11 29 #[]] 5 = x_iload 1 (x_aload 0 (x_g0 111 29 0 400 (K 5))) := ((xe_iload 1).trans (congrArg (x_iload 1) ((xe_aload 0).trans (congrArg (x_aload 0) ((xe_g0 (kk := 111) rfl tl_11_29).trans (congrArg (x_g0 111 29 0 400) xe_nil))))))
theorem bk_X11_match_8 : ck_ fX11 (some .int) cX11_match 8 [.ifCond .ne 14, .iconst (-2), .ireturn] 14 = true := qck_r (nn_ _) (by decide +kernel)
theorem bs_X11_match_8 {P : Zt → Option Zv → Prop} (K : Int → Zl → List Zv → Zt → Prop) : sx_ K P [.ifCond .ne 14, .iconst (-2), .ireturn] 14 = x_ifCond .ne 14 K (x_iconst (-2) (x_ireturn P)) := ((xe_ifCond .ne 14).trans (congrArg (x_ifCond .ne 14 K) ((xe_iconst (-2)).trans (congrArg (x_iconst (-2)) (xe_ireturn)))))
theorem bk_X11_match_14 : ck_ fX11 (some .int) cX11_match 14 [.iload 2] 15 = true := qck_r (nn_ _) (by decide +kernel)
theorem bs_X11_match_14 {P : Zt → Option Zv → Prop} (K : Int → Zl → List Zv → Zt → Prop) : sx_ K P [.iload 2] 15 = x_iload 2 (K 15) := ((xe_iload 2).trans (congrArg (x_iload 2) xe_nil))
theorem ds_X11_match_15 : decode cX11_match 15 = .ok (.tableswitch 90 0 6 #[41, 48, 55, 62, 69, 76, 83], 41) := by decide +kernel
theorem bk_X11_match_56 : ck_ fX11 (some .int) cX11_match 56 [.aload 0, .tableswitch 0 11 30 #[], .iload 1, .iaload, .ireturn] 63 = true := qck_r (nn_ _) (by decide +kernel)
theorem bs_X11_match_56 {P : Zt → Option Zv → Prop} (K : Int → Zl → List Zv → Zt → Prop) : sx_ K P [.aload 0, .tableswitch 0 11 30 #[], .iload 1, .iaload, .ireturn] 63 = x_aload 0 (x_g1 111 230 (x_iload 1 (x_iaload (x_ireturn P)))) := ((xe_aload 0).trans (congrArg (x_aload 0) ((xe_g1 (kk := 111) rfl tl_11_30).trans (congrArg (x_g1 111 230) ((xe_iload 1).trans (congrArg (x_iload 1) ((xe_iaload).trans (congrArg (x_iaload) (xe_ireturn)))))))))
theorem bk_X11_match_63 : ck_ fX11 (some .int) cX11_match 63 [.aload 0, .tableswitch 0 11 31 #[], .iload 1, .iaload, .ireturn] 70 = true := qck_r (nn_ _) (by decide +kernel)
theorem bs_X11_match_63 {P : Zt → Option Zv → Prop} (K : Int → Zl → List Zv → Zt → Prop) : sx_ K P [.aload 0, .tableswitch 0 11 31 #[], .iload 1, .iaload, .ireturn] 70 = x_aload 0 (x_g1 111 231 (x_iload 1 (x_iaload (x_ireturn P)))) := ((xe_aload 0).trans (congrArg (x_aload 0) ((xe_g1 (kk := 111) rfl tl_11_31).trans (congrArg (x_g1 111 231) ((xe_iload 1).trans (congrArg (x_iload 1) ((xe_iaload).trans (congrArg (x_iaload) (xe_ireturn)))))))))
theorem bk_X11_match_70 : ck_ fX11 (some .int) cX11_match 70 [.aload 0, .tableswitch 0 11 32 #[], .iload 1, .iaload, .ireturn] 77 = true := qck_r (nn_ _) (by decide +kernel)
theorem bs_X11_match_70 {P : Zt → Option Zv → Prop} (K : Int → Zl → List Zv → Zt → Prop) : sx_ K P [.aload 0, .tableswitch 0 11 32 #[], .iload 1, .iaload, .ireturn] 77 = x_aload 0 (x_g1 111 232 (x_iload 1 (x_iaload (x_ireturn P)))) := ((xe_aload 0).trans (congrArg (x_aload 0) ((xe_g1 (kk := 111) rfl tl_11_32).trans (congrArg (x_g1 111 232) ((xe_iload 1).trans (congrArg (x_iload 1) ((xe_iaload).trans (congrArg (x_iaload) (xe_ireturn)))))))))
theorem bk_X11_match_77 : ck_ fX11 (some .int) cX11_match 77 [.aload 0, .tableswitch 0 11 33 #[], .iload 1, .iaload, .ireturn] 84 = true := qck_r (nn_ _) (by decide +kernel)
theorem bs_X11_match_77 {P : Zt → Option Zv → Prop} (K : Int → Zl → List Zv → Zt → Prop) : sx_ K P [.aload 0, .tableswitch 0 11 33 #[], .iload 1, .iaload, .ireturn] 84 = x_aload 0 (x_g1 111 233 (x_iload 1 (x_iaload (x_ireturn P)))) := ((xe_aload 0).trans (congrArg (x_aload 0) ((xe_g1 (kk := 111) rfl tl_11_33).trans (congrArg (x_g1 111 233) ((xe_iload 1).trans (congrArg (x_iload 1) ((xe_iaload).trans (congrArg (x_iaload) (xe_ireturn)))))))))
theorem bk_X11_match_84 : ck_ fX11 (some .int) cX11_match 84 [.aload 0, .tableswitch 0 11 34 #[], .iload 1, .iaload, .ireturn] 91 = true := qck_r (nn_ _) (by decide +kernel)
theorem bs_X11_match_84 {P : Zt → Option Zv → Prop} (K : Int → Zl → List Zv → Zt → Prop) : sx_ K P [.aload 0, .tableswitch 0 11 34 #[], .iload 1, .iaload, .ireturn] 91 = x_aload 0 (x_g1 111 234 (x_iload 1 (x_iaload (x_ireturn P)))) := ((xe_aload 0).trans (congrArg (x_aload 0) ((xe_g1 (kk := 111) rfl tl_11_34).trans (congrArg (x_g1 111 234) ((xe_iload 1).trans (congrArg (x_iload 1) ((xe_iaload).trans (congrArg (x_iaload) (xe_ireturn)))))))))
theorem bk_X11_match_91 : ck_ fX11 (some .int) cX11_match 91 [.aload 0, .tableswitch 0 11 35 #[], .iload 1, .iaload, .ireturn] 98 = true := qck_r (nn_ _) (by decide +kernel)
theorem bs_X11_match_91 {P : Zt → Option Zv → Prop} (K : Int → Zl → List Zv → Zt → Prop) : sx_ K P [.aload 0, .tableswitch 0 11 35 #[], .iload 1, .iaload, .ireturn] 98 = x_aload 0 (x_g1 111 235 (x_iload 1 (x_iaload (x_ireturn P)))) := ((xe_aload 0).trans (congrArg (x_aload 0) ((xe_g1 (kk := 111) rfl tl_11_35).trans (congrArg (x_g1 111 235) ((xe_iload 1).trans (congrArg (x_iload 1) ((xe_iaload).trans (congrArg (x_iaload) (xe_ireturn)))))))))
theorem bk_X11_match_98 : ck_ fX11 (some .int) cX11_match 98 [.aload 0, .tableswitch 0 11 36 #[], .iload 1, .iaload, .ireturn] 105 = true := qck_r (nn_ _) (by decide +kernel)
theorem bs_X11_match_98 {P : Zt → Option Zv → Prop} (K : Int → Zl → List Zv → Zt → Prop) : sx_ K P [.aload 0, .tableswitch 0 11 36 #[], .iload 1, .iaload, .ireturn] 105 = x_aload 0 (x_g1 111 236 (x_iload 1 (x_iaload (x_ireturn P)))) := ((xe_aload 0).trans (congrArg (x_aload 0) ((xe_g1 (kk := 111) rfl tl_11_36).trans (congrArg (x_g1 111 236) ((xe_iload 1).trans (congrArg (x_iload 1) ((xe_iaload).trans (congrArg (x_iaload) (xe_ireturn)))))))))
theorem bk_X11_match_105 : ck_ fX11 (some .int) cX11_match 105 [.iload 2, .iconst 7, .if_icmp .ne 120, .aload 0, .tableswitch 0 11 37 #[], .iload 1, .iaload, .goto 122] 120 = true := qck_r (nn_ _) (by decide +kernel)
theorem bs_X11_match_105 {P : Zt → Option Zv → Prop} (K : Int → Zl → List Zv → Zt → Prop) : sx_ K P [.iload 2, .iconst 7, .if_icmp .ne 120, .aload 0, .tableswitch 0 11 37 #[], .iload 1, .iaload, .goto 122] 120 = x_iload 2 (x_iconst 7 (x_if_icmp .ne 120 K (x_aload 0 (x_g1 111 237 (x_iload 1 (x_iaload (x_goto 122 K))))))) := ((xe_iload 2).trans (congrArg (x_iload 2) ((xe_iconst 7).trans (congrArg (x_iconst 7) ((xe_if_icmp .ne 120).trans (congrArg (x_if_icmp .ne 120 K) ((xe_aload 0).trans (congrArg (x_aload 0) ((xe_g1 (kk := 111) rfl tl_11_37).trans (congrArg (x_g1 111 237) ((xe_iload 1).trans (congrArg (x_iload 1) ((xe_iaload).trans (congrArg (x_iaload) (xe_goto 122)))))))))))))))
theorem bk_X11_match_120 : ck_ fX11 (some .int) cX11_match 120 [.iconst (-3), .ireturn] 123 = true := qck_r (nn_ _) (by decide +kernel)
theorem bs_X11_match_120 {P : Zt → Option Zv → Prop} (K : Int → Zl → List Zv → Zt → Prop) : sx_ K P [.iconst (-3), .ireturn] 123 = x_iconst (-3) (x_ireturn P) := ((xe_iconst (-3)).trans (congrArg (x_iconst (-3)) (xe_ireturn)))
theorem bk_X11_match_122 : ck_ fX11 (some .int) cX11_match 122 [.ireturn] 123 = true := qck_r (nn_ _) (by decide +kernel)
theorem bs_X11_match_122 {P : Zt → Option Zv → Prop} (K : Int → Zl → List Zv → Zt → Prop) : sx_ K P [.ireturn] 123 = x_ireturn P := (xe_ireturn)
abbrev po_X11_match (T : Zt) (m w : Int) : Zt → Option Zv → Prop := fun T' r => T = T' ∧ ∃ x : Int, r = some (vI x) ∧ (True)
set_option maxHeartbeats 4000000 in
theorem ct_X11_match {T : Zt} {m w : Int} : Ct_ yX11_match zX11_match T [vR 111 0, vI m, vI w] (po_X11_match T m w) := by
  refine ct_of pn_11 rfl rfl (Nat.le_of_ble_eq_true rfl) (fun hT hav => ?_)
  have hr_m : -2147483648 ≤ m ∧ m ≤ 2147483647 := hav (vI m) (by simp)
  have hr_w : -2147483648 ≤ w ∧ w ≤ 2147483647 := hav (vI w) (by simp)
  have hz : zX11_match.2.2.2.1 = some .boolean → ∀ (T' : Zt) (x : Int), po_X11_match T m w T' (some (vI x)) → 0 ≤ x ∧ x ≤ 1 := fun h => by cases h
  show J_ zX11_match T (po_X11_match T m w) 0 0 0 [some (vR 111 0), some (vI m), some (vI w)] [] T
  refine j_blx (F := fX11) tb_X11 (nn_ _) bk_X11_match_0 bs_X11_match_0 hz (fun K hK => ?_)
  intro b1 b1b
  refine hK 5 _ [vI (T 111 0 29), vI m] T ?_
  refine j_callS (y := yX11_isOf) (Yc := zX11_isOf) (rest := []) [vI m, vI (T 111 0 29)] (ct_X11_isOf (T := T) (by omega)) cl_X11_317 (qd_c (by decide +kernel)) (nn_ _) rfl (rf_of rfl) (Nat.le_of_ble_eq_true rfl) (Nat.le_of_ble_eq_true rfl) (Nat.le_of_ble_eq_true rfl) rfl ?_
  rintro _ _ ⟨rfl, x2, rfl, hx2⟩
  show J_ zX11_match T (po_X11_match T m w) 0 0 8 _ [vI x2] T
  refine j_blx (F := fX11) tb_X11 (nn_ _) bk_X11_match_8 bs_X11_match_8 hz (fun K hK => ?_)
  refine And.intro (fun c3 => ?_) (fun c3 => ?_)
  · refine hK 14 _ [] T ?_
    refine j_blx (F := fX11) tb_X11 (nn_ _) bk_X11_match_14 bs_X11_match_14 hz (fun K hK => ?_)
    refine hK 15 _ [vI w] T ?_
    by_cases z4_0 : w = 0
    · refine j_tsI (pc := 15) 0 (off := 41) (tgt := 56) (by decide) ds_X11_match_15 (by omega) (by decide) rfl (by decide) (by decide) ?_
      refine j_blx (F := fX11) tb_X11 (nn_ _) bk_X11_match_56 bs_X11_match_56 hz (fun K hK => ?_)
      refine ix_i (by omega) ?_
      intro b5 b5b
      refine (show po_X11_match T m w T (some (vI (T 230 0 m))) from ?_)
      exact ⟨rfl, _, rfl, by trivial⟩
    by_cases z4_1 : w = 1
    · refine j_tsI (pc := 15) 1 (off := 48) (tgt := 63) (by decide) ds_X11_match_15 (by omega) (by decide) rfl (by decide) (by decide) ?_
      refine j_blx (F := fX11) tb_X11 (nn_ _) bk_X11_match_63 bs_X11_match_63 hz (fun K hK => ?_)
      refine ix_i (by omega) ?_
      intro b6 b6b
      refine (show po_X11_match T m w T (some (vI (T 231 0 m))) from ?_)
      exact ⟨rfl, _, rfl, by trivial⟩
    by_cases z4_2 : w = 2
    · refine j_tsI (pc := 15) 2 (off := 55) (tgt := 70) (by decide) ds_X11_match_15 (by omega) (by decide) rfl (by decide) (by decide) ?_
      refine j_blx (F := fX11) tb_X11 (nn_ _) bk_X11_match_70 bs_X11_match_70 hz (fun K hK => ?_)
      refine ix_i (by omega) ?_
      intro b7 b7b
      refine (show po_X11_match T m w T (some (vI (T 232 0 m))) from ?_)
      exact ⟨rfl, _, rfl, by trivial⟩
    by_cases z4_3 : w = 3
    · refine j_tsI (pc := 15) 3 (off := 62) (tgt := 77) (by decide) ds_X11_match_15 (by omega) (by decide) rfl (by decide) (by decide) ?_
      refine j_blx (F := fX11) tb_X11 (nn_ _) bk_X11_match_77 bs_X11_match_77 hz (fun K hK => ?_)
      refine ix_i (by omega) ?_
      intro b8 b8b
      refine (show po_X11_match T m w T (some (vI (T 233 0 m))) from ?_)
      exact ⟨rfl, _, rfl, by trivial⟩
    by_cases z4_4 : w = 4
    · refine j_tsI (pc := 15) 4 (off := 69) (tgt := 84) (by decide) ds_X11_match_15 (by omega) (by decide) rfl (by decide) (by decide) ?_
      refine j_blx (F := fX11) tb_X11 (nn_ _) bk_X11_match_84 bs_X11_match_84 hz (fun K hK => ?_)
      refine ix_i (by omega) ?_
      intro b9 b9b
      refine (show po_X11_match T m w T (some (vI (T 234 0 m))) from ?_)
      exact ⟨rfl, _, rfl, by trivial⟩
    by_cases z4_5 : w = 5
    · refine j_tsI (pc := 15) 5 (off := 76) (tgt := 91) (by decide) ds_X11_match_15 (by omega) (by decide) rfl (by decide) (by decide) ?_
      refine j_blx (F := fX11) tb_X11 (nn_ _) bk_X11_match_91 bs_X11_match_91 hz (fun K hK => ?_)
      refine ix_i (by omega) ?_
      intro b10 b10b
      refine (show po_X11_match T m w T (some (vI (T 235 0 m))) from ?_)
      exact ⟨rfl, _, rfl, by trivial⟩
    by_cases z4_6 : w = 6
    · refine j_tsI (pc := 15) 6 (off := 83) (tgt := 98) (by decide) ds_X11_match_15 (by omega) (by decide) rfl (by decide) (by decide) ?_
      refine j_blx (F := fX11) tb_X11 (nn_ _) bk_X11_match_98 bs_X11_match_98 hz (fun K hK => ?_)
      refine ix_i (by omega) ?_
      intro b11 b11b
      refine (show po_X11_match T m w T (some (vI (T 236 0 m))) from ?_)
      exact ⟨rfl, _, rfl, by trivial⟩
    refine j_tsO (pc := 15) (tgt := 105) (by decide) ds_X11_match_15 (by omega) (by decide) (by decide) ?_
    refine j_blx (F := fX11) tb_X11 (nn_ _) bk_X11_match_105 bs_X11_match_105 hz (fun K hK => ?_)
    refine And.intro (fun c12 => ?_) (fun c12 => ?_)
    · refine hK 120 _ [] T ?_
      refine j_blx (F := fX11) tb_X11 (nn_ _) bk_X11_match_120 bs_X11_match_120 hz (fun K hK => ?_)
      refine (show po_X11_match T m w T (some (vI (-3))) from ?_)
      exact ⟨rfl, _, rfl, by trivial⟩
    · refine ix_i (by omega) ?_
      intro b13 b13b
      refine hK 122 _ [vI (T 237 0 m)] T ?_
      refine j_blx (F := fX11) tb_X11 (nn_ _) bk_X11_match_122 bs_X11_match_122 hz (fun K hK => ?_)
      refine (show po_X11_match T m w T (some (vI (T 237 0 m))) from ?_)
      exact ⟨rfl, _, rfl, by trivial⟩
  · refine (show po_X11_match T m w T (some (vI (-2))) from ?_)
    exact ⟨rfl, _, rfl, by trivial⟩
abbrev cX11_moved : ByteArray := prog_13_method_37_code
def yX11_moved : MethodName := ⟨RX11, "moved", "(I)I"⟩
def zX11_moved : Zm := (RX11, cX11_moved, 2, (some .int), { frames := 2, cells := 0, slots := 0, locals := 43 })
theorem bk_X11_moved_0 : ck_ fX11 (some .int) cX11_moved 0 [.iload 1, .aload 0, .tableswitch 0 11 75 #[]] 5 = true := qck_r (nn_ _) (by decide +kernel)
theorem bs_X11_moved_0 {P : Zt → Option Zv → Prop} (K : Int → Zl → List Zv → Zt → Prop) : sx_ K P [.iload 1, .aload 0, .tableswitch 0 11 75 #[]] 5 = x_iload 1 (x_aload 0 (x_g0 111 75 0 400 (K 5))) := ((xe_iload 1).trans (congrArg (x_iload 1) ((xe_aload 0).trans (congrArg (x_aload 0) ((xe_g0 (kk := 111) rfl tl_11_75).trans (congrArg (x_g0 111 75 0 400) xe_nil))))))
theorem bk_X11_moved_8 : ck_ fX11 (some .int) cX11_moved 8 [.ifCond .eq 20, .aload 0, .tableswitch 0 11 74 #[], .iload 1, .iaload, .goto 21] 20 = true := qck_r (nn_ _) (by decide +kernel)
theorem bs_X11_moved_8 {P : Zt → Option Zv → Prop} (K : Int → Zl → List Zv → Zt → Prop) : sx_ K P [.ifCond .eq 20, .aload 0, .tableswitch 0 11 74 #[], .iload 1, .iaload, .goto 21] 20 = x_ifCond .eq 20 K (x_aload 0 (x_g1 111 274 (x_iload 1 (x_iaload (x_goto 21 K))))) := ((xe_ifCond .eq 20).trans (congrArg (x_ifCond .eq 20 K) ((xe_aload 0).trans (congrArg (x_aload 0) ((xe_g1 (kk := 111) rfl tl_11_74).trans (congrArg (x_g1 111 274) ((xe_iload 1).trans (congrArg (x_iload 1) ((xe_iaload).trans (congrArg (x_iaload) (xe_goto 21)))))))))))
theorem bk_X11_moved_20 : ck_ fX11 (some .int) cX11_moved 20 [.iconst (-1), .ireturn] 22 = true := qck_r (nn_ _) (by decide +kernel)
theorem bs_X11_moved_20 {P : Zt → Option Zv → Prop} (K : Int → Zl → List Zv → Zt → Prop) : sx_ K P [.iconst (-1), .ireturn] 22 = x_iconst (-1) (x_ireturn P) := ((xe_iconst (-1)).trans (congrArg (x_iconst (-1)) (xe_ireturn)))
theorem bk_X11_moved_21 : ck_ fX11 (some .int) cX11_moved 21 [.ireturn] 22 = true := qck_r (nn_ _) (by decide +kernel)
theorem bs_X11_moved_21 {P : Zt → Option Zv → Prop} (K : Int → Zl → List Zv → Zt → Prop) : sx_ K P [.ireturn] 22 = x_ireturn P := (xe_ireturn)
abbrev po_X11_moved (T : Zt) (k : Int) : Zt → Option Zv → Prop := fun T' r => T = T' ∧ ∃ x : Int, r = some (vI x) ∧ (True)
set_option maxHeartbeats 4000000 in
theorem ct_X11_moved {T : Zt} {k : Int} : Ct_ yX11_moved zX11_moved T [vR 111 0, vI k] (po_X11_moved T k) := by
  refine ct_of pn_11 rfl rfl (Nat.le_of_ble_eq_true rfl) (fun hT hav => ?_)
  have hr_k : -2147483648 ≤ k ∧ k ≤ 2147483647 := hav (vI k) (by simp)
  have hz : zX11_moved.2.2.2.1 = some .boolean → ∀ (T' : Zt) (x : Int), po_X11_moved T k T' (some (vI x)) → 0 ≤ x ∧ x ≤ 1 := fun h => by cases h
  show J_ zX11_moved T (po_X11_moved T k) 0 0 0 [some (vR 111 0), some (vI k)] [] T
  refine j_blx (F := fX11) tb_X11 (nn_ _) bk_X11_moved_0 bs_X11_moved_0 hz (fun K hK => ?_)
  intro b1 b1b
  refine hK 5 _ [vI (T 111 0 75), vI k] T ?_
  refine j_callS (y := yX11_isOf) (Yc := zX11_isOf) (rest := []) [vI k, vI (T 111 0 75)] (ct_X11_isOf (T := T) (by omega)) cl_X11_317 (qd_c (by decide +kernel)) (nn_ _) rfl (rf_of rfl) (Nat.le_of_ble_eq_true rfl) (Nat.le_of_ble_eq_true rfl) (Nat.le_of_ble_eq_true rfl) rfl ?_
  rintro _ _ ⟨rfl, x2, rfl, hx2⟩
  show J_ zX11_moved T (po_X11_moved T k) 0 0 8 _ [vI x2] T
  refine j_blx (F := fX11) tb_X11 (nn_ _) bk_X11_moved_8 bs_X11_moved_8 hz (fun K hK => ?_)
  refine And.intro (fun c3 => ?_) (fun c3 => ?_)
  · refine hK 20 _ [] T ?_
    refine j_blx (F := fX11) tb_X11 (nn_ _) bk_X11_moved_20 bs_X11_moved_20 hz (fun K hK => ?_)
    refine (show po_X11_moved T k T (some (vI (-1))) from ?_)
    exact ⟨rfl, _, rfl, by trivial⟩
  · refine ix_i (by omega) ?_
    intro b4 b4b
    refine hK 21 _ [vI (T 274 0 k)] T ?_
    refine j_blx (F := fX11) tb_X11 (nn_ _) bk_X11_moved_21 bs_X11_moved_21 hz (fun K hK => ?_)
    refine (show po_X11_moved T k T (some (vI (T 274 0 k))) from ?_)
    exact ⟨rfl, _, rfl, by trivial⟩
abbrev cX11_officialOf : ByteArray := prog_13_method_128_code
def yX11_officialOf : MethodName := ⟨RX11, "officialOf", "(I)I"⟩
def zX11_officialOf : Zm := (RX11, cX11_officialOf, 2, (some .int), { frames := 2, cells := 0, slots := 0, locals := 43 })
theorem bk_X11_officialOf_0 : ck_ fX11 (some .int) cX11_officialOf 0 [.iload 1, .aload 0, .tableswitch 0 11 29 #[]] 5 = true := qck_r (nn_ _) (by decide +kernel)
theorem bs_X11_officialOf_0 {P : Zt → Option Zv → Prop} (K : Int → Zl → List Zv → Zt → Prop) : sx_ K P [.iload 1, .aload 0, .tableswitch 0 11 29 #[]] 5 = x_iload 1 (x_aload 0 (x_g0 111 29 0 400 (K 5))) := ((xe_iload 1).trans (congrArg (x_iload 1) ((xe_aload 0).trans (congrArg (x_aload 0) ((xe_g0 (kk := 111) rfl tl_11_29).trans (congrArg (x_g0 111 29 0 400) xe_nil))))))
theorem bk_X11_officialOf_8 : ck_ fX11 (some .int) cX11_officialOf 8 [.ifCond .eq 20, .aload 0, .tableswitch 0 11 38 #[], .iload 1, .iaload, .goto 22] 20 = true := qck_r (nn_ _) (by decide +kernel)
theorem bs_X11_officialOf_8 {P : Zt → Option Zv → Prop} (K : Int → Zl → List Zv → Zt → Prop) : sx_ K P [.ifCond .eq 20, .aload 0, .tableswitch 0 11 38 #[], .iload 1, .iaload, .goto 22] 20 = x_ifCond .eq 20 K (x_aload 0 (x_g1 111 238 (x_iload 1 (x_iaload (x_goto 22 K))))) := ((xe_ifCond .eq 20).trans (congrArg (x_ifCond .eq 20 K) ((xe_aload 0).trans (congrArg (x_aload 0) ((xe_g1 (kk := 111) rfl tl_11_38).trans (congrArg (x_g1 111 238) ((xe_iload 1).trans (congrArg (x_iload 1) ((xe_iaload).trans (congrArg (x_iaload) (xe_goto 22)))))))))))
theorem bk_X11_officialOf_20 : ck_ fX11 (some .int) cX11_officialOf 20 [.iconst (-2), .ireturn] 23 = true := qck_r (nn_ _) (by decide +kernel)
theorem bs_X11_officialOf_20 {P : Zt → Option Zv → Prop} (K : Int → Zl → List Zv → Zt → Prop) : sx_ K P [.iconst (-2), .ireturn] 23 = x_iconst (-2) (x_ireturn P) := ((xe_iconst (-2)).trans (congrArg (x_iconst (-2)) (xe_ireturn)))
theorem bk_X11_officialOf_22 : ck_ fX11 (some .int) cX11_officialOf 22 [.ireturn] 23 = true := qck_r (nn_ _) (by decide +kernel)
theorem bs_X11_officialOf_22 {P : Zt → Option Zv → Prop} (K : Int → Zl → List Zv → Zt → Prop) : sx_ K P [.ireturn] 23 = x_ireturn P := (xe_ireturn)
abbrev po_X11_officialOf (T : Zt) (m : Int) : Zt → Option Zv → Prop := fun T' r => T = T' ∧ ∃ x : Int, r = some (vI x) ∧ (True)
set_option maxHeartbeats 4000000 in
theorem ct_X11_officialOf {T : Zt} {m : Int} : Ct_ yX11_officialOf zX11_officialOf T [vR 111 0, vI m] (po_X11_officialOf T m) := by
  refine ct_of pn_11 rfl rfl (Nat.le_of_ble_eq_true rfl) (fun hT hav => ?_)
  have hr_m : -2147483648 ≤ m ∧ m ≤ 2147483647 := hav (vI m) (by simp)
  have hz : zX11_officialOf.2.2.2.1 = some .boolean → ∀ (T' : Zt) (x : Int), po_X11_officialOf T m T' (some (vI x)) → 0 ≤ x ∧ x ≤ 1 := fun h => by cases h
  show J_ zX11_officialOf T (po_X11_officialOf T m) 0 0 0 [some (vR 111 0), some (vI m)] [] T
  refine j_blx (F := fX11) tb_X11 (nn_ _) bk_X11_officialOf_0 bs_X11_officialOf_0 hz (fun K hK => ?_)
  intro b1 b1b
  refine hK 5 _ [vI (T 111 0 29), vI m] T ?_
  refine j_callS (y := yX11_isOf) (Yc := zX11_isOf) (rest := []) [vI m, vI (T 111 0 29)] (ct_X11_isOf (T := T) (by omega)) cl_X11_317 (qd_c (by decide +kernel)) (nn_ _) rfl (rf_of rfl) (Nat.le_of_ble_eq_true rfl) (Nat.le_of_ble_eq_true rfl) (Nat.le_of_ble_eq_true rfl) rfl ?_
  rintro _ _ ⟨rfl, x2, rfl, hx2⟩
  show J_ zX11_officialOf T (po_X11_officialOf T m) 0 0 8 _ [vI x2] T
  refine j_blx (F := fX11) tb_X11 (nn_ _) bk_X11_officialOf_8 bs_X11_officialOf_8 hz (fun K hK => ?_)
  refine And.intro (fun c3 => ?_) (fun c3 => ?_)
  · refine hK 20 _ [] T ?_
    refine j_blx (F := fX11) tb_X11 (nn_ _) bk_X11_officialOf_20 bs_X11_officialOf_20 hz (fun K hK => ?_)
    refine (show po_X11_officialOf T m T (some (vI (-2))) from ?_)
    exact ⟨rfl, _, rfl, by trivial⟩
  · refine ix_i (by omega) ?_
    intro b4 b4b
    refine hK 22 _ [vI (T 238 0 m)] T ?_
    refine j_blx (F := fX11) tb_X11 (nn_ _) bk_X11_officialOf_22 bs_X11_officialOf_22 hz (fun K hK => ?_)
    refine (show po_X11_officialOf T m T (some (vI (T 238 0 m))) from ?_)
    exact ⟨rfl, _, rfl, by trivial⟩
abbrev cX11_count : ByteArray := prog_13_method_129_code
def yX11_count : MethodName := ⟨RX11, "count", "(I)I"⟩
def zX11_count : Zm := (RX11, cX11_count, 2, (some .int), { frames := 0, cells := 0, slots := 0, locals := 0 })
theorem bk_X11_count_0 : ck_ fX11 (some .int) cX11_count 0 [.iload 1] 1 = true := qck_r (nn_ _) (by decide +kernel)
theorem bs_X11_count_0 {P : Zt → Option Zv → Prop} (K : Int → Zl → List Zv → Zt → Prop) : sx_ K P [.iload 1] 1 = x_iload 1 (K 1) := ((xe_iload 1).trans (congrArg (x_iload 1) xe_nil))
theorem ds_X11_count_1 : decode cX11_count 1 = .ok (.tableswitch 78 0 6 #[43, 48, 53, 58, 63, 68, 73], 43) := by decide +kernel
theorem bk_X11_count_44 : ck_ fX11 (some .int) cX11_count 44 [.aload 0, .tableswitch 0 11 12 #[], .ireturn] 49 = true := qck_r (nn_ _) (by decide +kernel)
theorem bs_X11_count_44 {P : Zt → Option Zv → Prop} (K : Int → Zl → List Zv → Zt → Prop) : sx_ K P [.aload 0, .tableswitch 0 11 12 #[], .ireturn] 49 = x_aload 0 (x_g0 111 12 0 12 (x_ireturn P)) := ((xe_aload 0).trans (congrArg (x_aload 0) ((xe_g0 (kk := 111) rfl tl_11_12).trans (congrArg (x_g0 111 12 0 12) (xe_ireturn)))))
theorem bk_X11_count_49 : ck_ fX11 (some .int) cX11_count 49 [.aload 0, .tableswitch 0 11 15 #[], .ireturn] 54 = true := qck_r (nn_ _) (by decide +kernel)
theorem bs_X11_count_49 {P : Zt → Option Zv → Prop} (K : Int → Zl → List Zv → Zt → Prop) : sx_ K P [.aload 0, .tableswitch 0 11 15 #[], .ireturn] 54 = x_aload 0 (x_g0 111 15 0 200 (x_ireturn P)) := ((xe_aload 0).trans (congrArg (x_aload 0) ((xe_g0 (kk := 111) rfl tl_11_15).trans (congrArg (x_g0 111 15 0 200) (xe_ireturn)))))
theorem bk_X11_count_54 : ck_ fX11 (some .int) cX11_count 54 [.aload 0, .tableswitch 0 11 16 #[], .ireturn] 59 = true := qck_r (nn_ _) (by decide +kernel)
theorem bs_X11_count_54 {P : Zt → Option Zv → Prop} (K : Int → Zl → List Zv → Zt → Prop) : sx_ K P [.aload 0, .tableswitch 0 11 16 #[], .ireturn] 59 = x_aload 0 (x_g0 111 16 0 300 (x_ireturn P)) := ((xe_aload 0).trans (congrArg (x_aload 0) ((xe_g0 (kk := 111) rfl tl_11_16).trans (congrArg (x_g0 111 16 0 300) (xe_ireturn)))))
theorem bk_X11_count_59 : ck_ fX11 (some .int) cX11_count 59 [.aload 0, .tableswitch 0 11 21 #[], .ireturn] 64 = true := qck_r (nn_ _) (by decide +kernel)
theorem bs_X11_count_59 {P : Zt → Option Zv → Prop} (K : Int → Zl → List Zv → Zt → Prop) : sx_ K P [.aload 0, .tableswitch 0 11 21 #[], .ireturn] 64 = x_aload 0 (x_g0 111 21 0 8 (x_ireturn P)) := ((xe_aload 0).trans (congrArg (x_aload 0) ((xe_g0 (kk := 111) rfl tl_11_21).trans (congrArg (x_g0 111 21 0 8) (xe_ireturn)))))
theorem bk_X11_count_64 : ck_ fX11 (some .int) cX11_count 64 [.aload 0, .tableswitch 0 11 6 #[], .ireturn] 69 = true := qck_r (nn_ _) (by decide +kernel)
theorem bs_X11_count_64 {P : Zt → Option Zv → Prop} (K : Int → Zl → List Zv → Zt → Prop) : sx_ K P [.aload 0, .tableswitch 0 11 6 #[], .ireturn] 69 = x_aload 0 (x_g0 111 6 0 4 (x_ireturn P)) := ((xe_aload 0).trans (congrArg (x_aload 0) ((xe_g0 (kk := 111) rfl tl_11_6).trans (congrArg (x_g0 111 6 0 4) (xe_ireturn)))))
theorem bk_X11_count_69 : ck_ fX11 (some .int) cX11_count 69 [.aload 0, .tableswitch 0 11 29 #[], .ireturn] 74 = true := qck_r (nn_ _) (by decide +kernel)
theorem bs_X11_count_69 {P : Zt → Option Zv → Prop} (K : Int → Zl → List Zv → Zt → Prop) : sx_ K P [.aload 0, .tableswitch 0 11 29 #[], .ireturn] 74 = x_aload 0 (x_g0 111 29 0 400 (x_ireturn P)) := ((xe_aload 0).trans (congrArg (x_aload 0) ((xe_g0 (kk := 111) rfl tl_11_29).trans (congrArg (x_g0 111 29 0 400) (xe_ireturn)))))
theorem bk_X11_count_74 : ck_ fX11 (some .int) cX11_count 74 [.aload 0, .tableswitch 0 11 47 #[], .ireturn] 79 = true := qck_r (nn_ _) (by decide +kernel)
theorem bs_X11_count_74 {P : Zt → Option Zv → Prop} (K : Int → Zl → List Zv → Zt → Prop) : sx_ K P [.aload 0, .tableswitch 0 11 47 #[], .ireturn] 79 = x_aload 0 (x_g0 111 47 0 3000 (x_ireturn P)) := ((xe_aload 0).trans (congrArg (x_aload 0) ((xe_g0 (kk := 111) rfl tl_11_47).trans (congrArg (x_g0 111 47 0 3000) (xe_ireturn)))))
theorem bk_X11_count_79 : ck_ fX11 (some .int) cX11_count 79 [.iload 1, .iconst 7, .if_icmp .ne 92, .aload 0, .tableswitch 0 11 3 #[], .goto 94] 92 = true := qck_r (nn_ _) (by decide +kernel)
theorem bs_X11_count_79 {P : Zt → Option Zv → Prop} (K : Int → Zl → List Zv → Zt → Prop) : sx_ K P [.iload 1, .iconst 7, .if_icmp .ne 92, .aload 0, .tableswitch 0 11 3 #[], .goto 94] 92 = x_iload 1 (x_iconst 7 (x_if_icmp .ne 92 K (x_aload 0 (x_g0 111 3 0 999 (x_goto 94 K))))) := ((xe_iload 1).trans (congrArg (x_iload 1) ((xe_iconst 7).trans (congrArg (x_iconst 7) ((xe_if_icmp .ne 92).trans (congrArg (x_if_icmp .ne 92 K) ((xe_aload 0).trans (congrArg (x_aload 0) ((xe_g0 (kk := 111) rfl tl_11_3).trans (congrArg (x_g0 111 3 0 999) (xe_goto 94)))))))))))
theorem bk_X11_count_92 : ck_ fX11 (some .int) cX11_count 92 [.iconst (-3), .ireturn] 95 = true := qck_r (nn_ _) (by decide +kernel)
theorem bs_X11_count_92 {P : Zt → Option Zv → Prop} (K : Int → Zl → List Zv → Zt → Prop) : sx_ K P [.iconst (-3), .ireturn] 95 = x_iconst (-3) (x_ireturn P) := ((xe_iconst (-3)).trans (congrArg (x_iconst (-3)) (xe_ireturn)))
theorem bk_X11_count_94 : ck_ fX11 (some .int) cX11_count 94 [.ireturn] 95 = true := qck_r (nn_ _) (by decide +kernel)
theorem bs_X11_count_94 {P : Zt → Option Zv → Prop} (K : Int → Zl → List Zv → Zt → Prop) : sx_ K P [.ireturn] 95 = x_ireturn P := (xe_ireturn)
abbrev po_X11_count (T : Zt) (w : Int) : Zt → Option Zv → Prop := fun T' r => T = T' ∧ ∃ x : Int, r = some (vI x) ∧ (True)
set_option maxHeartbeats 4000000 in
theorem ct_X11_count {T : Zt} {w : Int} : Ct_ yX11_count zX11_count T [vR 111 0, vI w] (po_X11_count T w) := by
  refine ct_of pn_11 rfl rfl (Nat.le_of_ble_eq_true rfl) (fun hT hav => ?_)
  have hr_w : -2147483648 ≤ w ∧ w ≤ 2147483647 := hav (vI w) (by simp)
  have hz : zX11_count.2.2.2.1 = some .boolean → ∀ (T' : Zt) (x : Int), po_X11_count T w T' (some (vI x)) → 0 ≤ x ∧ x ≤ 1 := fun h => by cases h
  show J_ zX11_count T (po_X11_count T w) 0 0 0 [some (vR 111 0), some (vI w)] [] T
  refine j_blx (F := fX11) tb_X11 (nn_ _) bk_X11_count_0 bs_X11_count_0 hz (fun K hK => ?_)
  refine hK 1 _ [vI w] T ?_
  by_cases z1_0 : w = 0
  · refine j_tsI (pc := 1) 0 (off := 43) (tgt := 44) (by decide) ds_X11_count_1 (by omega) (by decide) rfl (by decide) (by decide) ?_
    refine j_blx (F := fX11) tb_X11 (nn_ _) bk_X11_count_44 bs_X11_count_44 hz (fun K hK => ?_)
    intro b2 b2b
    refine (show po_X11_count T w T (some (vI (T 111 0 12))) from ?_)
    exact ⟨rfl, _, rfl, by trivial⟩
  by_cases z1_1 : w = 1
  · refine j_tsI (pc := 1) 1 (off := 48) (tgt := 49) (by decide) ds_X11_count_1 (by omega) (by decide) rfl (by decide) (by decide) ?_
    refine j_blx (F := fX11) tb_X11 (nn_ _) bk_X11_count_49 bs_X11_count_49 hz (fun K hK => ?_)
    intro b3 b3b
    refine (show po_X11_count T w T (some (vI (T 111 0 15))) from ?_)
    exact ⟨rfl, _, rfl, by trivial⟩
  by_cases z1_2 : w = 2
  · refine j_tsI (pc := 1) 2 (off := 53) (tgt := 54) (by decide) ds_X11_count_1 (by omega) (by decide) rfl (by decide) (by decide) ?_
    refine j_blx (F := fX11) tb_X11 (nn_ _) bk_X11_count_54 bs_X11_count_54 hz (fun K hK => ?_)
    intro b4 b4b
    refine (show po_X11_count T w T (some (vI (T 111 0 16))) from ?_)
    exact ⟨rfl, _, rfl, by trivial⟩
  by_cases z1_3 : w = 3
  · refine j_tsI (pc := 1) 3 (off := 58) (tgt := 59) (by decide) ds_X11_count_1 (by omega) (by decide) rfl (by decide) (by decide) ?_
    refine j_blx (F := fX11) tb_X11 (nn_ _) bk_X11_count_59 bs_X11_count_59 hz (fun K hK => ?_)
    intro b5 b5b
    refine (show po_X11_count T w T (some (vI (T 111 0 21))) from ?_)
    exact ⟨rfl, _, rfl, by trivial⟩
  by_cases z1_4 : w = 4
  · refine j_tsI (pc := 1) 4 (off := 63) (tgt := 64) (by decide) ds_X11_count_1 (by omega) (by decide) rfl (by decide) (by decide) ?_
    refine j_blx (F := fX11) tb_X11 (nn_ _) bk_X11_count_64 bs_X11_count_64 hz (fun K hK => ?_)
    intro b6 b6b
    refine (show po_X11_count T w T (some (vI (T 111 0 6))) from ?_)
    exact ⟨rfl, _, rfl, by trivial⟩
  by_cases z1_5 : w = 5
  · refine j_tsI (pc := 1) 5 (off := 68) (tgt := 69) (by decide) ds_X11_count_1 (by omega) (by decide) rfl (by decide) (by decide) ?_
    refine j_blx (F := fX11) tb_X11 (nn_ _) bk_X11_count_69 bs_X11_count_69 hz (fun K hK => ?_)
    intro b7 b7b
    refine (show po_X11_count T w T (some (vI (T 111 0 29))) from ?_)
    exact ⟨rfl, _, rfl, by trivial⟩
  by_cases z1_6 : w = 6
  · refine j_tsI (pc := 1) 6 (off := 73) (tgt := 74) (by decide) ds_X11_count_1 (by omega) (by decide) rfl (by decide) (by decide) ?_
    refine j_blx (F := fX11) tb_X11 (nn_ _) bk_X11_count_74 bs_X11_count_74 hz (fun K hK => ?_)
    intro b8 b8b
    refine (show po_X11_count T w T (some (vI (T 111 0 47))) from ?_)
    exact ⟨rfl, _, rfl, by trivial⟩
  refine j_tsO (pc := 1) (tgt := 79) (by decide) ds_X11_count_1 (by omega) (by decide) (by decide) ?_
  refine j_blx (F := fX11) tb_X11 (nn_ _) bk_X11_count_79 bs_X11_count_79 hz (fun K hK => ?_)
  refine And.intro (fun c9 => ?_) (fun c9 => ?_)
  · refine hK 92 _ [] T ?_
    refine j_blx (F := fX11) tb_X11 (nn_ _) bk_X11_count_92 bs_X11_count_92 hz (fun K hK => ?_)
    refine (show po_X11_count T w T (some (vI (-3))) from ?_)
    exact ⟨rfl, _, rfl, by trivial⟩
  · intro b10 b10b
    refine hK 94 _ [vI (T 111 0 3)] T ?_
    refine j_blx (F := fX11) tb_X11 (nn_ _) bk_X11_count_94 bs_X11_count_94 hz (fun K hK => ?_)
    refine (show po_X11_count T w T (some (vI (T 111 0 3))) from ?_)
    exact ⟨rfl, _, rfl, by trivial⟩
abbrev cX11_cut : ByteArray := prog_13_method_109_code
def yX11_cut : MethodName := ⟨RX11, "cut", "()I"⟩
def zX11_cut : Zm := (RX11, cX11_cut, 1, (some .int), { frames := 0, cells := 0, slots := 0, locals := 0 })
theorem bk_X11_cut_0 : ck_ fX11 (some .int) cX11_cut 0 [.aload 0, .tableswitch 0 11 90 #[], .ireturn] 5 = true := qck_r (nn_ _) (by decide +kernel)
theorem bs_X11_cut_0 {P : Zt → Option Zv → Prop} (K : Int → Zl → List Zv → Zt → Prop) : sx_ K P [.aload 0, .tableswitch 0 11 90 #[], .ireturn] 5 = x_aload 0 (x_g0 111 90 0 4095 (x_ireturn P)) := ((xe_aload 0).trans (congrArg (x_aload 0) ((xe_g0 (kk := 111) rfl tl_11_90).trans (congrArg (x_g0 111 90 0 4095) (xe_ireturn)))))
abbrev po_X11_cut (T : Zt) : Zt → Option Zv → Prop := fun T' r => T = T' ∧ ∃ x : Int, r = some (vI x) ∧ (True)
set_option maxHeartbeats 4000000 in
theorem ct_X11_cut {T : Zt} : Ct_ yX11_cut zX11_cut T [vR 111 0] (po_X11_cut T) := by
  refine ct_of pn_11 rfl rfl (Nat.le_of_ble_eq_true rfl) (fun hT hav => ?_)
  have hz : zX11_cut.2.2.2.1 = some .boolean → ∀ (T' : Zt) (x : Int), po_X11_cut T T' (some (vI x)) → 0 ≤ x ∧ x ≤ 1 := fun h => by cases h
  show J_ zX11_cut T (po_X11_cut T) 0 0 0 [some (vR 111 0)] [] T
  refine j_blx (F := fX11) tb_X11 (nn_ _) bk_X11_cut_0 bs_X11_cut_0 hz (fun K hK => ?_)
  intro b1 b1b
  refine (show po_X11_cut T T (some (vI (T 111 0 90))) from ?_)
  exact ⟨rfl, _, rfl, by trivial⟩
abbrev cX11_drawn : ByteArray := prog_13_method_121_code
def yX11_drawn : MethodName := ⟨RX11, "drawn", "(I)I"⟩
def zX11_drawn : Zm := (RX11, cX11_drawn, 2, (some .int), { frames := 2, cells := 0, slots := 0, locals := 43 })
theorem bk_X11_drawn_0 : ck_ fX11 (some .int) cX11_drawn 0 [.iload 1, .aload 0, .tableswitch 0 11 12 #[]] 5 = true := qck_r (nn_ _) (by decide +kernel)
theorem bs_X11_drawn_0 {P : Zt → Option Zv → Prop} (K : Int → Zl → List Zv → Zt → Prop) : sx_ K P [.iload 1, .aload 0, .tableswitch 0 11 12 #[]] 5 = x_iload 1 (x_aload 0 (x_g0 111 12 0 12 (K 5))) := ((xe_iload 1).trans (congrArg (x_iload 1) ((xe_aload 0).trans (congrArg (x_aload 0) ((xe_g0 (kk := 111) rfl tl_11_12).trans (congrArg (x_g0 111 12 0 12) xe_nil))))))
theorem bk_X11_drawn_8 : ck_ fX11 (some .int) cX11_drawn 8 [.ifCond .ne 14, .iconst (-2), .ireturn] 14 = true := qck_r (nn_ _) (by decide +kernel)
theorem bs_X11_drawn_8 {P : Zt → Option Zv → Prop} (K : Int → Zl → List Zv → Zt → Prop) : sx_ K P [.ifCond .ne 14, .iconst (-2), .ireturn] 14 = x_ifCond .ne 14 K (x_iconst (-2) (x_ireturn P)) := ((xe_ifCond .ne 14).trans (congrArg (x_ifCond .ne 14 K) ((xe_iconst (-2)).trans (congrArg (x_iconst (-2)) (xe_ireturn)))))
theorem bk_X11_drawn_14 : ck_ fX11 (some .int) cX11_drawn 14 [.aload 0, .tableswitch 0 11 98 #[], .ifCond .eq 30, .aload 0, .tableswitch 0 11 102 #[], .iload 1, .iaload, .goto 31] 30 = true := qck_r (nn_ _) (by decide +kernel)
theorem bs_X11_drawn_14 {P : Zt → Option Zv → Prop} (K : Int → Zl → List Zv → Zt → Prop) : sx_ K P [.aload 0, .tableswitch 0 11 98 #[], .ifCond .eq 30, .aload 0, .tableswitch 0 11 102 #[], .iload 1, .iaload, .goto 31] 30 = x_aload 0 (x_g0 111 98 0 1 (x_ifCond .eq 30 K (x_aload 0 (x_g1 111 302 (x_iload 1 (x_iaload (x_goto 31 K))))))) := ((xe_aload 0).trans (congrArg (x_aload 0) ((xe_g0 (kk := 111) rfl tl_11_98).trans (congrArg (x_g0 111 98 0 1) ((xe_ifCond .eq 30).trans (congrArg (x_ifCond .eq 30 K) ((xe_aload 0).trans (congrArg (x_aload 0) ((xe_g1 (kk := 111) rfl tl_11_102).trans (congrArg (x_g1 111 302) ((xe_iload 1).trans (congrArg (x_iload 1) ((xe_iaload).trans (congrArg (x_iaload) (xe_goto 31)))))))))))))))
theorem bk_X11_drawn_30 : ck_ fX11 (some .int) cX11_drawn 30 [.iconst (-1), .ireturn] 32 = true := qck_r (nn_ _) (by decide +kernel)
theorem bs_X11_drawn_30 {P : Zt → Option Zv → Prop} (K : Int → Zl → List Zv → Zt → Prop) : sx_ K P [.iconst (-1), .ireturn] 32 = x_iconst (-1) (x_ireturn P) := ((xe_iconst (-1)).trans (congrArg (x_iconst (-1)) (xe_ireturn)))
theorem bk_X11_drawn_31 : ck_ fX11 (some .int) cX11_drawn 31 [.ireturn] 32 = true := qck_r (nn_ _) (by decide +kernel)
theorem bs_X11_drawn_31 {P : Zt → Option Zv → Prop} (K : Int → Zl → List Zv → Zt → Prop) : sx_ K P [.ireturn] 32 = x_ireturn P := (xe_ireturn)
abbrev po_X11_drawn (T : Zt) (c : Int) : Zt → Option Zv → Prop := fun T' r => T = T' ∧ ∃ x : Int, r = some (vI x) ∧ (True)
set_option maxHeartbeats 4000000 in
theorem ct_X11_drawn {T : Zt} {c : Int} : Ct_ yX11_drawn zX11_drawn T [vR 111 0, vI c] (po_X11_drawn T c) := by
  refine ct_of pn_11 rfl rfl (Nat.le_of_ble_eq_true rfl) (fun hT hav => ?_)
  have hr_c : -2147483648 ≤ c ∧ c ≤ 2147483647 := hav (vI c) (by simp)
  have hz : zX11_drawn.2.2.2.1 = some .boolean → ∀ (T' : Zt) (x : Int), po_X11_drawn T c T' (some (vI x)) → 0 ≤ x ∧ x ≤ 1 := fun h => by cases h
  show J_ zX11_drawn T (po_X11_drawn T c) 0 0 0 [some (vR 111 0), some (vI c)] [] T
  refine j_blx (F := fX11) tb_X11 (nn_ _) bk_X11_drawn_0 bs_X11_drawn_0 hz (fun K hK => ?_)
  intro b1 b1b
  refine hK 5 _ [vI (T 111 0 12), vI c] T ?_
  refine j_callS (y := yX11_isOf) (Yc := zX11_isOf) (rest := []) [vI c, vI (T 111 0 12)] (ct_X11_isOf (T := T) (by omega)) cl_X11_317 (qd_c (by decide +kernel)) (nn_ _) rfl (rf_of rfl) (Nat.le_of_ble_eq_true rfl) (Nat.le_of_ble_eq_true rfl) (Nat.le_of_ble_eq_true rfl) rfl ?_
  rintro _ _ ⟨rfl, x2, rfl, hx2⟩
  show J_ zX11_drawn T (po_X11_drawn T c) 0 0 8 _ [vI x2] T
  refine j_blx (F := fX11) tb_X11 (nn_ _) bk_X11_drawn_8 bs_X11_drawn_8 hz (fun K hK => ?_)
  refine And.intro (fun c3 => ?_) (fun c3 => ?_)
  · refine hK 14 _ [] T ?_
    refine j_blx (F := fX11) tb_X11 (nn_ _) bk_X11_drawn_14 bs_X11_drawn_14 hz (fun K hK => ?_)
    intro b4 b4b
    refine And.intro (fun c5 => ?_) (fun c5 => ?_)
    · refine hK 30 _ [] T ?_
      refine j_blx (F := fX11) tb_X11 (nn_ _) bk_X11_drawn_30 bs_X11_drawn_30 hz (fun K hK => ?_)
      refine (show po_X11_drawn T c T (some (vI (-1))) from ?_)
      exact ⟨rfl, _, rfl, by trivial⟩
    · refine ix_i (by omega) ?_
      intro b6 b6b
      refine hK 31 _ [vI (T 302 0 c)] T ?_
      refine j_blx (F := fX11) tb_X11 (nn_ _) bk_X11_drawn_31 bs_X11_drawn_31 hz (fun K hK => ?_)
      refine (show po_X11_drawn T c T (some (vI (T 302 0 c))) from ?_)
      exact ⟨rfl, _, rfl, by trivial⟩
  · refine (show po_X11_drawn T c T (some (vI (-2))) from ?_)
    exact ⟨rfl, _, rfl, by trivial⟩
abbrev cX11_witness : ByteArray := prog_13_method_108_code
def yX11_witness : MethodName := ⟨RX11, "witness", "(I)I"⟩
def zX11_witness : Zm := (RX11, cX11_witness, 2, (some .int), { frames := 2, cells := 0, slots := 0, locals := 43 })
theorem bk_X11_witness_0 : ck_ fX11 (some .int) cX11_witness 0 [.iload 1, .aload 0, .tableswitch 0 11 29 #[]] 5 = true := qck_r (nn_ _) (by decide +kernel)
theorem bs_X11_witness_0 {P : Zt → Option Zv → Prop} (K : Int → Zl → List Zv → Zt → Prop) : sx_ K P [.iload 1, .aload 0, .tableswitch 0 11 29 #[]] 5 = x_iload 1 (x_aload 0 (x_g0 111 29 0 400 (K 5))) := ((xe_iload 1).trans (congrArg (x_iload 1) ((xe_aload 0).trans (congrArg (x_aload 0) ((xe_g0 (kk := 111) rfl tl_11_29).trans (congrArg (x_g0 111 29 0 400) xe_nil))))))
theorem bk_X11_witness_8 : ck_ fX11 (some .int) cX11_witness 8 [.ifCond .ne 14, .iconst (-2), .ireturn] 14 = true := qck_r (nn_ _) (by decide +kernel)
theorem bs_X11_witness_8 {P : Zt → Option Zv → Prop} (K : Int → Zl → List Zv → Zt → Prop) : sx_ K P [.ifCond .ne 14, .iconst (-2), .ireturn] 14 = x_ifCond .ne 14 K (x_iconst (-2) (x_ireturn P)) := ((xe_ifCond .ne 14).trans (congrArg (x_ifCond .ne 14 K) ((xe_iconst (-2)).trans (congrArg (x_iconst (-2)) (xe_ireturn)))))
theorem bk_X11_witness_14 : ck_ fX11 (some .int) cX11_witness 14 [.aload 0, .tableswitch 0 11 88 #[], .iconst (-1), .if_icmp .eq 35, .aload 0, .tableswitch 0 11 30 #[], .iload 1, .iaload, .aload 0, .tableswitch 0 11 88 #[], .if_icmp .eq 39, .iconst (-1), .goto 45] 39 = true := qck_r (nn_ _) (by decide +kernel)
theorem bs_X11_witness_14 {P : Zt → Option Zv → Prop} (K : Int → Zl → List Zv → Zt → Prop) : sx_ K P [.aload 0, .tableswitch 0 11 88 #[], .iconst (-1), .if_icmp .eq 35, .aload 0, .tableswitch 0 11 30 #[], .iload 1, .iaload, .aload 0, .tableswitch 0 11 88 #[], .if_icmp .eq 39, .iconst (-1), .goto 45] 39 = x_aload 0 (x_g0 111 88 (-1) 3 (x_iconst (-1) (x_if_icmp .eq 35 K (x_aload 0 (x_g1 111 230 (x_iload 1 (x_iaload (x_aload 0 (x_g0 111 88 (-1) 3 (x_if_icmp .eq 39 K (x_iconst (-1) (x_goto 45 K)))))))))))) := ((xe_aload 0).trans (congrArg (x_aload 0) ((xe_g0 (kk := 111) rfl tl_11_88).trans (congrArg (x_g0 111 88 (-1) 3) ((xe_iconst (-1)).trans (congrArg (x_iconst (-1)) ((xe_if_icmp .eq 35).trans (congrArg (x_if_icmp .eq 35 K) ((xe_aload 0).trans (congrArg (x_aload 0) ((xe_g1 (kk := 111) rfl tl_11_30).trans (congrArg (x_g1 111 230) ((xe_iload 1).trans (congrArg (x_iload 1) ((xe_iaload).trans (congrArg (x_iaload) ((xe_aload 0).trans (congrArg (x_aload 0) ((xe_g0 (kk := 111) rfl tl_11_88).trans (congrArg (x_g0 111 88 (-1) 3) ((xe_if_icmp .eq 39).trans (congrArg (x_if_icmp .eq 39 K) ((xe_iconst (-1)).trans (congrArg (x_iconst (-1)) (xe_goto 45)))))))))))))))))))))))))
theorem bk_X11_witness_35 : ck_ fX11 (some .int) cX11_witness 35 [.iconst (-1), .goto 45] 39 = true := qck_r (nn_ _) (by decide +kernel)
theorem bs_X11_witness_35 {P : Zt → Option Zv → Prop} (K : Int → Zl → List Zv → Zt → Prop) : sx_ K P [.iconst (-1), .goto 45] 39 = x_iconst (-1) (x_goto 45 K) := ((xe_iconst (-1)).trans (congrArg (x_iconst (-1)) (xe_goto 45)))
theorem bk_X11_witness_45 : ck_ fX11 (some .int) cX11_witness 45 [.ireturn] 46 = true := qck_r (nn_ _) (by decide +kernel)
theorem bs_X11_witness_45 {P : Zt → Option Zv → Prop} (K : Int → Zl → List Zv → Zt → Prop) : sx_ K P [.ireturn] 46 = x_ireturn P := (xe_ireturn)
theorem bk_X11_witness_39 : ck_ fX11 (some .int) cX11_witness 39 [.aload 0, .tableswitch 0 11 89 #[], .iload 1, .iaload, .ireturn] 46 = true := qck_r (nn_ _) (by decide +kernel)
theorem bs_X11_witness_39 {P : Zt → Option Zv → Prop} (K : Int → Zl → List Zv → Zt → Prop) : sx_ K P [.aload 0, .tableswitch 0 11 89 #[], .iload 1, .iaload, .ireturn] 46 = x_aload 0 (x_g1 111 289 (x_iload 1 (x_iaload (x_ireturn P)))) := ((xe_aload 0).trans (congrArg (x_aload 0) ((xe_g1 (kk := 111) rfl tl_11_89).trans (congrArg (x_g1 111 289) ((xe_iload 1).trans (congrArg (x_iload 1) ((xe_iaload).trans (congrArg (x_iaload) (xe_ireturn)))))))))
abbrev po_X11_witness (T : Zt) (m : Int) : Zt → Option Zv → Prop := fun T' r => T = T' ∧ ∃ x : Int, r = some (vI x) ∧ (True)
set_option maxHeartbeats 4000000 in
theorem ct_X11_witness {T : Zt} {m : Int} : Ct_ yX11_witness zX11_witness T [vR 111 0, vI m] (po_X11_witness T m) := by
  refine ct_of pn_11 rfl rfl (Nat.le_of_ble_eq_true rfl) (fun hT hav => ?_)
  have hr_m : -2147483648 ≤ m ∧ m ≤ 2147483647 := hav (vI m) (by simp)
  have hz : zX11_witness.2.2.2.1 = some .boolean → ∀ (T' : Zt) (x : Int), po_X11_witness T m T' (some (vI x)) → 0 ≤ x ∧ x ≤ 1 := fun h => by cases h
  show J_ zX11_witness T (po_X11_witness T m) 0 0 0 [some (vR 111 0), some (vI m)] [] T
  refine j_blx (F := fX11) tb_X11 (nn_ _) bk_X11_witness_0 bs_X11_witness_0 hz (fun K hK => ?_)
  intro b1 b1b
  refine hK 5 _ [vI (T 111 0 29), vI m] T ?_
  refine j_callS (y := yX11_isOf) (Yc := zX11_isOf) (rest := []) [vI m, vI (T 111 0 29)] (ct_X11_isOf (T := T) (by omega)) cl_X11_317 (qd_c (by decide +kernel)) (nn_ _) rfl (rf_of rfl) (Nat.le_of_ble_eq_true rfl) (Nat.le_of_ble_eq_true rfl) (Nat.le_of_ble_eq_true rfl) rfl ?_
  rintro _ _ ⟨rfl, x2, rfl, hx2⟩
  show J_ zX11_witness T (po_X11_witness T m) 0 0 8 _ [vI x2] T
  refine j_blx (F := fX11) tb_X11 (nn_ _) bk_X11_witness_8 bs_X11_witness_8 hz (fun K hK => ?_)
  refine And.intro (fun c3 => ?_) (fun c3 => ?_)
  · refine hK 14 _ [] T ?_
    refine j_blx (F := fX11) tb_X11 (nn_ _) bk_X11_witness_14 bs_X11_witness_14 hz (fun K hK => ?_)
    intro b4 b4b
    refine And.intro (fun c5 => ?_) (fun c5 => ?_)
    · refine hK 35 _ [] T ?_
      refine j_blx (F := fX11) tb_X11 (nn_ _) bk_X11_witness_35 bs_X11_witness_35 hz (fun K hK => ?_)
      refine hK 45 _ [vI (-1)] T ?_
      refine j_blx (F := fX11) tb_X11 (nn_ _) bk_X11_witness_45 bs_X11_witness_45 hz (fun K hK => ?_)
      refine (show po_X11_witness T m T (some (vI (-1))) from ?_)
      exact ⟨rfl, _, rfl, by trivial⟩
    · refine ix_i (by omega) ?_
      intro b6 b6b
      intro b7 b7b
      refine And.intro (fun c8 => ?_) (fun c8 => ?_)
      · refine hK 39 _ [] T ?_
        refine j_blx (F := fX11) tb_X11 (nn_ _) bk_X11_witness_39 bs_X11_witness_39 hz (fun K hK => ?_)
        refine ix_i (by omega) ?_
        intro b9 b9b
        refine (show po_X11_witness T m T (some (vI (T 289 0 m))) from ?_)
        exact ⟨rfl, _, rfl, by trivial⟩
      · refine hK 45 _ [vI (-1)] T ?_
        refine j_blx (F := fX11) tb_X11 (nn_ _) bk_X11_witness_45 bs_X11_witness_45 hz (fun K hK => ?_)
        refine (show po_X11_witness T m T (some (vI (-1))) from ?_)
        exact ⟨rfl, _, rfl, by trivial⟩
  · refine (show po_X11_witness T m T (some (vI (-2))) from ?_)
    exact ⟨rfl, _, rfl, by trivial⟩
abbrev cX11_drawing : ByteArray := prog_13_method_111_code
def yX11_drawing : MethodName := ⟨RX11, "drawing", "(II)I"⟩
def zX11_drawing : Zm := (RX11, cX11_drawing, 4, (some .int), { frames := 1, cells := 0, slots := 0, locals := 22 })
theorem bk_X11_drawing_38 : ck_ fX11 (some .int) cX11_drawing 38 [.iload 3, .iconst 12, .if_icmp .ge 64, .aload 0, .tableswitch 0 11 101 #[], .iload 3, .iconst (-1), .iastore, .aload 0, .tableswitch 0 11 102 #[], .iload 3, .iconst (-1), .iastore, .iinc 3 1, .goto 38] 64 = true := qck_r (nn_ _) (by decide +kernel)
theorem bs_X11_drawing_38 {P : Zt → Option Zv → Prop} (K : Int → Zl → List Zv → Zt → Prop) : sx_ K P [.iload 3, .iconst 12, .if_icmp .ge 64, .aload 0, .tableswitch 0 11 101 #[], .iload 3, .iconst (-1), .iastore, .aload 0, .tableswitch 0 11 102 #[], .iload 3, .iconst (-1), .iastore, .iinc 3 1, .goto 38] 64 = x_iload 3 (x_iconst 12 (x_if_icmp .ge 64 K (x_aload 0 (x_g1 111 301 (x_iload 3 (x_iconst (-1) (x_iastore (x_aload 0 (x_g1 111 302 (x_iload 3 (x_iconst (-1) (x_iastore (x_iinc 3 1 (x_goto 38 K)))))))))))))) := ((xe_iload 3).trans (congrArg (x_iload 3) ((xe_iconst 12).trans (congrArg (x_iconst 12) ((xe_if_icmp .ge 64).trans (congrArg (x_if_icmp .ge 64 K) ((xe_aload 0).trans (congrArg (x_aload 0) ((xe_g1 (kk := 111) rfl tl_11_101).trans (congrArg (x_g1 111 301) ((xe_iload 3).trans (congrArg (x_iload 3) ((xe_iconst (-1)).trans (congrArg (x_iconst (-1)) ((xe_iastore).trans (congrArg (x_iastore) ((xe_aload 0).trans (congrArg (x_aload 0) ((xe_g1 (kk := 111) rfl tl_11_102).trans (congrArg (x_g1 111 302) ((xe_iload 3).trans (congrArg (x_iload 3) ((xe_iconst (-1)).trans (congrArg (x_iconst (-1)) ((xe_iastore).trans (congrArg (x_iastore) ((xe_iinc 3 1).trans (congrArg (x_iinc 3 1) (xe_goto 38)))))))))))))))))))))))))))))
theorem bk_X11_drawing_64 : ck_ fX11 (some .int) cX11_drawing 64 [.iconst 1, .ireturn] 66 = true := qck_r (nn_ _) (by decide +kernel)
theorem bs_X11_drawing_64 {P : Zt → Option Zv → Prop} (K : Int → Zl → List Zv → Zt → Prop) : sx_ K P [.iconst 1, .ireturn] 66 = x_iconst 1 (x_ireturn P) := ((xe_iconst 1).trans (congrArg (x_iconst 1) (xe_ireturn)))
theorem bk_X11_drawing_0 : ck_ fX11 (some .int) cX11_drawing 0 [.iload 1, .iconst 1, .iconst 4] 3 = true := qck_r (nn_ _) (by decide +kernel)
theorem bs_X11_drawing_0 {P : Zt → Option Zv → Prop} (K : Int → Zl → List Zv → Zt → Prop) : sx_ K P [.iload 1, .iconst 1, .iconst 4] 3 = x_iload 1 (x_iconst 1 (x_iconst 4 (K 3))) := ((xe_iload 1).trans (congrArg (x_iload 1) ((xe_iconst 1).trans (congrArg (x_iconst 1) ((xe_iconst 4).trans (congrArg (x_iconst 4) xe_nil))))))
theorem bk_X11_drawing_6 : ck_ fX11 (some .int) cX11_drawing 6 [.ifCond .eq 18, .iload 2, .iconst 1, .iconst 3] 12 = true := qck_r (nn_ _) (by decide +kernel)
theorem bs_X11_drawing_6 {P : Zt → Option Zv → Prop} (K : Int → Zl → List Zv → Zt → Prop) : sx_ K P [.ifCond .eq 18, .iload 2, .iconst 1, .iconst 3] 12 = x_ifCond .eq 18 K (x_iload 2 (x_iconst 1 (x_iconst 3 (K 12)))) := ((xe_ifCond .eq 18).trans (congrArg (x_ifCond .eq 18 K) ((xe_iload 2).trans (congrArg (x_iload 2) ((xe_iconst 1).trans (congrArg (x_iconst 1) ((xe_iconst 3).trans (congrArg (x_iconst 3) xe_nil))))))))
theorem bk_X11_drawing_18 : ck_ fX11 (some .int) cX11_drawing 18 [.iconst (-3), .ireturn] 21 = true := qck_r (nn_ _) (by decide +kernel)
theorem bs_X11_drawing_18 {P : Zt → Option Zv → Prop} (K : Int → Zl → List Zv → Zt → Prop) : sx_ K P [.iconst (-3), .ireturn] 21 = x_iconst (-3) (x_ireturn P) := ((xe_iconst (-3)).trans (congrArg (x_iconst (-3)) (xe_ireturn)))
theorem bk_X11_drawing_15 : ck_ fX11 (some .int) cX11_drawing 15 [.ifCond .ne 21, .iconst (-3), .ireturn] 21 = true := qck_r (nn_ _) (by decide +kernel)
theorem bs_X11_drawing_15 {P : Zt → Option Zv → Prop} (K : Int → Zl → List Zv → Zt → Prop) : sx_ K P [.ifCond .ne 21, .iconst (-3), .ireturn] 21 = x_ifCond .ne 21 K (x_iconst (-3) (x_ireturn P)) := ((xe_ifCond .ne 21).trans (congrArg (x_ifCond .ne 21 K) ((xe_iconst (-3)).trans (congrArg (x_iconst (-3)) (xe_ireturn)))))
theorem bk_X11_drawing_21 : ck_ fX11 (some .int) cX11_drawing 21 [.aload 0, .iconst 1, .tableswitch 1 11 98 #[], .aload 0, .iload 1, .tableswitch 1 11 99 #[], .aload 0, .iload 2, .tableswitch 1 11 100 #[], .iconst 0, .istore 3] 38 = true := qck_r (nn_ _) (by decide +kernel)
theorem bs_X11_drawing_21 {P : Zt → Option Zv → Prop} (K : Int → Zl → List Zv → Zt → Prop) : sx_ K P [.aload 0, .iconst 1, .tableswitch 1 11 98 #[], .aload 0, .iload 1, .tableswitch 1 11 99 #[], .aload 0, .iload 2, .tableswitch 1 11 100 #[], .iconst 0, .istore 3] 38 = x_aload 0 (x_iconst 1 (x_p 111 98 0 1 (x_aload 0 (x_iload 1 (x_p 111 99 0 4 (x_aload 0 (x_iload 2 (x_p 111 100 0 3 (x_iconst 0 (x_istore 3 (K 38))))))))))) := ((xe_aload 0).trans (congrArg (x_aload 0) ((xe_iconst 1).trans (congrArg (x_iconst 1) ((xe_p (kk := 111) rfl tl_11_98).trans (congrArg (x_p 111 98 0 1) ((xe_aload 0).trans (congrArg (x_aload 0) ((xe_iload 1).trans (congrArg (x_iload 1) ((xe_p (kk := 111) rfl tl_11_99).trans (congrArg (x_p 111 99 0 4) ((xe_aload 0).trans (congrArg (x_aload 0) ((xe_iload 2).trans (congrArg (x_iload 2) ((xe_p (kk := 111) rfl tl_11_100).trans (congrArg (x_p 111 100 0 3) ((xe_iconst 0).trans (congrArg (x_iconst 0) ((xe_istore 3).trans (congrArg (x_istore 3) xe_nil))))))))))))))))))))))
abbrev po_X11_drawing (T : Zt) (g l : Int) : Zt → Option Zv → Prop := fun T' r => ∃ x : Int, r = some (vI x) ∧ fr_ [(111, [98, 99, 100]), (301, []), (302, [])] T T' ∧ ((x = -3 ∧ ¬ (1 ≤ g ∧ g ≤ 4 ∧ 1 ≤ l ∧ l ≤ 3)) ∨ (x = 1 ∧ 1 ≤ g ∧ g ≤ 4 ∧ 1 ≤ l ∧ l ≤ 3))
set_option maxHeartbeats 4000000 in
theorem ct_X11_drawing {T : Zt} {g l : Int} : Ct_ yX11_drawing zX11_drawing T [vR 111 0, vI g, vI l] (po_X11_drawing T g l) := by
  refine ct_of pn_11 rfl rfl (Nat.le_of_ble_eq_true rfl) (fun hT hav => ?_)
  have hr_g : -2147483648 ≤ g ∧ g ≤ 2147483647 := hav (vI g) (by simp)
  have hr_l : -2147483648 ≤ l ∧ l ≤ 2147483647 := hav (vI l) (by simp)
  have hz : zX11_drawing.2.2.2.1 = some .boolean → ∀ (T' : Zt) (x : Int), po_X11_drawing T g l T' (some (vI x)) → 0 ≤ x ∧ x ≤ 1 := fun h => by cases h
  show J_ zX11_drawing T (po_X11_drawing T g l) 0 0 0 [some (vR 111 0), some (vI g), some (vI l), none] [] T
  have c_38 : ∀ (nn : Nat) (k : Int) (T1 : Zt), ((12 - k).toNat) ≤ nn → (fr_ [(111, [98, 99, 100]), (301, []), (302, [])] T T1) → (0 ≤ k ∧ 1 ≤ g ∧ g ≤ 4 ∧ 1 ≤ l ∧ l ≤ 3) → J_ zX11_drawing T (po_X11_drawing T g l) 0 0 38 [some (vR 111 0), some (vI g), some (vI l), some (vI k)] [] T1 := by
    intro nn
    induction nn using Nat.strongRecOn with
    | _ nn ih_38 =>
      intro k T1 hm_38 hf_38 k1
      refine j_blx (F := fX11) tb_X11 (nn_ _) bk_X11_drawing_38 bs_X11_drawing_38 hz (fun K hK => ?_)
      refine And.intro (fun c1 => ?_) (fun c1 => ?_)
      · refine hK 64 _ [] T1 ?_
        refine j_blx (F := fX11) tb_X11 (nn_ _) bk_X11_drawing_64 bs_X11_drawing_64 hz (fun K hK => ?_)
        refine (show po_X11_drawing T g l T1 (some (vI 1)) from ?_)
        exact ⟨_, rfl, fr_t (fr_0 _ _) (fr_s hf_38 rfl), by omega⟩
      · refine iy_i (by omega) (by omega) ?_
        refine x_nm (fun U2 hU2 => ?_)
        have e3 := up_f hU2
        refine iy_i (by omega) (by omega) ?_
        refine x_nm (fun U4 hU4 => ?_)
        have e5 := up_f hU4
        refine rg_i (by omega) ?_
        refine hK 38 [some (vR 111 0), some (vI g), some (vI l), some (vI (k + 1))] [] U4 ?_
        refine ih_38 _ ?_ (k + 1) U4 (Nat.le_refl _) ?_ ?_
        · omega
        · exact fr_u (fr_u (fr_t (fr_0 _ _) (fr_s hf_38 rfl)) hU2 rfl) hU4 rfl
        · omega
  refine j_blx (F := fX11) tb_X11 (nn_ _) bk_X11_drawing_0 bs_X11_drawing_0 hz (fun K hK => ?_)
  refine hK 3 _ [vI 4, vI 1, vI g] T ?_
  refine j_callS (y := yX11_in) (Yc := zX11_in) (rest := []) [vI g, vI 1, vI 4] (ct_X11_in (T := T)) cl_X11_255 (qd_c (by decide +kernel)) (nn_ _) rfl (rf_of rfl) (Nat.le_of_ble_eq_true rfl) (Nat.le_of_ble_eq_true rfl) (Nat.le_of_ble_eq_true rfl) rfl ?_
  rintro _ _ ⟨rfl, x6, rfl, hx6⟩
  show J_ zX11_drawing T (po_X11_drawing T g l) 0 0 6 _ [vI x6] T
  refine j_blx (F := fX11) tb_X11 (nn_ _) bk_X11_drawing_6 bs_X11_drawing_6 hz (fun K hK => ?_)
  refine And.intro (fun c7 => ?_) (fun c7 => ?_)
  · refine hK 18 _ [] T ?_
    refine j_blx (F := fX11) tb_X11 (nn_ _) bk_X11_drawing_18 bs_X11_drawing_18 hz (fun K hK => ?_)
    refine (show po_X11_drawing T g l T (some (vI (-3))) from ?_)
    exact ⟨_, rfl, fr_0 _ _, by omega⟩
  · refine hK 12 _ [vI 3, vI 1, vI l] T ?_
    refine j_callS (y := yX11_in) (Yc := zX11_in) (rest := []) [vI l, vI 1, vI 3] (ct_X11_in (T := T)) cl_X11_255 (qd_c (by decide +kernel)) (nn_ _) rfl (rf_of rfl) (Nat.le_of_ble_eq_true rfl) (Nat.le_of_ble_eq_true rfl) (Nat.le_of_ble_eq_true rfl) rfl ?_
    rintro _ _ ⟨rfl, x8, rfl, hx8⟩
    show J_ zX11_drawing T (po_X11_drawing T g l) 0 0 15 _ [vI x8] T
    refine j_blx (F := fX11) tb_X11 (nn_ _) bk_X11_drawing_15 bs_X11_drawing_15 hz (fun K hK => ?_)
    refine And.intro (fun c9 => ?_) (fun c9 => ?_)
    · refine hK 21 _ [] T ?_
      refine j_blx (F := fX11) tb_X11 (nn_ _) bk_X11_drawing_21 bs_X11_drawing_21 hz (fun K hK => ?_)
      refine bd_i (by omega) ?_
      refine x_nm (fun U10 hU10 => ?_)
      have e11 := up_f hU10
      refine bd_i (by omega) ?_
      refine x_nm (fun U12 hU12 => ?_)
      have e13 := up_f hU12
      refine bd_i (by omega) ?_
      refine x_nm (fun U14 hU14 => ?_)
      have e15 := up_f hU14
      refine hK 38 [some (vR 111 0), some (vI g), some (vI l), some (vI 0)] [] U14 ?_
      refine c_38 _ 0 U14 (Nat.le_refl _) ?_ ?_
      · exact fr_u (fr_u (fr_u (fr_0 _ _) hU10 rfl) hU12 rfl) hU14 rfl
      · omega
    · refine (show po_X11_drawing T g l T (some (vI (-3))) from ?_)
      exact ⟨_, rfl, fr_0 _ _, by omega⟩
abbrev cX11_isInDraw : ByteArray := prog_13_method_112_code
def yX11_isInDraw : MethodName := ⟨RX11, "isInDraw", "(I)Z"⟩
def zX11_isInDraw : Zm := (RX11, cX11_isInDraw, 2, (some .boolean), { frames := 0, cells := 0, slots := 0, locals := 0 })
theorem bk_X11_isInDraw_0 : ck_ fX11 (some .boolean) cX11_isInDraw 0 [.aload 0, .tableswitch 0 11 98 #[], .ifCond .eq 21, .aload 0, .tableswitch 0 11 101 #[], .iload 1, .iaload, .iconst (-1), .if_icmp .eq 21, .iconst 1, .goto 22] 21 = true := qck_r (nn_ _) (by decide +kernel)
theorem bs_X11_isInDraw_0 {P : Zt → Option Zv → Prop} (K : Int → Zl → List Zv → Zt → Prop) : sx_ K P [.aload 0, .tableswitch 0 11 98 #[], .ifCond .eq 21, .aload 0, .tableswitch 0 11 101 #[], .iload 1, .iaload, .iconst (-1), .if_icmp .eq 21, .iconst 1, .goto 22] 21 = x_aload 0 (x_g0 111 98 0 1 (x_ifCond .eq 21 K (x_aload 0 (x_g1 111 301 (x_iload 1 (x_iaload (x_iconst (-1) (x_if_icmp .eq 21 K (x_iconst 1 (x_goto 22 K)))))))))) := ((xe_aload 0).trans (congrArg (x_aload 0) ((xe_g0 (kk := 111) rfl tl_11_98).trans (congrArg (x_g0 111 98 0 1) ((xe_ifCond .eq 21).trans (congrArg (x_ifCond .eq 21 K) ((xe_aload 0).trans (congrArg (x_aload 0) ((xe_g1 (kk := 111) rfl tl_11_101).trans (congrArg (x_g1 111 301) ((xe_iload 1).trans (congrArg (x_iload 1) ((xe_iaload).trans (congrArg (x_iaload) ((xe_iconst (-1)).trans (congrArg (x_iconst (-1)) ((xe_if_icmp .eq 21).trans (congrArg (x_if_icmp .eq 21 K) ((xe_iconst 1).trans (congrArg (x_iconst 1) (xe_goto 22)))))))))))))))))))))
theorem bk_X11_isInDraw_21 : ck_ fX11 (some .boolean) cX11_isInDraw 21 [.iconst 0, .ireturn] 23 = true := qck_r (nn_ _) (by decide +kernel)
theorem bs_X11_isInDraw_21 {P : Zt → Option Zv → Prop} (K : Int → Zl → List Zv → Zt → Prop) : sx_ K P [.iconst 0, .ireturn] 23 = x_iconst 0 (x_ireturn P) := ((xe_iconst 0).trans (congrArg (x_iconst 0) (xe_ireturn)))
theorem bk_X11_isInDraw_22 : ck_ fX11 (some .boolean) cX11_isInDraw 22 [.ireturn] 23 = true := qck_r (nn_ _) (by decide +kernel)
theorem bs_X11_isInDraw_22 {P : Zt → Option Zv → Prop} (K : Int → Zl → List Zv → Zt → Prop) : sx_ K P [.ireturn] 23 = x_ireturn P := (xe_ireturn)
abbrev po_X11_isInDraw (T : Zt) (c : Int) : Zt → Option Zv → Prop := fun T' r => T = T' ∧ ∃ x : Int, r = some (vI x) ∧ ((x = 1 ∧ T 111 0 98 ≠ 0 ∧ T 301 0 c ≠ -1) ∨ (x = 0 ∧ ¬ (T 111 0 98 ≠ 0 ∧ T 301 0 c ≠ -1)))
set_option maxHeartbeats 4000000 in
theorem ct_X11_isInDraw {T : Zt} {c : Int} (h1 : 0 ≤ c ∧ c < 12) : Ct_ yX11_isInDraw zX11_isInDraw T [vR 111 0, vI c] (po_X11_isInDraw T c) := by
  refine ct_of pn_11 rfl rfl (Nat.le_of_ble_eq_true rfl) (fun hT hav => ?_)
  have hr_c : -2147483648 ≤ c ∧ c ≤ 2147483647 := hav (vI c) (by simp)
  have hz : zX11_isInDraw.2.2.2.1 = some .boolean → ∀ (T' : Zt) (x : Int), po_X11_isInDraw T c T' (some (vI x)) → 0 ≤ x ∧ x ≤ 1 := fun _ T' x h => by obtain ⟨-, y, e, hy⟩ := h; cases e; omega
  show J_ zX11_isInDraw T (po_X11_isInDraw T c) 0 0 0 [some (vR 111 0), some (vI c)] [] T
  refine j_blx (F := fX11) tb_X11 (nn_ _) bk_X11_isInDraw_0 bs_X11_isInDraw_0 hz (fun K hK => ?_)
  intro b1 b1b
  refine And.intro (fun c2 => ?_) (fun c2 => ?_)
  · refine hK 21 _ [] T ?_
    refine j_blx (F := fX11) tb_X11 (nn_ _) bk_X11_isInDraw_21 bs_X11_isInDraw_21 hz (fun K hK => ?_)
    refine (show po_X11_isInDraw T c T (some (vI 0)) from ?_)
    exact ⟨rfl, _, rfl, by omega⟩
  · refine ix_i (by omega) ?_
    intro b3 b3b
    refine And.intro (fun c4 => ?_) (fun c4 => ?_)
    · refine hK 21 _ [] T ?_
      refine j_blx (F := fX11) tb_X11 (nn_ _) bk_X11_isInDraw_21 bs_X11_isInDraw_21 hz (fun K hK => ?_)
      refine (show po_X11_isInDraw T c T (some (vI 0)) from ?_)
      exact ⟨rfl, _, rfl, by omega⟩
    · refine hK 22 _ [vI 1] T ?_
      refine j_blx (F := fX11) tb_X11 (nn_ _) bk_X11_isInDraw_22 bs_X11_isInDraw_22 hz (fun K hK => ?_)
      refine (show po_X11_isInDraw T c T (some (vI 1)) from ?_)
      exact ⟨rfl, _, rfl, by omega⟩

