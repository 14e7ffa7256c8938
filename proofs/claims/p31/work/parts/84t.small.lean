-- sign, fault, rule of both sides
/-- a sign is put at the text's end -/
def SG9_ (k : Nat) (T T' : Zt) (n c : Int) : Prop := T' k 0 n = c ∧ ∀ j, j ≠ n → T' k 0 j = T k 0 j
/-- a row stays -/
def RS9_ (k : Nat) (T T' : Zt) : Prop := ∀ j, T' k 0 j = T k 0 j
theorem bk_X10_sign_e_0 : ck_ fX10 (some .int) cX10_sign 0 [.iload 1, .iconst 10, .if_icmp .eq 21, .iload 1, .iconst 32, .if_icmp .lt 18, .iload 1, .iconst 126, .if_icmp .le 21, .iconst (-3), .ireturn] 21 = true := qck_r (nn_ _) (by decide +kernel)
theorem bs_X10_sign_e_0 {P : Zt → Option Zv → Prop} (K : Int → Zl → List Zv → Zt → Prop) : sx_ K P [.iload 1, .iconst 10, .if_icmp .eq 21, .iload 1, .iconst 32, .if_icmp .lt 18, .iload 1, .iconst 126, .if_icmp .le 21, .iconst (-3), .ireturn] 21 = x_iload 1 (x_iconst 10 (x_if_icmp .eq 21 K (x_iload 1 (x_iconst 32 (x_if_icmp .lt 18 K (x_iload 1 (x_iconst 126 (x_if_icmp .le 21 K (x_iconst (-3) (x_ireturn P)))))))))) := ((xe_iload 1).trans (congrArg (x_iload 1) ((xe_iconst 10).trans (congrArg (x_iconst 10) ((xe_if_icmp .eq 21).trans (congrArg (x_if_icmp .eq 21 K) ((xe_iload 1).trans (congrArg (x_iload 1) ((xe_iconst 32).trans (congrArg (x_iconst 32) ((xe_if_icmp .lt 18).trans (congrArg (x_if_icmp .lt 18 K) ((xe_iload 1).trans (congrArg (x_iload 1) ((xe_iconst 126).trans (congrArg (x_iconst 126) ((xe_if_icmp .le 21).trans (congrArg (x_if_icmp .le 21 K) ((xe_iconst (-3)).trans (congrArg (x_iconst (-3)) (xe_ireturn)))))))))))))))))))))
theorem bk_X10_sign_e_21 : ck_ fX10 (some .int) cX10_sign 21 [.aload 0, .tableswitch 0 10 0 #[], .tableswitch 0 5 1 #[], .iconst 400, .if_icmp .lt 37, .iconst (-5), .ireturn] 37 = true := qck_r (nn_ _) (by decide +kernel)
theorem bs_X10_sign_e_21 {P : Zt → Option Zv → Prop} (K : Int → Zl → List Zv → Zt → Prop) : sx_ K P [.aload 0, .tableswitch 0 10 0 #[], .tableswitch 0 5 1 #[], .iconst 400, .if_icmp .lt 37, .iconst (-5), .ireturn] 37 = x_aload 0 (x_g1 110 105 (x_g0 105 1 0 400 (x_iconst 400 (x_if_icmp .lt 37 K (x_iconst (-5) (x_ireturn P)))))) := ((xe_aload 0).trans (congrArg (x_aload 0) ((xe_g1 (kk := 110) rfl tl_10_0).trans (congrArg (x_g1 110 105) ((xe_g0 (kk := 105) rfl tl_5_1).trans (congrArg (x_g0 105 1 0 400) ((xe_iconst 400).trans (congrArg (x_iconst 400) ((xe_if_icmp .lt 37).trans (congrArg (x_if_icmp .lt 37 K) ((xe_iconst (-5)).trans (congrArg (x_iconst (-5)) (xe_ireturn)))))))))))))
theorem bk_X10_sign_e_37 : ck_ fX10 (some .int) cX10_sign 37 [.aload 0, .tableswitch 0 10 0 #[], .tableswitch 0 5 0 #[], .aload 0, .tableswitch 0 10 0 #[], .tableswitch 0 5 1 #[], .iload 1, .iastore, .aload 0, .tableswitch 0 10 0 #[], .dup, .tableswitch 0 5 1 #[], .iconst 1, .iadd, .tableswitch 1 5 1 #[], .aload 0, .tableswitch 0 10 0 #[], .tableswitch 0 5 1 #[], .ireturn] 74 = true := qck_r (nn_ _) (by decide +kernel)
theorem bs_X10_sign_e_37 {P : Zt → Option Zv → Prop} (K : Int → Zl → List Zv → Zt → Prop) : sx_ K P [.aload 0, .tableswitch 0 10 0 #[], .tableswitch 0 5 0 #[], .aload 0, .tableswitch 0 10 0 #[], .tableswitch 0 5 1 #[], .iload 1, .iastore, .aload 0, .tableswitch 0 10 0 #[], .dup, .tableswitch 0 5 1 #[], .iconst 1, .iadd, .tableswitch 1 5 1 #[], .aload 0, .tableswitch 0 10 0 #[], .tableswitch 0 5 1 #[], .ireturn] 74 = x_aload 0 (x_g1 110 105 (x_g1 105 500 (x_aload 0 (x_g1 110 105 (x_g0 105 1 0 400 (x_iload 1 (x_iastore (x_aload 0 (x_g1 110 105 (x_dup (x_g0 105 1 0 400 (x_iconst 1 (x_iadd (x_p 105 1 0 400 (x_aload 0 (x_g1 110 105 (x_g0 105 1 0 400 (x_ireturn P)))))))))))))))))) := ((xe_aload 0).trans (congrArg (x_aload 0) ((xe_g1 (kk := 110) rfl tl_10_0).trans (congrArg (x_g1 110 105) ((xe_g1 (kk := 105) rfl tl_5_0).trans (congrArg (x_g1 105 500) ((xe_aload 0).trans (congrArg (x_aload 0) ((xe_g1 (kk := 110) rfl tl_10_0).trans (congrArg (x_g1 110 105) ((xe_g0 (kk := 105) rfl tl_5_1).trans (congrArg (x_g0 105 1 0 400) ((xe_iload 1).trans (congrArg (x_iload 1) ((xe_iastore).trans (congrArg (x_iastore) ((xe_aload 0).trans (congrArg (x_aload 0) ((xe_g1 (kk := 110) rfl tl_10_0).trans (congrArg (x_g1 110 105) ((xe_dup).trans (congrArg (x_dup) ((xe_g0 (kk := 105) rfl tl_5_1).trans (congrArg (x_g0 105 1 0 400) ((xe_iconst 1).trans (congrArg (x_iconst 1) ((xe_iadd).trans (congrArg (x_iadd) ((xe_p (kk := 105) rfl tl_5_1).trans (congrArg (x_p 105 1 0 400) ((xe_aload 0).trans (congrArg (x_aload 0) ((xe_g1 (kk := 110) rfl tl_10_0).trans (congrArg (x_g1 110 105) ((xe_g0 (kk := 105) rfl tl_5_1).trans (congrArg (x_g0 105 1 0 400) (xe_ireturn)))))))))))))))))))))))))))))))))))))
theorem bk_X10_sign_e_18 : ck_ fX10 (some .int) cX10_sign 18 [.iconst (-3), .ireturn] 21 = true := qck_r (nn_ _) (by decide +kernel)
theorem bs_X10_sign_e_18 {P : Zt → Option Zv → Prop} (K : Int → Zl → List Zv → Zt → Prop) : sx_ K P [.iconst (-3), .ireturn] 21 = x_iconst (-3) (x_ireturn P) := ((xe_iconst (-3)).trans (congrArg (x_iconst (-3)) (xe_ireturn)))
abbrev po_X10_sign_e (T : Zt) (c : Int) : Zt → Option Zv → Prop := fun T' r => ∃ x : Int, r = some (vI x) ∧ fr_ [(105, [1]), (500, [])] T T' ∧ ((x = -3 ∧ T' 105 0 1 = T 105 0 1 ∧ ¬ (c = 10 ∨ 32 ≤ c ∧ c ≤ 126) ∧ RS9_ 500 T T') ∨ ((c = 10 ∨ 32 ≤ c ∧ c ≤ 126) ∧ T 105 0 1 = 400 ∧ x = -5 ∧ T' 105 0 1 = 400 ∧ RS9_ 500 T T') ∨ ((c = 10 ∨ 32 ≤ c ∧ c ≤ 126) ∧ T 105 0 1 < 400 ∧ x = T 105 0 1 + 1 ∧ T' 105 0 1 = x ∧ SG9_ 500 T T' (T 105 0 1) c))
set_option maxHeartbeats 4000000 in
theorem ct_X10_sign_e {T : Zt} {c : Int} : Ct_ yX10_sign zX10_sign T [vR 110 0, vI c] (po_X10_sign_e T c) := by
  refine ct_of pn_10 rfl rfl (Nat.le_of_ble_eq_true rfl) (fun hT hav => ?_)
  have hr_c : -2147483648 ≤ c ∧ c ≤ 2147483647 := hav (vI c) (List.mem_cons_of_mem _ List.mem_cons_self)
  have hz : zX10_sign.2.2.2.1 = some .boolean → ∀ (T' : Zt) (x : Int), po_X10_sign_e T c T' (some (vI x)) → 0 ≤ x ∧ x ≤ 1 := fun h => by cases h
  have hb_length : 0 ≤ T 105 0 1 ∧ T 105 0 1 ≤ 400 := bd_f hT 105 1 tl_5_1 0
  show J_ zX10_sign T (po_X10_sign_e T c) 0 0 0 [some (vR 110 0), some (vI c)] [] T
  refine j_blx (F := fX10) tb_X10 (nn_ _) bk_X10_sign_e_0 bs_X10_sign_e_0 hz (fun K hK => ?_)
  refine And.intro (fun c1 => ?_) (fun c1 => ?_)
  · refine hK 21 _ [] T ?_
    refine j_blx (F := fX10) tb_X10 (nn_ _) bk_X10_sign_e_21 bs_X10_sign_e_21 hz (fun K hK => ?_)
    intro b2 b2b
    refine And.intro (fun c3 => ?_) (fun c3 => ?_)
    · refine hK 37 _ [] T ?_
      refine j_blx (F := fX10) tb_X10 (nn_ _) bk_X10_sign_e_37 bs_X10_sign_e_37 hz (fun K hK => ?_)
      intro b4 b4b
      refine iy_i (by omega) (by omega) ?_
      refine x_nm (fun U5 hU5 => ?_)
      have e6 := up_f hU5
      intro b7 b7b
      have e8 : U5 105 0 1 = T 105 0 1 := up_k hU5 (by exact Nat.ne_of_beq_eq_false rfl) 0 1
      rw [e8] at b7 b7b ⊢
      refine rg_i (by omega) ?_
      refine bd_i (by omega) ?_
      refine x_nm (fun U9 hU9 => ?_)
      have e10 := up_f hU9
      intro b11 b11b
      have e12 : U9 105 0 1 = (T 105 0 1) + 1 := up_f hU9
      rw [e12] at b11 b11b ⊢
      refine (show po_X10_sign_e T c U9 (some (vI ((T 105 0 1) + 1))) from ?_)
      have e13 : U9 105 0 1 = (T 105 0 1) + 1 := up_f hU9
      exact ⟨_, rfl, fr_u (fr_u (fr_0 _ _) hU5 rfl) hU9 rfl, Or.inr (Or.inr ⟨by omega, by omega, by omega, by omega, (up_k hU9 (by exact Nat.ne_of_beq_eq_false rfl) 0 _).trans (up_f hU5), fun j hj => (up_k hU9 (by exact Nat.ne_of_beq_eq_false rfl) 0 j).trans (up_g hU5 (fun z => hj z.2.2))⟩)⟩
    · refine (show po_X10_sign_e T c T (some (vI (-5))) from ?_)
      exact ⟨_, rfl, fr_0 _ _, Or.inr (Or.inl ⟨by omega, by omega, rfl, by omega, fun _ => rfl⟩)⟩
  · refine And.intro (fun c14 => ?_) (fun c14 => ?_)
    · refine hK 18 _ [] T ?_
      refine j_blx (F := fX10) tb_X10 (nn_ _) bk_X10_sign_e_18 bs_X10_sign_e_18 hz (fun K hK => ?_)
      refine (show po_X10_sign_e T c T (some (vI (-3))) from ?_)
      exact ⟨_, rfl, fr_0 _ _, Or.inl ⟨rfl, rfl, by omega, fun _ => rfl⟩⟩
    · refine And.intro (fun c15 => ?_) (fun c15 => ?_)
      · refine hK 21 _ [] T ?_
        refine j_blx (F := fX10) tb_X10 (nn_ _) bk_X10_sign_e_21 bs_X10_sign_e_21 hz (fun K hK => ?_)
        intro b16 b16b
        refine And.intro (fun c17 => ?_) (fun c17 => ?_)
        · refine hK 37 _ [] T ?_
          refine j_blx (F := fX10) tb_X10 (nn_ _) bk_X10_sign_e_37 bs_X10_sign_e_37 hz (fun K hK => ?_)
          intro b18 b18b
          refine iy_i (by omega) (by omega) ?_
          refine x_nm (fun U19 hU19 => ?_)
          have e20 := up_f hU19
          intro b21 b21b
          have e22 : U19 105 0 1 = T 105 0 1 := up_k hU19 (by exact Nat.ne_of_beq_eq_false rfl) 0 1
          rw [e22] at b21 b21b ⊢
          refine rg_i (by omega) ?_
          refine bd_i (by omega) ?_
          refine x_nm (fun U23 hU23 => ?_)
          have e24 := up_f hU23
          intro b25 b25b
          have e26 : U23 105 0 1 = (T 105 0 1) + 1 := up_f hU23
          rw [e26] at b25 b25b ⊢
          refine (show po_X10_sign_e T c U23 (some (vI ((T 105 0 1) + 1))) from ?_)
          have e27 : U23 105 0 1 = (T 105 0 1) + 1 := up_f hU23
          exact ⟨_, rfl, fr_u (fr_u (fr_0 _ _) hU19 rfl) hU23 rfl, Or.inr (Or.inr ⟨by omega, by omega, by omega, by omega, (up_k hU23 (by exact Nat.ne_of_beq_eq_false rfl) 0 _).trans (up_f hU19), fun j hj => (up_k hU23 (by exact Nat.ne_of_beq_eq_false rfl) 0 j).trans (up_g hU19 (fun z => hj z.2.2))⟩)⟩
        · refine (show po_X10_sign_e T c T (some (vI (-5))) from ?_)
          exact ⟨_, rfl, fr_0 _ _, Or.inr (Or.inl ⟨by omega, by omega, rfl, by omega, fun _ => rfl⟩)⟩
      · refine (show po_X10_sign_e T c T (some (vI (-3))) from ?_)
        exact ⟨_, rfl, fr_0 _ _, Or.inl ⟨rfl, rfl, by omega, fun _ => rfl⟩⟩
theorem bk_X11_sign_e_0 : ck_ fX11 (some .int) cX11_sign 0 [.iload 1, .iconst 10, .if_icmp .eq 20, .iload 1, .iconst 32, .iconst 126] 11 = true := qck_r (nn_ _) (by decide +kernel)
theorem bs_X11_sign_e_0 {P : Zt → Option Zv → Prop} (K : Int → Zl → List Zv → Zt → Prop) : sx_ K P [.iload 1, .iconst 10, .if_icmp .eq 20, .iload 1, .iconst 32, .iconst 126] 11 = x_iload 1 (x_iconst 10 (x_if_icmp .eq 20 K (x_iload 1 (x_iconst 32 (x_iconst 126 (K 11)))))) := ((xe_iload 1).trans (congrArg (x_iload 1) ((xe_iconst 10).trans (congrArg (x_iconst 10) ((xe_if_icmp .eq 20).trans (congrArg (x_if_icmp .eq 20 K) ((xe_iload 1).trans (congrArg (x_iload 1) ((xe_iconst 32).trans (congrArg (x_iconst 32) ((xe_iconst 126).trans (congrArg (x_iconst 126) xe_nil))))))))))))
theorem bk_X11_sign_e_20 : ck_ fX11 (some .int) cX11_sign 20 [.aload 0, .tableswitch 0 11 1 #[], .iconst 400, .if_icmp .ne 33, .iconst (-5), .ireturn] 33 = true := qck_r (nn_ _) (by decide +kernel)
theorem bs_X11_sign_e_20 {P : Zt → Option Zv → Prop} (K : Int → Zl → List Zv → Zt → Prop) : sx_ K P [.aload 0, .tableswitch 0 11 1 #[], .iconst 400, .if_icmp .ne 33, .iconst (-5), .ireturn] 33 = x_aload 0 (x_g0 111 1 0 400 (x_iconst 400 (x_if_icmp .ne 33 K (x_iconst (-5) (x_ireturn P))))) := ((xe_aload 0).trans (congrArg (x_aload 0) ((xe_g0 (kk := 111) rfl tl_11_1).trans (congrArg (x_g0 111 1 0 400) ((xe_iconst 400).trans (congrArg (x_iconst 400) ((xe_if_icmp .ne 33).trans (congrArg (x_if_icmp .ne 33 K) ((xe_iconst (-5)).trans (congrArg (x_iconst (-5)) (xe_ireturn)))))))))))
theorem bk_X11_sign_e_33 : ck_ fX11 (some .int) cX11_sign 33 [.aload 0, .tableswitch 0 11 0 #[], .aload 0, .tableswitch 0 11 1 #[], .iload 1, .iastore, .aload 0, .dup, .tableswitch 0 11 1 #[], .iconst 1, .iadd, .tableswitch 1 11 1 #[], .aload 0, .tableswitch 0 11 1 #[], .ireturn] 58 = true := qck_r (nn_ _) (by decide +kernel)
theorem bs_X11_sign_e_33 {P : Zt → Option Zv → Prop} (K : Int → Zl → List Zv → Zt → Prop) : sx_ K P [.aload 0, .tableswitch 0 11 0 #[], .aload 0, .tableswitch 0 11 1 #[], .iload 1, .iastore, .aload 0, .dup, .tableswitch 0 11 1 #[], .iconst 1, .iadd, .tableswitch 1 11 1 #[], .aload 0, .tableswitch 0 11 1 #[], .ireturn] 58 = x_aload 0 (x_g1 111 200 (x_aload 0 (x_g0 111 1 0 400 (x_iload 1 (x_iastore (x_aload 0 (x_dup (x_g0 111 1 0 400 (x_iconst 1 (x_iadd (x_p 111 1 0 400 (x_aload 0 (x_g0 111 1 0 400 (x_ireturn P)))))))))))))) := ((xe_aload 0).trans (congrArg (x_aload 0) ((xe_g1 (kk := 111) rfl tl_11_0).trans (congrArg (x_g1 111 200) ((xe_aload 0).trans (congrArg (x_aload 0) ((xe_g0 (kk := 111) rfl tl_11_1).trans (congrArg (x_g0 111 1 0 400) ((xe_iload 1).trans (congrArg (x_iload 1) ((xe_iastore).trans (congrArg (x_iastore) ((xe_aload 0).trans (congrArg (x_aload 0) ((xe_dup).trans (congrArg (x_dup) ((xe_g0 (kk := 111) rfl tl_11_1).trans (congrArg (x_g0 111 1 0 400) ((xe_iconst 1).trans (congrArg (x_iconst 1) ((xe_iadd).trans (congrArg (x_iadd) ((xe_p (kk := 111) rfl tl_11_1).trans (congrArg (x_p 111 1 0 400) ((xe_aload 0).trans (congrArg (x_aload 0) ((xe_g0 (kk := 111) rfl tl_11_1).trans (congrArg (x_g0 111 1 0 400) (xe_ireturn)))))))))))))))))))))))))))))
theorem bk_X11_sign_e_14 : ck_ fX11 (some .int) cX11_sign 14 [.ifCond .ne 20, .iconst (-3), .ireturn] 20 = true := qck_r (nn_ _) (by decide +kernel)
theorem bs_X11_sign_e_14 {P : Zt → Option Zv → Prop} (K : Int → Zl → List Zv → Zt → Prop) : sx_ K P [.ifCond .ne 20, .iconst (-3), .ireturn] 20 = x_ifCond .ne 20 K (x_iconst (-3) (x_ireturn P)) := ((xe_ifCond .ne 20).trans (congrArg (x_ifCond .ne 20 K) ((xe_iconst (-3)).trans (congrArg (x_iconst (-3)) (xe_ireturn)))))
abbrev po_X11_sign_e (T : Zt) (c : Int) : Zt → Option Zv → Prop := fun T' r => ∃ x : Int, r = some (vI x) ∧ fr_ [(111, [1]), (200, [])] T T' ∧ ((x = -3 ∧ T' 111 0 1 = T 111 0 1 ∧ ¬ (c = 10 ∨ 32 ≤ c ∧ c ≤ 126) ∧ RS9_ 200 T T') ∨ ((c = 10 ∨ 32 ≤ c ∧ c ≤ 126) ∧ T 111 0 1 = 400 ∧ x = -5 ∧ T' 111 0 1 = 400 ∧ RS9_ 200 T T') ∨ ((c = 10 ∨ 32 ≤ c ∧ c ≤ 126) ∧ T 111 0 1 < 400 ∧ x = T 111 0 1 + 1 ∧ T' 111 0 1 = x ∧ SG9_ 200 T T' (T 111 0 1) c))
set_option maxHeartbeats 4000000 in
theorem ct_X11_sign_e {T : Zt} {c : Int} : Ct_ yX11_sign zX11_sign T [vR 111 0, vI c] (po_X11_sign_e T c) := by
  refine ct_of pn_11 rfl rfl (Nat.le_of_ble_eq_true rfl) (fun hT hav => ?_)
  have hr_c : -2147483648 ≤ c ∧ c ≤ 2147483647 := hav (vI c) (List.mem_cons_of_mem _ List.mem_cons_self)
  have hz : zX11_sign.2.2.2.1 = some .boolean → ∀ (T' : Zt) (x : Int), po_X11_sign_e T c T' (some (vI x)) → 0 ≤ x ∧ x ≤ 1 := fun h => by cases h
  have hb_1 : 0 ≤ T 111 0 1 ∧ T 111 0 1 ≤ 400 := bd_f hT 111 1 tl_11_1 0
  show J_ zX11_sign T (po_X11_sign_e T c) 0 0 0 [some (vR 111 0), some (vI c)] [] T
  refine j_blx (F := fX11) tb_X11 (nn_ _) bk_X11_sign_e_0 bs_X11_sign_e_0 hz (fun K hK => ?_)
  refine And.intro (fun c1 => ?_) (fun c1 => ?_)
  · refine hK 20 _ [] T ?_
    refine j_blx (F := fX11) tb_X11 (nn_ _) bk_X11_sign_e_20 bs_X11_sign_e_20 hz (fun K hK => ?_)
    intro b2 b2b
    refine And.intro (fun c3 => ?_) (fun c3 => ?_)
    · refine hK 33 _ [] T ?_
      refine j_blx (F := fX11) tb_X11 (nn_ _) bk_X11_sign_e_33 bs_X11_sign_e_33 hz (fun K hK => ?_)
      intro b4 b4b
      refine iy_i (by omega) (by omega) ?_
      refine x_nm (fun U5 hU5 => ?_)
      have e6 := up_f hU5
      intro b7 b7b
      have e8 : U5 111 0 1 = T 111 0 1 := up_k hU5 (by exact Nat.ne_of_beq_eq_false rfl) 0 1
      rw [e8] at b7 b7b ⊢
      refine rg_i (by omega) ?_
      refine bd_i (by omega) ?_
      refine x_nm (fun U9 hU9 => ?_)
      have e10 := up_f hU9
      intro b11 b11b
      have e12 : U9 111 0 1 = (T 111 0 1) + 1 := up_f hU9
      rw [e12] at b11 b11b ⊢
      refine (show po_X11_sign_e T c U9 (some (vI ((T 111 0 1) + 1))) from ?_)
      have e13 : U9 111 0 1 = (T 111 0 1) + 1 := up_f hU9
      exact ⟨_, rfl, fr_u (fr_u (fr_0 _ _) hU5 rfl) hU9 rfl, Or.inr (Or.inr ⟨by omega, by omega, by omega, by omega, (up_k hU9 (by exact Nat.ne_of_beq_eq_false rfl) 0 _).trans (up_f hU5), fun j hj => (up_k hU9 (by exact Nat.ne_of_beq_eq_false rfl) 0 j).trans (up_g hU5 (fun z => hj z.2.2))⟩)⟩
    · refine (show po_X11_sign_e T c T (some (vI (-5))) from ?_)
      exact ⟨_, rfl, fr_0 _ _, Or.inr (Or.inl ⟨by omega, by omega, rfl, by omega, fun _ => rfl⟩)⟩
  · refine hK 11 _ [vI 126, vI 32, vI c] T ?_
    refine j_callS (y := yX11_in) (Yc := zX11_in) (rest := []) [vI c, vI 32, vI 126] (ct_X11_in (T := T)) cl_X11_255 (qd_c (by decide +kernel)) (nn_ _) rfl (rf_of rfl) (Nat.le_of_ble_eq_true rfl) (Nat.le_of_ble_eq_true rfl) (Nat.le_of_ble_eq_true rfl) rfl ?_
    rintro _ _ ⟨rfl, x14, rfl, hx14⟩
    show J_ zX11_sign T (po_X11_sign_e T c) 0 0 14 _ [vI x14] T
    refine j_blx (F := fX11) tb_X11 (nn_ _) bk_X11_sign_e_14 bs_X11_sign_e_14 hz (fun K hK => ?_)
    refine And.intro (fun c15 => ?_) (fun c15 => ?_)
    · replace hx14 := hx14.resolve_right (fun z => c15 z.1)
      clear c15
      refine hK 20 _ [] T ?_
      refine j_blx (F := fX11) tb_X11 (nn_ _) bk_X11_sign_e_20 bs_X11_sign_e_20 hz (fun K hK => ?_)
      intro b16 b16b
      refine And.intro (fun c17 => ?_) (fun c17 => ?_)
      · refine hK 33 _ [] T ?_
        refine j_blx (F := fX11) tb_X11 (nn_ _) bk_X11_sign_e_33 bs_X11_sign_e_33 hz (fun K hK => ?_)
        intro b18 b18b
        refine iy_i (by omega) (by omega) ?_
        refine x_nm (fun U19 hU19 => ?_)
        have e20 := up_f hU19
        intro b21 b21b
        have e22 : U19 111 0 1 = T 111 0 1 := up_k hU19 (by exact Nat.ne_of_beq_eq_false rfl) 0 1
        rw [e22] at b21 b21b ⊢
        refine rg_i (by omega) ?_
        refine bd_i (by omega) ?_
        refine x_nm (fun U23 hU23 => ?_)
        have e24 := up_f hU23
        intro b25 b25b
        have e26 : U23 111 0 1 = (T 111 0 1) + 1 := up_f hU23
        rw [e26] at b25 b25b ⊢
        refine (show po_X11_sign_e T c U23 (some (vI ((T 111 0 1) + 1))) from ?_)
        have e27 : U23 111 0 1 = (T 111 0 1) + 1 := up_f hU23
        exact ⟨_, rfl, fr_u (fr_u (fr_0 _ _) hU19 rfl) hU23 rfl, Or.inr (Or.inr ⟨by omega, by omega, by omega, by omega, (up_k hU23 (by exact Nat.ne_of_beq_eq_false rfl) 0 _).trans (up_f hU19), fun j hj => (up_k hU23 (by exact Nat.ne_of_beq_eq_false rfl) 0 j).trans (up_g hU19 (fun z => hj z.2.2))⟩)⟩
      · refine (show po_X11_sign_e T c T (some (vI (-5))) from ?_)
        exact ⟨_, rfl, fr_0 _ _, Or.inr (Or.inl ⟨by omega, by omega, rfl, by omega, fun _ => rfl⟩)⟩
    · replace hx14 := hx14.resolve_left (fun z => absurd (c15.symm.trans z.1) (by decide))
      clear c15
      refine (show po_X11_sign_e T c T (some (vI (-3))) from ?_)
      exact ⟨_, rfl, fr_0 _ _, Or.inl ⟨rfl, rfl, by omega, fun _ => rfl⟩⟩
theorem bk_X10_fault_e_0 : ck_ fX10 (some .int) cX10_fault 0 [.aload 0, .tableswitch 0 10 0 #[], .tableswitch 0 5 3 #[], .ireturn] 8 = true := qck_r (nn_ _) (by decide +kernel)
theorem bs_X10_fault_e_0 {P : Zt → Option Zv → Prop} (K : Int → Zl → List Zv → Zt → Prop) : sx_ K P [.aload 0, .tableswitch 0 10 0 #[], .tableswitch 0 5 3 #[], .ireturn] 8 = x_aload 0 (x_g1 110 105 (x_g0 105 3 (-1) 400 (x_ireturn P))) := ((xe_aload 0).trans (congrArg (x_aload 0) ((xe_g1 (kk := 110) rfl tl_10_0).trans (congrArg (x_g1 110 105) ((xe_g0 (kk := 105) rfl tl_5_3).trans (congrArg (x_g0 105 3 (-1) 400) (xe_ireturn)))))))
abbrev po_X10_fault_e (T : Zt) : Zt → Option Zv → Prop := fun T' r => T = T' ∧ ∃ x : Int, r = some (vI x) ∧ (x = T 105 0 3)
set_option maxHeartbeats 4000000 in
theorem ct_X10_fault_e {T : Zt} : Ct_ yX10_fault zX10_fault T [vR 110 0] (po_X10_fault_e T) := by
  refine ct_of pn_10 rfl rfl (Nat.le_of_ble_eq_true rfl) (fun hT hav => ?_)
  have hz : zX10_fault.2.2.2.1 = some .boolean → ∀ (T' : Zt) (x : Int), po_X10_fault_e T T' (some (vI x)) → 0 ≤ x ∧ x ≤ 1 := fun h => by cases h
  show J_ zX10_fault T (po_X10_fault_e T) 0 0 0 [some (vR 110 0)] [] T
  refine j_blx (F := fX10) tb_X10 (nn_ _) bk_X10_fault_e_0 bs_X10_fault_e_0 hz (fun K hK => ?_)
  intro b1 b1b
  refine (show po_X10_fault_e T T (some (vI (T 105 0 3))) from ?_)
  exact ⟨rfl, _, rfl, by omega⟩
theorem bk_X11_fault_e_0 : ck_ fX11 (some .int) cX11_fault 0 [.aload 0, .tableswitch 0 11 2 #[], .ireturn] 5 = true := qck_r (nn_ _) (by decide +kernel)
theorem bs_X11_fault_e_0 {P : Zt → Option Zv → Prop} (K : Int → Zl → List Zv → Zt → Prop) : sx_ K P [.aload 0, .tableswitch 0 11 2 #[], .ireturn] 5 = x_aload 0 (x_g0 111 2 (-1) 400 (x_ireturn P)) := ((xe_aload 0).trans (congrArg (x_aload 0) ((xe_g0 (kk := 111) rfl tl_11_2).trans (congrArg (x_g0 111 2 (-1) 400) (xe_ireturn)))))
abbrev po_X11_fault_e (T : Zt) : Zt → Option Zv → Prop := fun T' r => T = T' ∧ ∃ x : Int, r = some (vI x) ∧ (x = T 111 0 2)
set_option maxHeartbeats 4000000 in
theorem ct_X11_fault_e {T : Zt} : Ct_ yX11_fault zX11_fault T [vR 111 0] (po_X11_fault_e T) := by
  refine ct_of pn_11 rfl rfl (Nat.le_of_ble_eq_true rfl) (fun hT hav => ?_)
  have hz : zX11_fault.2.2.2.1 = some .boolean → ∀ (T' : Zt) (x : Int), po_X11_fault_e T T' (some (vI x)) → 0 ≤ x ∧ x ≤ 1 := fun h => by cases h
  show J_ zX11_fault T (po_X11_fault_e T) 0 0 0 [some (vR 111 0)] [] T
  refine j_blx (F := fX11) tb_X11 (nn_ _) bk_X11_fault_e_0 bs_X11_fault_e_0 hz (fun K hK => ?_)
  intro b1 b1b
  refine (show po_X11_fault_e T T (some (vI (T 111 0 2))) from ?_)
  exact ⟨rfl, _, rfl, by omega⟩
theorem bk_X10_rule_e_0 : ck_ fX10 (some .int) cX10_rule 0 [.aload 0, .iload 1] 2 = true := qck_r (nn_ _) (by decide +kernel)
theorem bs_X10_rule_e_0 {P : Zt → Option Zv → Prop} (K : Int → Zl → List Zv → Zt → Prop) : sx_ K P [.aload 0, .iload 1] 2 = x_aload 0 (x_iload 1 (K 2)) := ((xe_aload 0).trans (congrArg (x_aload 0) ((xe_iload 1).trans (congrArg (x_iload 1) xe_nil))))
theorem bk_X10_rule_e_5 : ck_ fX10 (some .int) cX10_rule 5 [.ifCond .ne 11, .iconst (-2), .ireturn] 11 = true := qck_r (nn_ _) (by decide +kernel)
theorem bs_X10_rule_e_5 {P : Zt → Option Zv → Prop} (K : Int → Zl → List Zv → Zt → Prop) : sx_ K P [.ifCond .ne 11, .iconst (-2), .ireturn] 11 = x_ifCond .ne 11 K (x_iconst (-2) (x_ireturn P)) := ((xe_ifCond .ne 11).trans (congrArg (x_ifCond .ne 11 K) ((xe_iconst (-2)).trans (congrArg (x_iconst (-2)) (xe_ireturn)))))
theorem bk_X10_rule_e_11 : ck_ fX10 (some .int) cX10_rule 11 [.iload 2, .ifCond .lt 21, .iload 2, .iconst 23, .if_icmp .lt 24, .iconst (-3), .ireturn] 24 = true := qck_r (nn_ _) (by decide +kernel)
theorem bs_X10_rule_e_11 {P : Zt → Option Zv → Prop} (K : Int → Zl → List Zv → Zt → Prop) : sx_ K P [.iload 2, .ifCond .lt 21, .iload 2, .iconst 23, .if_icmp .lt 24, .iconst (-3), .ireturn] 24 = x_iload 2 (x_ifCond .lt 21 K (x_iload 2 (x_iconst 23 (x_if_icmp .lt 24 K (x_iconst (-3) (x_ireturn P)))))) := ((xe_iload 2).trans (congrArg (x_iload 2) ((xe_ifCond .lt 21).trans (congrArg (x_ifCond .lt 21 K) ((xe_iload 2).trans (congrArg (x_iload 2) ((xe_iconst 23).trans (congrArg (x_iconst 23) ((xe_if_icmp .lt 24).trans (congrArg (x_if_icmp .lt 24 K) ((xe_iconst (-3)).trans (congrArg (x_iconst (-3)) (xe_ireturn)))))))))))))
theorem bk_X10_rule_e_21 : ck_ fX10 (some .int) cX10_rule 21 [.iconst (-3), .ireturn] 24 = true := qck_r (nn_ _) (by decide +kernel)
theorem bs_X10_rule_e_21 {P : Zt → Option Zv → Prop} (K : Int → Zl → List Zv → Zt → Prop) : sx_ K P [.iconst (-3), .ireturn] 24 = x_iconst (-3) (x_ireturn P) := ((xe_iconst (-3)).trans (congrArg (x_iconst (-3)) (xe_ireturn)))
theorem bk_X10_rule_e_24 : ck_ fX10 (some .int) cX10_rule 24 [.aload 0, .tableswitch 0 10 2 #[], .tableswitch 0 6 1 #[], .iload 1, .aaload, .astore 3, .iload 2, .iconst 16, .if_icmp .ge 47, .aload 3, .tableswitch 0 0 1 #[], .iload 2, .iaload, .ireturn] 47 = true := qck_r (nn_ _) (by decide +kernel)
theorem bs_X10_rule_e_24 {P : Zt → Option Zv → Prop} (K : Int → Zl → List Zv → Zt → Prop) : sx_ K P [.aload 0, .tableswitch 0 10 2 #[], .tableswitch 0 6 1 #[], .iload 1, .aaload, .astore 3, .iload 2, .iconst 16, .if_icmp .ge 47, .aload 3, .tableswitch 0 0 1 #[], .iload 2, .iaload, .ireturn] 47 = x_aload 0 (x_g1 110 106 (x_g1 106 521 (x_iload 1 (x_aaload (x_astore 3 (x_iload 2 (x_iconst 16 (x_if_icmp .ge 47 K (x_aload 3 (x_g2 100 401 (x_iload 2 (x_iaload (x_ireturn P))))))))))))) := ((xe_aload 0).trans (congrArg (x_aload 0) ((xe_g1 (kk := 110) rfl tl_10_2).trans (congrArg (x_g1 110 106) ((xe_g1 (kk := 106) rfl tl_6_1).trans (congrArg (x_g1 106 521) ((xe_iload 1).trans (congrArg (x_iload 1) ((xe_aaload).trans (congrArg (x_aaload) ((xe_astore 3).trans (congrArg (x_astore 3) ((xe_iload 2).trans (congrArg (x_iload 2) ((xe_iconst 16).trans (congrArg (x_iconst 16) ((xe_if_icmp .ge 47).trans (congrArg (x_if_icmp .ge 47 K) ((xe_aload 3).trans (congrArg (x_aload 3) ((xe_g2 (kk := 100) rfl tl_0_1).trans (congrArg (x_g2 100 401) ((xe_iload 2).trans (congrArg (x_iload 2) ((xe_iaload).trans (congrArg (x_iaload) (xe_ireturn)))))))))))))))))))))))))))
theorem bk_X10_rule_e_47 : ck_ fX10 (some .int) cX10_rule 47 [.iload 2, .iconst 16, .isub, .istore 4, .iload 4, .aload 3, .tableswitch 0 0 1 #[], .iconst 4, .iaload, .if_icmp .ge 74, .aload 3, .tableswitch 0 0 2 #[], .iload 4, .iaload, .goto 75] 74 = true := qck_r (nn_ _) (by decide +kernel)
theorem bs_X10_rule_e_47 {P : Zt → Option Zv → Prop} (K : Int → Zl → List Zv → Zt → Prop) : sx_ K P [.iload 2, .iconst 16, .isub, .istore 4, .iload 4, .aload 3, .tableswitch 0 0 1 #[], .iconst 4, .iaload, .if_icmp .ge 74, .aload 3, .tableswitch 0 0 2 #[], .iload 4, .iaload, .goto 75] 74 = x_iload 2 (x_iconst 16 (x_isub (x_istore 4 (x_iload 4 (x_aload 3 (x_g2 100 401 (x_iconst 4 (x_iaload (x_if_icmp .ge 74 K (x_aload 3 (x_g2 100 402 (x_iload 4 (x_iaload (x_goto 75 K)))))))))))))) := ((xe_iload 2).trans (congrArg (x_iload 2) ((xe_iconst 16).trans (congrArg (x_iconst 16) ((xe_isub).trans (congrArg (x_isub) ((xe_istore 4).trans (congrArg (x_istore 4) ((xe_iload 4).trans (congrArg (x_iload 4) ((xe_aload 3).trans (congrArg (x_aload 3) ((xe_g2 (kk := 100) rfl tl_0_1).trans (congrArg (x_g2 100 401) ((xe_iconst 4).trans (congrArg (x_iconst 4) ((xe_iaload).trans (congrArg (x_iaload) ((xe_if_icmp .ge 74).trans (congrArg (x_if_icmp .ge 74 K) ((xe_aload 3).trans (congrArg (x_aload 3) ((xe_g2 (kk := 100) rfl tl_0_2).trans (congrArg (x_g2 100 402) ((xe_iload 4).trans (congrArg (x_iload 4) ((xe_iaload).trans (congrArg (x_iaload) (xe_goto 75)))))))))))))))))))))))))))))
theorem bk_X10_rule_e_74 : ck_ fX10 (some .int) cX10_rule 74 [.iconst (-1), .ireturn] 76 = true := qck_r (nn_ _) (by decide +kernel)
theorem bs_X10_rule_e_74 {P : Zt → Option Zv → Prop} (K : Int → Zl → List Zv → Zt → Prop) : sx_ K P [.iconst (-1), .ireturn] 76 = x_iconst (-1) (x_ireturn P) := ((xe_iconst (-1)).trans (congrArg (x_iconst (-1)) (xe_ireturn)))
theorem bk_X10_rule_e_75 : ck_ fX10 (some .int) cX10_rule 75 [.ireturn] 76 = true := qck_r (nn_ _) (by decide +kernel)
theorem bs_X10_rule_e_75 {P : Zt → Option Zv → Prop} (K : Int → Zl → List Zv → Zt → Prop) : sx_ K P [.ireturn] 76 = x_ireturn P := (xe_ireturn)
abbrev po_X10_rule_e (T : Zt) (c w : Int) : Zt → Option Zv → Prop := fun T' r => T = T' ∧ ∃ x : Int, r = some (vI x) ∧ ((x = -2 ∧ ¬ (0 ≤ c ∧ c < T 106 0 2)) ∨ ((0 ≤ c ∧ c < T 106 0 2) ∧ x = -3 ∧ ¬ (0 ≤ w ∧ w < 23)) ∨ ((0 ≤ c ∧ c < T 106 0 2) ∧ (0 ≤ w ∧ w < 16) ∧ x = T 401 c w) ∨ ((0 ≤ c ∧ c < T 106 0 2) ∧ (16 ≤ w ∧ w < 23) ∧ w - 16 < T 401 c 4 ∧ x = T 402 c (w - 16)) ∨ ((0 ≤ c ∧ c < T 106 0 2) ∧ (16 ≤ w ∧ w < 23) ∧ ¬ w - 16 < T 401 c 4 ∧ x = -1))
set_option maxHeartbeats 4000000 in
theorem ct_X10_rule_e {T : Zt} {c w : Int} (hka : KA_ T) : Ct_ yX10_rule zX10_rule T [vR 110 0, vI c, vI w] (po_X10_rule_e T c w) := by
  refine ct_of pn_10 rfl rfl (Nat.le_of_ble_eq_true rfl) (fun hT hav => ?_)
  have hr_c : -2147483648 ≤ c ∧ c ≤ 2147483647 := hav (vI c) (List.mem_cons_of_mem _ List.mem_cons_self)
  have hr_w : -2147483648 ≤ w ∧ w ≤ 2147483647 := hav (vI w) (List.mem_cons_of_mem _ (List.mem_cons_of_mem _ List.mem_cons_self))
  have hz : zX10_rule.2.2.2.1 = some .boolean → ∀ (T' : Zt) (x : Int), po_X10_rule_e T c w T' (some (vI x)) → 0 ≤ x ∧ x ≤ 1 := fun h => by cases h
  have hb_competitionCount : 0 ≤ T 106 0 2 ∧ T 106 0 2 ≤ 4 := bd_f hT 106 2 tl_6_2 0
  show J_ zX10_rule T (po_X10_rule_e T c w) 0 0 0 [some (vR 110 0), some (vI c), some (vI w), none, none] [] T
  refine j_blx (F := fX10) tb_X10 (nn_ _) bk_X10_rule_e_0 bs_X10_rule_e_0 hz (fun K hK => ?_)
  refine hK 2 _ [vI c, vR 110 0] T ?_
  refine j_callV (y := yX10_isCompetition) (Yc := zX10_isCompetition) (rest := []) [vI c] (ct_X10_isCompetition (T := T)) cl_X10_107 (qd_c (by decide +kernel)) (nn_ _) rfl (rf_of rfl) (Nat.le_of_ble_eq_true rfl) (Nat.le_of_ble_eq_true rfl) (Nat.le_of_ble_eq_true rfl) rfl ?_
  rintro _ _ ⟨rfl, x1, rfl, hx1⟩
  show J_ zX10_rule T (po_X10_rule_e T c w) 0 0 5 _ [vI x1] T
  refine j_blx (F := fX10) tb_X10 (nn_ _) bk_X10_rule_e_5 bs_X10_rule_e_5 hz (fun K hK => ?_)
  refine And.intro (fun c2 => ?_) (fun c2 => ?_)
  · replace hx1 := hx1.resolve_right (fun z => c2 z.1)
    clear c2
    refine hK 11 _ [] T ?_
    refine j_blx (F := fX10) tb_X10 (nn_ _) bk_X10_rule_e_11 bs_X10_rule_e_11 hz (fun K hK => ?_)
    refine And.intro (fun c3 => ?_) (fun c3 => ?_)
    · refine hK 21 _ [] T ?_
      refine j_blx (F := fX10) tb_X10 (nn_ _) bk_X10_rule_e_21 bs_X10_rule_e_21 hz (fun K hK => ?_)
      refine (show po_X10_rule_e T c w T (some (vI (-3))) from ?_)
      exact ⟨rfl, _, rfl, by omega⟩
    · refine And.intro (fun c4 => ?_) (fun c4 => ?_)
      · refine hK 24 _ [] T ?_
        refine j_blx (F := fX10) tb_X10 (nn_ _) bk_X10_rule_e_24 bs_X10_rule_e_24 hz (fun K hK => ?_)
        refine ix_i (by omega) ?_
        refine And.intro (fun c5 => ?_) (fun c5 => ?_)
        · exact absurd c5 (hka.1 c (by omega) (by omega))
        · refine And.intro (fun c6 => ?_) (fun c6 => ?_)
          · refine hK 47 [some (vR 110 0), some (vI c), some (vI w), some (vR 100 c), none] [] T ?_
            refine j_blx (F := fX10) tb_X10 (nn_ _) bk_X10_rule_e_47 bs_X10_rule_e_47 hz (fun K hK => ?_)
            refine rg_i (by omega) ?_
            refine ix_i (by omega) ?_
            intro b7 b7b
            refine And.intro (fun c8 => ?_) (fun c8 => ?_)
            · refine hK 74 [some (vR 110 0), some (vI c), some (vI w), some (vR 100 c), some (vI (w - 16))] [] T ?_
              refine j_blx (F := fX10) tb_X10 (nn_ _) bk_X10_rule_e_74 bs_X10_rule_e_74 hz (fun K hK => ?_)
              refine (show po_X10_rule_e T c w T (some (vI (-1))) from ?_)
              exact ⟨rfl, _, rfl, by omega⟩
            · refine ix_i (by omega) ?_
              intro b9 b9b
              refine hK 75 _ [vI (T 402 c (w - 16))] T ?_
              refine j_blx (F := fX10) tb_X10 (nn_ _) bk_X10_rule_e_75 bs_X10_rule_e_75 hz (fun K hK => ?_)
              refine (show po_X10_rule_e T c w T (some (vI (T 402 c (w - 16)))) from ?_)
              exact ⟨rfl, _, rfl, by omega⟩
          · refine ix_i (by omega) ?_
            intro b10 b10b
            refine (show po_X10_rule_e T c w T (some (vI (T 401 c w))) from ?_)
            exact ⟨rfl, _, rfl, by omega⟩
      · refine (show po_X10_rule_e T c w T (some (vI (-3))) from ?_)
        exact ⟨rfl, _, rfl, by omega⟩
  · replace hx1 := hx1.resolve_left (fun z => absurd (c2.symm.trans z.1) (by decide))
    clear c2
    refine (show po_X10_rule_e T c w T (some (vI (-2))) from ?_)
    exact ⟨rfl, _, rfl, by omega⟩
theorem bk_X11_rule_e_0 : ck_ fX11 (some .int) cX11_rule 0 [.iload 1, .aload 0, .tableswitch 0 11 6 #[]] 5 = true := qck_r (nn_ _) (by decide +kernel)
theorem bs_X11_rule_e_0 {P : Zt → Option Zv → Prop} (K : Int → Zl → List Zv → Zt → Prop) : sx_ K P [.iload 1, .aload 0, .tableswitch 0 11 6 #[]] 5 = x_iload 1 (x_aload 0 (x_g0 111 6 0 4 (K 5))) := ((xe_iload 1).trans (congrArg (x_iload 1) ((xe_aload 0).trans (congrArg (x_aload 0) ((xe_g0 (kk := 111) rfl tl_11_6).trans (congrArg (x_g0 111 6 0 4) xe_nil))))))
theorem bk_X11_rule_e_8 : ck_ fX11 (some .int) cX11_rule 8 [.ifCond .ne 14, .iconst (-2), .ireturn] 14 = true := qck_r (nn_ _) (by decide +kernel)
theorem bs_X11_rule_e_8 {P : Zt → Option Zv → Prop} (K : Int → Zl → List Zv → Zt → Prop) : sx_ K P [.ifCond .ne 14, .iconst (-2), .ireturn] 14 = x_ifCond .ne 14 K (x_iconst (-2) (x_ireturn P)) := ((xe_ifCond .ne 14).trans (congrArg (x_ifCond .ne 14 K) ((xe_iconst (-2)).trans (congrArg (x_iconst (-2)) (xe_ireturn)))))
theorem bk_X11_rule_e_14 : ck_ fX11 (some .int) cX11_rule 14 [.iload 2, .iconst 0, .iconst 22] 18 = true := qck_r (nn_ _) (by decide +kernel)
theorem bs_X11_rule_e_14 {P : Zt → Option Zv → Prop} (K : Int → Zl → List Zv → Zt → Prop) : sx_ K P [.iload 2, .iconst 0, .iconst 22] 18 = x_iload 2 (x_iconst 0 (x_iconst 22 (K 18))) := ((xe_iload 2).trans (congrArg (x_iload 2) ((xe_iconst 0).trans (congrArg (x_iconst 0) ((xe_iconst 22).trans (congrArg (x_iconst 22) xe_nil))))))
theorem bk_X11_rule_e_21 : ck_ fX11 (some .int) cX11_rule 21 [.ifCond .eq 33, .aload 0, .iload 1, .iload 2] 27 = true := qck_r (nn_ _) (by decide +kernel)
theorem bs_X11_rule_e_21 {P : Zt → Option Zv → Prop} (K : Int → Zl → List Zv → Zt → Prop) : sx_ K P [.ifCond .eq 33, .aload 0, .iload 1, .iload 2] 27 = x_ifCond .eq 33 K (x_aload 0 (x_iload 1 (x_iload 2 (K 27)))) := ((xe_ifCond .eq 33).trans (congrArg (x_ifCond .eq 33 K) ((xe_aload 0).trans (congrArg (x_aload 0) ((xe_iload 1).trans (congrArg (x_iload 1) ((xe_iload 2).trans (congrArg (x_iload 2) xe_nil))))))))
theorem bk_X11_rule_e_33 : ck_ fX11 (some .int) cX11_rule 33 [.iconst (-3), .ireturn] 36 = true := qck_r (nn_ _) (by decide +kernel)
theorem bs_X11_rule_e_33 {P : Zt → Option Zv → Prop} (K : Int → Zl → List Zv → Zt → Prop) : sx_ K P [.iconst (-3), .ireturn] 36 = x_iconst (-3) (x_ireturn P) := ((xe_iconst (-3)).trans (congrArg (x_iconst (-3)) (xe_ireturn)))
theorem bk_X11_rule_e_30 : ck_ fX11 (some .int) cX11_rule 30 [.goto 35] 33 = true := qck_r (nn_ _) (by decide +kernel)
theorem bs_X11_rule_e_30 {P : Zt → Option Zv → Prop} (K : Int → Zl → List Zv → Zt → Prop) : sx_ K P [.goto 35] 33 = x_goto 35 K := (xe_goto 35)
theorem bk_X11_rule_e_35 : ck_ fX11 (some .int) cX11_rule 35 [.ireturn] 36 = true := qck_r (nn_ _) (by decide +kernel)
theorem bs_X11_rule_e_35 {P : Zt → Option Zv → Prop} (K : Int → Zl → List Zv → Zt → Prop) : sx_ K P [.ireturn] 36 = x_ireturn P := (xe_ireturn)
abbrev po_X11_rule_e (T : Zt) (c w : Int) : Zt → Option Zv → Prop := fun T' r => T = T' ∧ ∃ x : Int, r = some (vI x) ∧ ((x = -2 ∧ ¬ (0 ≤ c ∧ c < T 111 0 6)) ∨ ((0 ≤ c ∧ c < T 111 0 6) ∧ x = -3 ∧ ¬ (0 ≤ w ∧ w < 23)) ∨ ((0 ≤ c ∧ c < T 111 0 6) ∧ (0 ≤ w ∧ w < 23) ∧ x = T 205 0 (23 * c + w)))
set_option maxHeartbeats 4000000 in
theorem ct_X11_rule_e {T : Zt} {c w : Int} : Ct_ yX11_rule zX11_rule T [vR 111 0, vI c, vI w] (po_X11_rule_e T c w) := by
  refine ct_of pn_11 rfl rfl (Nat.le_of_ble_eq_true rfl) (fun hT hav => ?_)
  have hr_c : -2147483648 ≤ c ∧ c ≤ 2147483647 := hav (vI c) (List.mem_cons_of_mem _ List.mem_cons_self)
  have hr_w : -2147483648 ≤ w ∧ w ≤ 2147483647 := hav (vI w) (List.mem_cons_of_mem _ (List.mem_cons_of_mem _ List.mem_cons_self))
  have hz : zX11_rule.2.2.2.1 = some .boolean → ∀ (T' : Zt) (x : Int), po_X11_rule_e T c w T' (some (vI x)) → 0 ≤ x ∧ x ≤ 1 := fun h => by cases h
  have hb_6 : 0 ≤ T 111 0 6 ∧ T 111 0 6 ≤ 4 := bd_f hT 111 6 tl_11_6 0
  show J_ zX11_rule T (po_X11_rule_e T c w) 0 0 0 [some (vR 111 0), some (vI c), some (vI w)] [] T
  refine j_blx (F := fX11) tb_X11 (nn_ _) bk_X11_rule_e_0 bs_X11_rule_e_0 hz (fun K hK => ?_)
  intro b1 b1b
  refine hK 5 _ [vI (T 111 0 6), vI c] T ?_
  refine j_callS (y := yX11_isOf) (Yc := zX11_isOf) (rest := []) [vI c, vI (T 111 0 6)] (ct_X11_isOf (T := T) (by omega)) cl_X11_317 (qd_c (by decide +kernel)) (nn_ _) rfl (rf_of rfl) (Nat.le_of_ble_eq_true rfl) (Nat.le_of_ble_eq_true rfl) (Nat.le_of_ble_eq_true rfl) rfl ?_
  rintro _ _ ⟨rfl, x2, rfl, hx2⟩
  show J_ zX11_rule T (po_X11_rule_e T c w) 0 0 8 _ [vI x2] T
  refine j_blx (F := fX11) tb_X11 (nn_ _) bk_X11_rule_e_8 bs_X11_rule_e_8 hz (fun K hK => ?_)
  refine And.intro (fun c3 => ?_) (fun c3 => ?_)
  · replace hx2 := hx2.resolve_right (fun z => c3 z.1)
    clear c3
    refine hK 14 _ [] T ?_
    refine j_blx (F := fX11) tb_X11 (nn_ _) bk_X11_rule_e_14 bs_X11_rule_e_14 hz (fun K hK => ?_)
    refine hK 18 _ [vI 22, vI 0, vI w] T ?_
    refine j_callS (y := yX11_in) (Yc := zX11_in) (rest := []) [vI w, vI 0, vI 22] (ct_X11_in (T := T)) cl_X11_255 (qd_c (by decide +kernel)) (nn_ _) rfl (rf_of rfl) (Nat.le_of_ble_eq_true rfl) (Nat.le_of_ble_eq_true rfl) (Nat.le_of_ble_eq_true rfl) rfl ?_
    rintro _ _ ⟨rfl, x4, rfl, hx4⟩
    show J_ zX11_rule T (po_X11_rule_e T c w) 0 0 21 _ [vI x4] T
    refine j_blx (F := fX11) tb_X11 (nn_ _) bk_X11_rule_e_21 bs_X11_rule_e_21 hz (fun K hK => ?_)
    refine And.intro (fun c5 => ?_) (fun c5 => ?_)
    · replace hx4 := hx4.resolve_left (fun z => absurd (c5.symm.trans z.1) (by decide))
      clear c5
      refine hK 33 _ [] T ?_
      refine j_blx (F := fX11) tb_X11 (nn_ _) bk_X11_rule_e_33 bs_X11_rule_e_33 hz (fun K hK => ?_)
      refine (show po_X11_rule_e T c w T (some (vI (-3))) from ?_)
      exact ⟨rfl, _, rfl, by omega⟩
    · replace hx4 := hx4.resolve_right (fun z => c5 z.1)
      clear c5
      refine hK 27 _ [vI w, vI c, vR 111 0] T ?_
      refine j_callV (y := yX11_rule0) (Yc := zX11_rule0) (rest := []) [vI c, vI w] (ct_X11_rule0 (T := T) (by omega) (by omega)) cl_X11_321 (qd_c (by decide +kernel)) (nn_ _) rfl (rf_of rfl) (Nat.le_of_ble_eq_true rfl) (Nat.le_of_ble_eq_true rfl) (Nat.le_of_ble_eq_true rfl) rfl ?_
      rintro _ _ ⟨rfl, rfl⟩
      show J_ zX11_rule T (po_X11_rule_e T c w) 0 0 30 _ [vI (T 205 0 (23 * c + w))] T
      refine j_blx (F := fX11) tb_X11 (nn_ _) bk_X11_rule_e_30 bs_X11_rule_e_30 hz (fun K hK => ?_)
      refine hK 35 _ [vI (T 205 0 (23 * c + w))] T ?_
      refine j_blx (F := fX11) tb_X11 (nn_ _) bk_X11_rule_e_35 bs_X11_rule_e_35 hz (fun K hK => ?_)
      refine (show po_X11_rule_e T c w T (some (vI (T 205 0 (23 * c + w)))) from ?_)
      exact ⟨rfl, _, rfl, by omega⟩
  · replace hx2 := hx2.resolve_left (fun z => absurd (c3.symm.trans z.1) (by decide))
    clear c3
    refine (show po_X11_rule_e T c w T (some (vI (-2))) from ?_)
    exact ⟨rfl, _, rfl, by omega⟩
-- texts, competitions, rules: alike on both sides
def TXR_ (T : Zt) : Prop := T 105 0 1 = T 111 0 1 ∧ T 105 0 3 = T 111 0 2 ∧ T 106 0 2 = T 111 0 6 ∧ (∀ j, 0 ≤ j → j < 400 → T 500 0 j = T 200 0 j) ∧ ∀ c, 0 ≤ c → c < T 106 0 2 → (∀ w, 0 ≤ w → w < 16 → T 401 c w = T 205 0 (23 * c + w)) ∧ ∀ k, 0 ≤ k → k < 7 → (k < T 401 c 4 → T 402 c k = T 205 0 (23 * c + (16 + k))) ∧ (¬ k < T 401 c 4 → T 205 0 (23 * c + (16 + k)) = -1)
/-- the house's side of it stays -/
def kth_ (T T' : Zt) : Prop := T' 105 0 1 = T 105 0 1 ∧ T' 105 0 3 = T 105 0 3 ∧ T' 106 0 2 = T 106 0 2 ∧ (∀ j, T' 500 0 j = T 500 0 j) ∧ (∀ c j, T' 401 c j = T 401 c j) ∧ ∀ c j, T' 402 c j = T 402 c j
/-- the reference's side of it stays -/
def ktr_ (T T' : Zt) : Prop := T' 111 0 1 = T 111 0 1 ∧ T' 111 0 2 = T 111 0 2 ∧ T' 111 0 6 = T 111 0 6 ∧ (∀ j, T' 200 0 j = T 200 0 j) ∧ ∀ j, T' 205 0 j = T 205 0 j
theorem txr_k {T T' : Zt} (h : TXR_ T) (k : kth_ T T') (r : ktr_ T T') : TXR_ T' := by
  obtain ⟨h1, h2, h3, h4, h5⟩ := h
  obtain ⟨k1, k2, k3, k4, k5, k6⟩ := k
  obtain ⟨r1, r2, r3, r4, r5⟩ := r
  refine ⟨by omega, by omega, by omega, fun j a b => by rw [k4, r4]; exact h4 j a b, fun c a b => ⟨fun w d e => by rw [k5, r5]; exact (h5 c a (by omega)).1 w d e, fun q d e => ?_⟩⟩
  rw [k5, k6, r5]
  exact (h5 c a (by omega)).2 q d e
/-- a sign on both sides -/
theorem txr_s {T T1 T2 : Zt} {c x1 x2 : Int} (h : TXR_ T) (hl : 0 ≤ T 105 0 1) (ho : T1 105 0 3 = T 105 0 3 ∧ T1 106 0 2 = T 106 0 2 ∧ (∀ c j, T1 401 c j = T 401 c j) ∧ ∀ c j, T1 402 c j = T 402 c j) (d1 : (x1 = -3 ∧ T1 105 0 1 = T 105 0 1 ∧ ¬ (c = 10 ∨ 32 ≤ c ∧ c ≤ 126) ∧ RS9_ 500 T T1) ∨ ((c = 10 ∨ 32 ≤ c ∧ c ≤ 126) ∧ T 105 0 1 = 400 ∧ x1 = -5 ∧ T1 105 0 1 = 400 ∧ RS9_ 500 T T1) ∨ ((c = 10 ∨ 32 ≤ c ∧ c ≤ 126) ∧ T 105 0 1 < 400 ∧ x1 = T 105 0 1 + 1 ∧ T1 105 0 1 = x1 ∧ SG9_ 500 T T1 (T 105 0 1) c)) (r : ktr_ T T1)
  (hp : T2 111 0 2 = T1 111 0 2 ∧ T2 111 0 6 = T1 111 0 6 ∧ ∀ j, T2 205 0 j = T1 205 0 j) (d2 : (x2 = -3 ∧ T2 111 0 1 = T1 111 0 1 ∧ ¬ (c = 10 ∨ 32 ≤ c ∧ c ≤ 126) ∧ RS9_ 200 T1 T2) ∨ ((c = 10 ∨ 32 ≤ c ∧ c ≤ 126) ∧ T1 111 0 1 = 400 ∧ x2 = -5 ∧ T2 111 0 1 = 400 ∧ RS9_ 200 T1 T2) ∨ ((c = 10 ∨ 32 ≤ c ∧ c ≤ 126) ∧ T1 111 0 1 < 400 ∧ x2 = T1 111 0 1 + 1 ∧ T2 111 0 1 = x2 ∧ SG9_ 200 T1 T2 (T1 111 0 1) c)) (k : kth_ T1 T2) : x1 = x2 ∧ TXR_ T2 := by
  obtain ⟨h1, h2, h3, h4, h5⟩ := h
  obtain ⟨o1, o2, o3, o4⟩ := ho
  obtain ⟨r1, r2, r3, r4, r5⟩ := r
  obtain ⟨p1, p2, p3⟩ := hp
  obtain ⟨k1, k2, k3, k4, k5, k6⟩ := k
  have hr : ∀ c, 0 ≤ c → c < T2 106 0 2 → (∀ w, 0 ≤ w → w < 16 → T2 401 c w = T2 205 0 (23 * c + w)) ∧ ∀ k, 0 ≤ k → k < 7 → (k < T2 401 c 4 → T2 402 c k = T2 205 0 (23 * c + (16 + k))) ∧ (¬ k < T2 401 c 4 → T2 205 0 (23 * c + (16 + k)) = -1) := fun c a b => by
    refine ⟨fun w d e => by rw [k5, o3, p3, r5]; exact (h5 c a (by omega)).1 w d e, fun q d e => ?_⟩
    rw [k5, o3, k6, o4, p3, r5]
    exact (h5 c a (by omega)).2 q d e
  have hs : RS9_ 500 T T1 → RS9_ 200 T1 T2 → ∀ j, 0 ≤ j → j < 400 → T2 500 0 j = T2 200 0 j := fun a b j c d => by
    rw [k4, a j, b j, r4]
    exact h4 j c d
  rcases d1 with ⟨a1, a2, a3, a4⟩ | ⟨a0, a1, a2, a3, a4⟩ | ⟨a0, a1, a2, a3, a4⟩
  · rcases d2 with ⟨b1, b2, b3, b4⟩ | ⟨b0, b1, b2, b3, b4⟩ | ⟨b0, b1, b2, b3, b4⟩
    · exact ⟨by omega, by omega, by omega, by omega, hs a4 b4, hr⟩
    · exact absurd b0 a3
    · exact absurd b0 a3
  · rcases d2 with ⟨b1, b2, b3, b4⟩ | ⟨b0, b1, b2, b3, b4⟩ | ⟨b0, b1, b2, b3, b4⟩
    · exact absurd a0 b3
    · exact ⟨by omega, by omega, by omega, by omega, hs a4 b4, hr⟩
    · omega
  · rcases d2 with ⟨b1, b2, b3, b4⟩ | ⟨b0, b1, b2, b3, b4⟩ | ⟨b0, b1, b2, b3, b4⟩
    · exact absurd a0 b3
    · omega
    · refine ⟨by omega, by omega, by omega, by omega, fun j c d => ?_, hr⟩
      have e1 : T1 111 0 1 = T 105 0 1 := by omega
      rw [e1] at b4
      rw [k4]
      by_cases z : j = T 105 0 1
      · rw [z, a4.1, b4.1]
      · rw [a4.2 j z, b4.2 j z, r4]
        exact h4 j c d
/-- a wiped text on both sides -/
theorem txr_w {T T1 T2 : Zt} {x1 x2 : Int} (h : TXR_ T) (ho : T1 105 0 3 = T 105 0 3 ∧ T1 106 0 2 = T 106 0 2 ∧ (∀ j, T1 500 0 j = T 500 0 j) ∧ (∀ c j, T1 401 c j = T 401 c j) ∧ ∀ c j, T1 402 c j = T 402 c j) (d1 : T1 105 0 1 = 0 ∧ x1 = T 105 0 1) (r : ktr_ T T1) (hp : T2 111 0 2 = T1 111 0 2 ∧ T2 111 0 6 = T1 111 0 6 ∧ (∀ j, T2 200 0 j = T1 200 0 j) ∧ ∀ j, T2 205 0 j = T1 205 0 j) (d2 : T2 111 0 1 = 0 ∧ x2 = T1 111 0 1) (k : kth_ T1 T2) : x1 = x2 ∧ TXR_ T2 := by
  obtain ⟨h1, h2, h3, h4, h5⟩ := h
  obtain ⟨o1, o2, o5, o3, o4⟩ := ho
  obtain ⟨r1, r2, r3, r4, r5⟩ := r
  obtain ⟨p1, p2, p4, p3⟩ := hp
  obtain ⟨k1, k2, k3, k4, k5, k6⟩ := k
  refine ⟨by omega, by omega, by omega, by omega, fun j a b => by rw [k4, o5, p4, r4]; exact h4 j a b, fun c a b => ⟨fun w d e => by rw [k5, o3, p3, r5]; exact (h5 c a (by omega)).1 w d e, fun q d e => ?_⟩⟩
  rw [k5, o3, k6, o4, p3, r5]
  exact (h5 c a (by omega)).2 q d e
/-- a rule is told alike -/
theorem txr_r {T : Zt} {c w x1 x2 : Int} (h : TXR_ T) (d1 : (x1 = -2 ∧ ¬ (0 ≤ c ∧ c < T 106 0 2)) ∨ ((0 ≤ c ∧ c < T 106 0 2) ∧ x1 = -3 ∧ ¬ (0 ≤ w ∧ w < 23)) ∨ ((0 ≤ c ∧ c < T 106 0 2) ∧ (0 ≤ w ∧ w < 16) ∧ x1 = T 401 c w) ∨ ((0 ≤ c ∧ c < T 106 0 2) ∧ (16 ≤ w ∧ w < 23) ∧ w - 16 < T 401 c 4 ∧ x1 = T 402 c (w - 16)) ∨ ((0 ≤ c ∧ c < T 106 0 2) ∧ (16 ≤ w ∧ w < 23) ∧ ¬ w - 16 < T 401 c 4 ∧ x1 = -1)) (d2 : (x2 = -2 ∧ ¬ (0 ≤ c ∧ c < T 111 0 6)) ∨ ((0 ≤ c ∧ c < T 111 0 6) ∧ x2 = -3 ∧ ¬ (0 ≤ w ∧ w < 23)) ∨ ((0 ≤ c ∧ c < T 111 0 6) ∧ (0 ≤ w ∧ w < 23) ∧ x2 = T 205 0 (23 * c + w))) : x1 = x2 := by
  obtain ⟨h1, h2, h3, h4, h5⟩ := h
  by_cases hc : 0 ≤ c ∧ c < T 106 0 2
  · obtain ⟨g1, g2⟩ := h5 c hc.1 hc.2
    by_cases hw : 0 ≤ w ∧ w < 16
    · have g := g1 w hw.1 hw.2
      omega
    · by_cases hv : 16 ≤ w ∧ w < 23
      · have g := g2 (w - 16) (by omega) (by omega)
        rw [show 16 + (w - 16) = w by omega] at g
        omega
      · omega
  · omega
/-- a competition on both sides -/
theorem txr_c {T T1 T2 : Zt} {x1 x2 : Int} (h : TXR_ T) (hl : T 105 0 1 ≤ 400) (hn : 0 ≤ T 106 0 2) (ho : (∀ j, T1 500 0 j = T 500 0 j) ∧ (∀ i j, i ≠ T 106 0 2 → T1 401 i j = T 401 i j) ∧ (T1 106 0 2 = T 106 0 2 → ∀ i j, T1 402 i j = T 402 i j)) (d1 : CH9_ T T1 x1) (r : ktr_ T T1) (hp : (∀ j, T2 200 0 j = T1 200 0 j) ∧ ∀ j, j < 23 * T1 111 0 6 → T2 205 0 j = T1 205 0 j) (d2 : CR9_ T1 T2 x2) (k : kth_ T1 T2) : x1 = x2 ∧ TXR_ T2 := by
  obtain ⟨h1, h2, h3, h4, h5⟩ := h
  obtain ⟨o1, o2, o3⟩ := ho
  obtain ⟨r1, r2, r3, r4, r5⟩ := r
  obtain ⟨p1, p2⟩ := hp
  obtain ⟨k1, k2, k3, k4, k5, k6⟩ := k
  have et : ∀ j, 0 ≤ j → j < 400 → T2 500 0 j = T2 200 0 j := fun j a b => by
    rw [k4, o1, p1, r4]
    exact h4 j a b
  have er : rdf9_ 402 (cl9_ (T1 111 0 1) (fun j => T1 200 0 j)) (T1 111 0 1) 0 (fun _ => 0) dv9_ = rdf9_ 402 (cl9_ (T 105 0 1) (fun j => T 500 0 j)) (T 105 0 1) 0 (fun _ => 0) dv9_ := by
    rw [r1, ← h1, show cl9_ (T 105 0 1) (fun j => T1 200 0 j) = cl9_ (T 105 0 1) (fun j => T 500 0 j) from cl9_e (fun j a b => (r4 j).trans (h4 j a (by omega)).symm)]
  -- the competitions that stood before
  have hr : ∀ c, 0 ≤ c → c < T 106 0 2 → (∀ i j, i ≠ T 106 0 2 → T1 402 i j = T 402 i j) → (∀ w, 0 ≤ w → w < 16 → T2 401 c w = T2 205 0 (23 * c + w)) ∧ ∀ k, 0 ≤ k → k < 7 → (k < T2 401 c 4 → T2 402 c k = T2 205 0 (23 * c + (16 + k))) ∧ (¬ k < T2 401 c 4 → T2 205 0 (23 * c + (16 + k)) = -1) := fun c a b g => by
    have zc : c ≠ T 106 0 2 := by omega
    have hc := h5 c a b
    refine ⟨fun w d e => by rw [k5, o2 c w zc, p2 _ (by omega), r5]; exact hc.1 w d e, fun q d e => ?_⟩
    rw [k5, o2 c 4 zc, k6, g c q zc, p2 _ (by omega), r5]
    exact hc.2 q d e
  unfold CR9_ at d2
  rw [er] at d2
  rcases d1 with ⟨a1, a2, a3, a4, a5⟩ | ⟨a1, a2, ⟨a3, kk, a4, a5⟩ | ⟨a3, a4, a5, a6, a10, v, a7, a8, a9⟩⟩
  · rcases d2 with ⟨b1, b2, b3, b4, b5⟩ | ⟨b1, _⟩
    · exact ⟨by omega, by omega, by omega, by omega, et, fun c y z => hr c y (by omega) (fun i j _ => o3 a5 i j)⟩
    · omega
  · rcases d2 with ⟨b1, _⟩ | ⟨b1, b2, ⟨b3, k9, b4, b5, b6⟩ | ⟨b3, b4, b5, v, b6, _⟩⟩
    · omega
    · rw [a5] at b6
      have e := Prod.mk.inj (Sum.inl.inj b6)
      exact ⟨by omega, by omega, by omega, by omega, et, fun c y z => hr c y (by omega) (fun i j _ => o3 a3 i j)⟩
    · rw [a5] at b6
      cases b6
  · rcases d2 with ⟨b1, _⟩ | ⟨b1, b2, ⟨b3, k9, b4, b5, b6⟩ | ⟨b3, b4, b5, v9, b6, b7⟩⟩
    · omega
    · rw [a7] at b6
      cases b6
    · rw [a7] at b6
      have e : v = v9 := Sum.inr.inj b6
      subst e
      have kv := rdf9_v 402 kv9_d a7
      have e6 : T1 111 0 6 = T 106 0 2 := by omega
      rw [e6] at b7
      refine ⟨by omega, by omega, by omega, by omega, et, fun c y z => ?_⟩
      by_cases zc : c = T 106 0 2
      · subst zc
        have gb := rdf9_g 402 gb9_d a7
        have g4 := gb.1 4 (by omega) (by omega)
        rw [rb9_0.2.2.2.2.1] at g4
        have e4 : T2 401 (T 106 0 2) 4 = v 4 := (k5 _ _).trans (a8 4 (by omega) (by omega))
        refine ⟨fun w d e => by rw [k5, a8 w d e, b7 w d (by omega)], fun q d e => ⟨fun f => ?_, fun f => ?_⟩⟩
        · rw [e4] at f
          rw [k6, a9 q d f, b7 (16 + q) (by omega) (by omega)]
        · rw [e4] at f
          rw [b7 (16 + q) (by omega) (by omega)]
          exact kv q d e f
      · exact hr c y (by omega) a6
