-- addMatch and plan of the reference
def AV9_ (T T' : Zt) (c rd h a d : Int) : Prop := T' 231 0 (T 111 0 29) = rd ∧ T' 232 0 (T 111 0 29) = T 207 0 (12 * c + h) ∧ T' 233 0 (T 111 0 29) = T 207 0 (12 * c + a) ∧ T' 234 0 (T 111 0 29) = d ∧ T' 238 0 (T 111 0 29) = -1
/-- what plan does to the reference -/
def PR9_ (T T' : Zt) (c f x : Int) : Prop := (T' = T ∧ ((x = -2 ∧ ¬ (0 ≤ c ∧ c < T 111 0 6)) ∨ ((0 ≤ c ∧ c < T 111 0 6) ∧ x = -3 ∧ ¬ (T 111 0 3 ≤ f ∧ f ≤ 999)) ∨ ((0 ≤ c ∧ c < T 111 0 6) ∧ (T 111 0 3 ≤ f ∧ f ≤ 999) ∧ x = -4 ∧ (T 209 0 c ≠ 0 ∨ T 208 0 c < 2 ∨ 999 < f + (T 205 0 (23 * c + 6) * (T 208 0 c + T 208 0 c % 2 - 1) - 1) * T 205 0 (23 * c + 7))) ∨ ((0 ≤ c ∧ c < T 111 0 6) ∧ (T 111 0 3 ≤ f ∧ f ≤ 999) ∧ T 209 0 c = 0 ∧ 2 ≤ T 208 0 c ∧ f + (T 205 0 (23 * c + 6) * (T 208 0 c + T 208 0 c % 2 - 1) - 1) * T 205 0 (23 * c + 7) ≤ 999 ∧ x = -5 ∧ 400 < T 111 0 29 + T 205 0 (23 * c + 6) * (T 208 0 c * (T 208 0 c - 1) / 2)))) ∨ ((0 ≤ c ∧ c < T 111 0 6) ∧ (T 111 0 3 ≤ f ∧ f ≤ 999) ∧ T 209 0 c = 0 ∧ 2 ≤ T 208 0 c ∧ f + (T 205 0 (23 * c + 6) * (T 208 0 c + T 208 0 c % 2 - 1) - 1) * T 205 0 (23 * c + 7) ≤ 999 ∧ T 111 0 29 + T 205 0 (23 * c + 6) * (T 208 0 c * (T 208 0 c - 1) / 2) ≤ 400 ∧ x = T 111 0 29 ∧ T' 209 0 c = 1 ∧ AR9_ T T' c (pl9_ (T 208 0 c) (T 208 0 c + T 208 0 c % 2 - 1) f (T 205 0 (23 * c + 7)) (T 205 0 (23 * c + 6)).toNat))
theorem bk_X11_addMatch_e_0 : ck_ fX11 none cX11_addMatch 0 [.aload 0, .tableswitch 0 11 8 #[], .iload 1, .iaload, .istore 6, .iload 3, .iload 6, .if_icmp .ge 21, .iload 4, .iload 6, .if_icmp .lt 22, .return_] 22 = true := qck_r (nn_ _) (by decide +kernel)
theorem bs_X11_addMatch_e_0 {P : Zt → Option Zv → Prop} (K : Int → Zl → List Zv → Zt → Prop) : sx_ K P [.aload 0, .tableswitch 0 11 8 #[], .iload 1, .iaload, .istore 6, .iload 3, .iload 6, .if_icmp .ge 21, .iload 4, .iload 6, .if_icmp .lt 22, .return_] 22 = x_aload 0 (x_g1 111 208 (x_iload 1 (x_iaload (x_istore 6 (x_iload 3 (x_iload 6 (x_if_icmp .ge 21 K (x_iload 4 (x_iload 6 (x_if_icmp .lt 22 K (x_return_ P))))))))))) := ((xe_aload 0).trans (congrArg (x_aload 0) ((xe_g1 (kk := 111) rfl tl_11_8).trans (congrArg (x_g1 111 208) ((xe_iload 1).trans (congrArg (x_iload 1) ((xe_iaload).trans (congrArg (x_iaload) ((xe_istore 6).trans (congrArg (x_istore 6) ((xe_iload 3).trans (congrArg (x_iload 3) ((xe_iload 6).trans (congrArg (x_iload 6) ((xe_if_icmp .ge 21).trans (congrArg (x_if_icmp .ge 21 K) ((xe_iload 4).trans (congrArg (x_iload 4) ((xe_iload 6).trans (congrArg (x_iload 6) ((xe_if_icmp .lt 22).trans (congrArg (x_if_icmp .lt 22 K) (xe_return_)))))))))))))))))))))))
theorem bk_X11_addMatch_e_21 : ck_ fX11 none cX11_addMatch 21 [.return_] 22 = true := qck_r (nn_ _) (by decide +kernel)
theorem bs_X11_addMatch_e_21 {P : Zt → Option Zv → Prop} (K : Int → Zl → List Zv → Zt → Prop) : sx_ K P [.return_] 22 = x_return_ P := (xe_return_)
theorem bk_X11_addMatch_e_22 : ck_ fX11 none cX11_addMatch 22 [.aload 0, .tableswitch 0 11 30 #[], .aload 0, .tableswitch 0 11 29 #[], .iload 1, .iastore, .aload 0, .tableswitch 0 11 31 #[], .aload 0, .tableswitch 0 11 29 #[], .iload 2, .iastore, .aload 0, .tableswitch 0 11 32 #[], .aload 0, .tableswitch 0 11 29 #[], .aload 0, .tableswitch 0 11 7 #[], .iconst 12, .iload 1, .imul, .iload 3, .iadd, .iaload, .iastore, .aload 0, .tableswitch 0 11 33 #[], .aload 0, .tableswitch 0 11 29 #[], .aload 0, .tableswitch 0 11 7 #[], .iconst 12, .iload 1, .imul, .iload 4, .iadd, .iaload, .iastore, .aload 0, .tableswitch 0 11 34 #[], .aload 0, .tableswitch 0 11 29 #[], .iload 5, .iastore, .aload 0, .tableswitch 0 11 35 #[], .aload 0, .tableswitch 0 11 29 #[], .iconst 0, .iastore, .aload 0, .tableswitch 0 11 38 #[], .aload 0, .tableswitch 0 11 29 #[], .iconst (-1), .iastore, .aload 0, .tableswitch 0 11 53 #[], .aload 0, .tableswitch 0 11 29 #[], .iconst (-1), .iastore, .aload 0, .tableswitch 0 11 55 #[], .aload 0, .tableswitch 0 11 29 #[], .iconst (-1), .iastore, .aload 0, .dup, .tableswitch 0 11 29 #[], .iconst 1, .iadd, .tableswitch 1 11 29 #[], .return_] 145 = true := qck_r (nn_ _) (by decide +kernel)
theorem bs_X11_addMatch_e_22 {P : Zt → Option Zv → Prop} (K : Int → Zl → List Zv → Zt → Prop) : sx_ K P [.aload 0, .tableswitch 0 11 30 #[], .aload 0, .tableswitch 0 11 29 #[], .iload 1, .iastore, .aload 0, .tableswitch 0 11 31 #[], .aload 0, .tableswitch 0 11 29 #[], .iload 2, .iastore, .aload 0, .tableswitch 0 11 32 #[], .aload 0, .tableswitch 0 11 29 #[], .aload 0, .tableswitch 0 11 7 #[], .iconst 12, .iload 1, .imul, .iload 3, .iadd, .iaload, .iastore, .aload 0, .tableswitch 0 11 33 #[], .aload 0, .tableswitch 0 11 29 #[], .aload 0, .tableswitch 0 11 7 #[], .iconst 12, .iload 1, .imul, .iload 4, .iadd, .iaload, .iastore, .aload 0, .tableswitch 0 11 34 #[], .aload 0, .tableswitch 0 11 29 #[], .iload 5, .iastore, .aload 0, .tableswitch 0 11 35 #[], .aload 0, .tableswitch 0 11 29 #[], .iconst 0, .iastore, .aload 0, .tableswitch 0 11 38 #[], .aload 0, .tableswitch 0 11 29 #[], .iconst (-1), .iastore, .aload 0, .tableswitch 0 11 53 #[], .aload 0, .tableswitch 0 11 29 #[], .iconst (-1), .iastore, .aload 0, .tableswitch 0 11 55 #[], .aload 0, .tableswitch 0 11 29 #[], .iconst (-1), .iastore, .aload 0, .dup, .tableswitch 0 11 29 #[], .iconst 1, .iadd, .tableswitch 1 11 29 #[], .return_] 145 = x_aload 0 (x_g1 111 230 (x_aload 0 (x_g0 111 29 0 400 (x_iload 1 (x_iastore (x_aload 0 (x_g1 111 231 (x_aload 0 (x_g0 111 29 0 400 (x_iload 2 (x_iastore (x_aload 0 (x_g1 111 232 (x_aload 0 (x_g0 111 29 0 400 (x_aload 0 (x_g1 111 207 (x_iconst 12 (x_iload 1 (x_imul (x_iload 3 (x_iadd (x_iaload (x_iastore (x_aload 0 (x_g1 111 233 (x_aload 0 (x_g0 111 29 0 400 (x_aload 0 (x_g1 111 207 (x_iconst 12 (x_iload 1 (x_imul (x_iload 4 (x_iadd (x_iaload (x_iastore (x_aload 0 (x_g1 111 234 (x_aload 0 (x_g0 111 29 0 400 (x_iload 5 (x_iastore (x_aload 0 (x_g1 111 235 (x_aload 0 (x_g0 111 29 0 400 (x_iconst 0 (x_iastore (x_aload 0 (x_g1 111 238 (x_aload 0 (x_g0 111 29 0 400 (x_iconst (-1) (x_iastore (x_aload 0 (x_g1 111 253 (x_aload 0 (x_g0 111 29 0 400 (x_iconst (-1) (x_iastore (x_aload 0 (x_g1 111 255 (x_aload 0 (x_g0 111 29 0 400 (x_iconst (-1) (x_iastore (x_aload 0 (x_dup (x_g0 111 29 0 400 (x_iconst 1 (x_iadd (x_p 111 29 0 400 (x_return_ P)))))))))))))))))))))))))))))))))))))))))))))))))))))))))))))))))))))))))) := ((xe_aload 0).trans (congrArg (x_aload 0) ((xe_g1 (kk := 111) rfl tl_11_30).trans (congrArg (x_g1 111 230) ((xe_aload 0).trans (congrArg (x_aload 0) ((xe_g0 (kk := 111) rfl tl_11_29).trans (congrArg (x_g0 111 29 0 400) ((xe_iload 1).trans (congrArg (x_iload 1) ((xe_iastore).trans (congrArg (x_iastore) ((xe_aload 0).trans (congrArg (x_aload 0) ((xe_g1 (kk := 111) rfl tl_11_31).trans (congrArg (x_g1 111 231) ((xe_aload 0).trans (congrArg (x_aload 0) ((xe_g0 (kk := 111) rfl tl_11_29).trans (congrArg (x_g0 111 29 0 400) ((xe_iload 2).trans (congrArg (x_iload 2) ((xe_iastore).trans (congrArg (x_iastore) ((xe_aload 0).trans (congrArg (x_aload 0) ((xe_g1 (kk := 111) rfl tl_11_32).trans (congrArg (x_g1 111 232) ((xe_aload 0).trans (congrArg (x_aload 0) ((xe_g0 (kk := 111) rfl tl_11_29).trans (congrArg (x_g0 111 29 0 400) ((xe_aload 0).trans (congrArg (x_aload 0) ((xe_g1 (kk := 111) rfl tl_11_7).trans (congrArg (x_g1 111 207) ((xe_iconst 12).trans (congrArg (x_iconst 12) ((xe_iload 1).trans (congrArg (x_iload 1) ((xe_imul).trans (congrArg (x_imul) ((xe_iload 3).trans (congrArg (x_iload 3) ((xe_iadd).trans (congrArg (x_iadd) ((xe_iaload).trans (congrArg (x_iaload) ((xe_iastore).trans (congrArg (x_iastore) ((xe_aload 0).trans (congrArg (x_aload 0) ((xe_g1 (kk := 111) rfl tl_11_33).trans (congrArg (x_g1 111 233) ((xe_aload 0).trans (congrArg (x_aload 0) ((xe_g0 (kk := 111) rfl tl_11_29).trans (congrArg (x_g0 111 29 0 400) ((xe_aload 0).trans (congrArg (x_aload 0) ((xe_g1 (kk := 111) rfl tl_11_7).trans (congrArg (x_g1 111 207) ((xe_iconst 12).trans (congrArg (x_iconst 12) ((xe_iload 1).trans (congrArg (x_iload 1) ((xe_imul).trans (congrArg (x_imul) ((xe_iload 4).trans (congrArg (x_iload 4) ((xe_iadd).trans (congrArg (x_iadd) ((xe_iaload).trans (congrArg (x_iaload) ((xe_iastore).trans (congrArg (x_iastore) ((xe_aload 0).trans (congrArg (x_aload 0) ((xe_g1 (kk := 111) rfl tl_11_34).trans (congrArg (x_g1 111 234) ((xe_aload 0).trans (congrArg (x_aload 0) ((xe_g0 (kk := 111) rfl tl_11_29).trans (congrArg (x_g0 111 29 0 400) ((xe_iload 5).trans (congrArg (x_iload 5) ((xe_iastore).trans (congrArg (x_iastore) ((xe_aload 0).trans (congrArg (x_aload 0) ((xe_g1 (kk := 111) rfl tl_11_35).trans (congrArg (x_g1 111 235) ((xe_aload 0).trans (congrArg (x_aload 0) ((xe_g0 (kk := 111) rfl tl_11_29).trans (congrArg (x_g0 111 29 0 400) ((xe_iconst 0).trans (congrArg (x_iconst 0) ((xe_iastore).trans (congrArg (x_iastore) ((xe_aload 0).trans (congrArg (x_aload 0) ((xe_g1 (kk := 111) rfl tl_11_38).trans (congrArg (x_g1 111 238) ((xe_aload 0).trans (congrArg (x_aload 0) ((xe_g0 (kk := 111) rfl tl_11_29).trans (congrArg (x_g0 111 29 0 400) ((xe_iconst (-1)).trans (congrArg (x_iconst (-1)) ((xe_iastore).trans (congrArg (x_iastore) ((xe_aload 0).trans (congrArg (x_aload 0) ((xe_g1 (kk := 111) rfl tl_11_53).trans (congrArg (x_g1 111 253) ((xe_aload 0).trans (congrArg (x_aload 0) ((xe_g0 (kk := 111) rfl tl_11_29).trans (congrArg (x_g0 111 29 0 400) ((xe_iconst (-1)).trans (congrArg (x_iconst (-1)) ((xe_iastore).trans (congrArg (x_iastore) ((xe_aload 0).trans (congrArg (x_aload 0) ((xe_g1 (kk := 111) rfl tl_11_55).trans (congrArg (x_g1 111 255) ((xe_aload 0).trans (congrArg (x_aload 0) ((xe_g0 (kk := 111) rfl tl_11_29).trans (congrArg (x_g0 111 29 0 400) ((xe_iconst (-1)).trans (congrArg (x_iconst (-1)) ((xe_iastore).trans (congrArg (x_iastore) ((xe_aload 0).trans (congrArg (x_aload 0) ((xe_dup).trans (congrArg (x_dup) ((xe_g0 (kk := 111) rfl tl_11_29).trans (congrArg (x_g0 111 29 0 400) ((xe_iconst 1).trans (congrArg (x_iconst 1) ((xe_iadd).trans (congrArg (x_iadd) ((xe_p (kk := 111) rfl tl_11_29).trans (congrArg (x_p 111 29 0 400) (xe_return_)))))))))))))))))))))))))))))))))))))))))))))))))))))))))))))))))))))))))))))))))))))))))))))))))))))))))))))))))))))))))))))))))))))))))))))))))))))
abbrev po_X11_addMatch_e (T : Zt) (c rd h a d : Int) : Zt → Option Zv → Prop := fun T' r => r = none ∧ fr_ [(230, []), (231, []), (232, []), (233, []), (234, []), (235, []), (238, []), (253, []), (255, []), (111, [29])] T T' ∧ ((¬ (h < T 208 0 c ∧ a < T 208 0 c) ∧ T' 111 0 29 = T 111 0 29 ∧ T = T') ∨ (h < T 208 0 c ∧ a < T 208 0 c ∧ T' 111 0 29 = T 111 0 29 + 1 ∧ am1_ T T' c ∧ AV9_ T T' c rd h a d))
set_option maxHeartbeats 4000000 in
theorem ct_X11_addMatch_e {T : Zt} {c rd h a d : Int} (h1 : 0 ≤ c ∧ c < 4) (h2 : 0 ≤ h ∧ 0 ≤ a) (h3 : 0 ≤ d ∧ d ≤ 999) (h4 : h < T 208 0 c → a < T 208 0 c → T 111 0 29 < 400) : Ct_ yX11_addMatch zX11_addMatch T [vR 111 0, vI c, vI rd, vI h, vI a, vI d] (po_X11_addMatch_e T c rd h a d) := by
  refine ct_of pn_11 rfl rfl (Nat.le_of_ble_eq_true rfl) (fun hT hav => ?_)
  have hr_c : -2147483648 ≤ c ∧ c ≤ 2147483647 := hav (vI c) (List.mem_cons_of_mem _ List.mem_cons_self)
  have hr_rd : -2147483648 ≤ rd ∧ rd ≤ 2147483647 := hav (vI rd) (List.mem_cons_of_mem _ (List.mem_cons_of_mem _ List.mem_cons_self))
  have hr_h : -2147483648 ≤ h ∧ h ≤ 2147483647 := hav (vI h) (List.mem_cons_of_mem _ (List.mem_cons_of_mem _ (List.mem_cons_of_mem _ List.mem_cons_self)))
  have hr_a : -2147483648 ≤ a ∧ a ≤ 2147483647 := hav (vI a) (List.mem_cons_of_mem _ (List.mem_cons_of_mem _ (List.mem_cons_of_mem _ (List.mem_cons_of_mem _ List.mem_cons_self))))
  have hr_d : -2147483648 ≤ d ∧ d ≤ 2147483647 := hav (vI d) (List.mem_cons_of_mem _ (List.mem_cons_of_mem _ (List.mem_cons_of_mem _ (List.mem_cons_of_mem _ (List.mem_cons_of_mem _ List.mem_cons_self)))))
  have hz : zX11_addMatch.2.2.2.1 = some .boolean → ∀ (T' : Zt) (x : Int), po_X11_addMatch_e T c rd h a d T' (some (vI x)) → 0 ≤ x ∧ x ≤ 1 := fun h => by cases h
  show J_ zX11_addMatch T (po_X11_addMatch_e T c rd h a d) 0 0 0 [some (vR 111 0), some (vI c), some (vI rd), some (vI h), some (vI a), some (vI d), none] [] T
  refine j_blx (F := fX11) tb_X11 (nn_ _) bk_X11_addMatch_e_0 bs_X11_addMatch_e_0 hz (fun K hK => ?_)
  refine ix_i (by omega) ?_
  intro b1 b1b
  refine And.intro (fun c2 => ?_) (fun c2 => ?_)
  · refine hK 21 [some (vR 111 0), some (vI c), some (vI rd), some (vI h), some (vI a), some (vI d), some (vI (T 208 0 c))] [] T ?_
    refine j_blx (F := fX11) tb_X11 (nn_ _) bk_X11_addMatch_e_21 bs_X11_addMatch_e_21 hz (fun K hK => ?_)
    refine (show po_X11_addMatch_e T c rd h a d T (none) from ?_)
    exact ⟨rfl, fr_0 _ _, Or.inl ⟨by omega, rfl, rfl⟩⟩
  · refine And.intro (fun c3 => ?_) (fun c3 => ?_)
    · refine hK 22 _ [] T ?_
      refine j_blx (F := fX11) tb_X11 (nn_ _) bk_X11_addMatch_e_22 bs_X11_addMatch_e_22 hz (fun K hK => ?_)
      intro b4 b4b
      refine iy_i (by omega) (by omega) ?_
      refine x_nm (fun U5 hU5 => ?_)
      have e6 := up_f hU5
      intro b7 b7b
      have e8 : U5 111 0 29 = T 111 0 29 := up_k hU5 (by exact Nat.ne_of_beq_eq_false rfl) 0 29
      rw [e8] at b7 b7b ⊢
      refine iy_i (by omega) (by omega) ?_
      refine x_nm (fun U9 hU9 => ?_)
      have e10 := up_f hU9
      intro b11 b11b
      have e12 : U9 111 0 29 = T 111 0 29 := (up_k hU9 (by exact Nat.ne_of_beq_eq_false rfl) 0 29).trans (up_k hU5 (by exact Nat.ne_of_beq_eq_false rfl) 0 29)
      rw [e12] at b11 b11b ⊢
      refine rg_i (by omega) ?_
      refine rg_i (by omega) ?_
      refine ix_i (by omega) ?_
      intro b13 b13b
      have e14 : U9 207 0 ((12 * c) + h) = T 207 0 ((12 * c) + h) := (up_k hU9 (by exact Nat.ne_of_beq_eq_false rfl) 0 ((12 * c) + h)).trans (up_k hU5 (by exact Nat.ne_of_beq_eq_false rfl) 0 ((12 * c) + h))
      rw [e14] at b13 b13b ⊢
      refine iy_i (by omega) (by omega) ?_
      refine x_nm (fun U15 hU15 => ?_)
      have e16 := up_f hU15
      intro b17 b17b
      have e18 : U15 111 0 29 = T 111 0 29 := (up_k hU15 (by exact Nat.ne_of_beq_eq_false rfl) 0 29).trans ((up_k hU9 (by exact Nat.ne_of_beq_eq_false rfl) 0 29).trans (up_k hU5 (by exact Nat.ne_of_beq_eq_false rfl) 0 29))
      rw [e18] at b17 b17b ⊢
      refine rg_i (by omega) ?_
      refine rg_i (by omega) ?_
      refine ix_i (by omega) ?_
      intro b19 b19b
      have e20 : U15 207 0 ((12 * c) + a) = T 207 0 ((12 * c) + a) := (up_k hU15 (by exact Nat.ne_of_beq_eq_false rfl) 0 ((12 * c) + a)).trans ((up_k hU9 (by exact Nat.ne_of_beq_eq_false rfl) 0 ((12 * c) + a)).trans (up_k hU5 (by exact Nat.ne_of_beq_eq_false rfl) 0 ((12 * c) + a)))
      rw [e20] at b19 b19b ⊢
      refine iy_i (by omega) (by omega) ?_
      refine x_nm (fun U21 hU21 => ?_)
      have e22 := up_f hU21
      intro b23 b23b
      have e24 : U21 111 0 29 = T 111 0 29 := (up_k hU21 (by exact Nat.ne_of_beq_eq_false rfl) 0 29).trans ((up_k hU15 (by exact Nat.ne_of_beq_eq_false rfl) 0 29).trans ((up_k hU9 (by exact Nat.ne_of_beq_eq_false rfl) 0 29).trans (up_k hU5 (by exact Nat.ne_of_beq_eq_false rfl) 0 29)))
      rw [e24] at b23 b23b ⊢
      refine iy_i (by omega) (by omega) ?_
      refine x_nm (fun U25 hU25 => ?_)
      have e26 := up_f hU25
      intro b27 b27b
      have e28 : U25 111 0 29 = T 111 0 29 := (up_k hU25 (by exact Nat.ne_of_beq_eq_false rfl) 0 29).trans ((up_k hU21 (by exact Nat.ne_of_beq_eq_false rfl) 0 29).trans ((up_k hU15 (by exact Nat.ne_of_beq_eq_false rfl) 0 29).trans ((up_k hU9 (by exact Nat.ne_of_beq_eq_false rfl) 0 29).trans (up_k hU5 (by exact Nat.ne_of_beq_eq_false rfl) 0 29))))
      rw [e28] at b27 b27b ⊢
      refine iy_i (by omega) (by omega) ?_
      refine x_nm (fun U29 hU29 => ?_)
      have e30 := up_f hU29
      intro b31 b31b
      have e32 : U29 111 0 29 = T 111 0 29 := (up_k hU29 (by exact Nat.ne_of_beq_eq_false rfl) 0 29).trans ((up_k hU25 (by exact Nat.ne_of_beq_eq_false rfl) 0 29).trans ((up_k hU21 (by exact Nat.ne_of_beq_eq_false rfl) 0 29).trans ((up_k hU15 (by exact Nat.ne_of_beq_eq_false rfl) 0 29).trans ((up_k hU9 (by exact Nat.ne_of_beq_eq_false rfl) 0 29).trans (up_k hU5 (by exact Nat.ne_of_beq_eq_false rfl) 0 29)))))
      rw [e32] at b31 b31b ⊢
      refine iy_i (by omega) (by omega) ?_
      refine x_nm (fun U33 hU33 => ?_)
      have e34 := up_f hU33
      intro b35 b35b
      have e36 : U33 111 0 29 = T 111 0 29 := (up_k hU33 (by exact Nat.ne_of_beq_eq_false rfl) 0 29).trans ((up_k hU29 (by exact Nat.ne_of_beq_eq_false rfl) 0 29).trans ((up_k hU25 (by exact Nat.ne_of_beq_eq_false rfl) 0 29).trans ((up_k hU21 (by exact Nat.ne_of_beq_eq_false rfl) 0 29).trans ((up_k hU15 (by exact Nat.ne_of_beq_eq_false rfl) 0 29).trans ((up_k hU9 (by exact Nat.ne_of_beq_eq_false rfl) 0 29).trans (up_k hU5 (by exact Nat.ne_of_beq_eq_false rfl) 0 29))))))
      rw [e36] at b35 b35b ⊢
      refine iy_i (by omega) (by omega) ?_
      refine x_nm (fun U37 hU37 => ?_)
      have e38 := up_f hU37
      intro b39 b39b
      have e40 : U37 111 0 29 = T 111 0 29 := (up_k hU37 (by exact Nat.ne_of_beq_eq_false rfl) 0 29).trans ((up_k hU33 (by exact Nat.ne_of_beq_eq_false rfl) 0 29).trans ((up_k hU29 (by exact Nat.ne_of_beq_eq_false rfl) 0 29).trans ((up_k hU25 (by exact Nat.ne_of_beq_eq_false rfl) 0 29).trans ((up_k hU21 (by exact Nat.ne_of_beq_eq_false rfl) 0 29).trans ((up_k hU15 (by exact Nat.ne_of_beq_eq_false rfl) 0 29).trans ((up_k hU9 (by exact Nat.ne_of_beq_eq_false rfl) 0 29).trans (up_k hU5 (by exact Nat.ne_of_beq_eq_false rfl) 0 29)))))))
      rw [e40] at b39 b39b ⊢
      refine iy_i (by omega) (by omega) ?_
      refine x_nm (fun U41 hU41 => ?_)
      have e42 := up_f hU41
      intro b43 b43b
      have e44 : U41 111 0 29 = T 111 0 29 := (up_k hU41 (by exact Nat.ne_of_beq_eq_false rfl) 0 29).trans ((up_k hU37 (by exact Nat.ne_of_beq_eq_false rfl) 0 29).trans ((up_k hU33 (by exact Nat.ne_of_beq_eq_false rfl) 0 29).trans ((up_k hU29 (by exact Nat.ne_of_beq_eq_false rfl) 0 29).trans ((up_k hU25 (by exact Nat.ne_of_beq_eq_false rfl) 0 29).trans ((up_k hU21 (by exact Nat.ne_of_beq_eq_false rfl) 0 29).trans ((up_k hU15 (by exact Nat.ne_of_beq_eq_false rfl) 0 29).trans ((up_k hU9 (by exact Nat.ne_of_beq_eq_false rfl) 0 29).trans (up_k hU5 (by exact Nat.ne_of_beq_eq_false rfl) 0 29))))))))
      rw [e44] at b43 b43b ⊢
      refine rg_i (by omega) ?_
      refine bd_i (by omega) ?_
      refine x_nm (fun U45 hU45 => ?_)
      have e46 := up_f hU45
      refine (show po_X11_addMatch_e T c rd h a d U45 (none) from ?_)
      have e47 : U45 111 0 29 = (T 111 0 29) + 1 := up_f hU45
      refine ⟨rfl, fr_u (fr_u (fr_u (fr_u (fr_u (fr_u (fr_u (fr_u (fr_u (fr_u (fr_0 _ _) hU5 rfl) hU9 rfl) hU15 rfl) hU21 rfl) hU25 rfl) hU29 rfl) hU33 rfl) hU37 rfl) hU41 rfl) hU45 rfl, Or.inr ⟨by omega, by omega, by omega, ⟨by omega, fun j hj => ⟨(up_k hU45 (by exact Nat.ne_of_beq_eq_false rfl) 0 j).trans ((up_k hU41 (by exact Nat.ne_of_beq_eq_false rfl) 0 j).trans ((up_k hU37 (by exact Nat.ne_of_beq_eq_false rfl) 0 j).trans ((up_k hU33 (by exact Nat.ne_of_beq_eq_false rfl) 0 j).trans ((up_k hU29 (by exact Nat.ne_of_beq_eq_false rfl) 0 j).trans ((up_k hU25 (by exact Nat.ne_of_beq_eq_false rfl) 0 j).trans ((up_k hU21 (by exact Nat.ne_of_beq_eq_false rfl) 0 j).trans ((up_k hU15 (by exact Nat.ne_of_beq_eq_false rfl) 0 j).trans ((up_k hU9 (by exact Nat.ne_of_beq_eq_false rfl) 0 j).trans (up_g hU5 (fun z => hj z.2.2)))))))))), (up_k hU45 (by exact Nat.ne_of_beq_eq_false rfl) 0 j).trans ((up_k hU41 (by exact Nat.ne_of_beq_eq_false rfl) 0 j).trans ((up_k hU37 (by exact Nat.ne_of_beq_eq_false rfl) 0 j).trans ((up_k hU33 (by exact Nat.ne_of_beq_eq_false rfl) 0 j).trans ((up_k hU29 (by exact Nat.ne_of_beq_eq_false rfl) 0 j).trans ((up_k hU25 (by exact Nat.ne_of_beq_eq_false rfl) 0 j).trans ((up_k hU21 (by exact Nat.ne_of_beq_eq_false rfl) 0 j).trans ((up_k hU15 (by exact Nat.ne_of_beq_eq_false rfl) 0 j).trans ((up_g hU9 (fun z => hj z.2.2)).trans (up_k hU5 (by exact Nat.ne_of_beq_eq_false rfl) 0 j))))))))), (up_k hU45 (by exact Nat.ne_of_beq_eq_false rfl) 0 j).trans ((up_k hU41 (by exact Nat.ne_of_beq_eq_false rfl) 0 j).trans ((up_k hU37 (by exact Nat.ne_of_beq_eq_false rfl) 0 j).trans ((up_k hU33 (by exact Nat.ne_of_beq_eq_false rfl) 0 j).trans ((up_k hU29 (by exact Nat.ne_of_beq_eq_false rfl) 0 j).trans ((up_k hU25 (by exact Nat.ne_of_beq_eq_false rfl) 0 j).trans ((up_k hU21 (by exact Nat.ne_of_beq_eq_false rfl) 0 j).trans ((up_g hU15 (fun z => hj z.2.2)).trans ((up_k hU9 (by exact Nat.ne_of_beq_eq_false rfl) 0 j).trans (up_k hU5 (by exact Nat.ne_of_beq_eq_false rfl) 0 j))))))))), (up_k hU45 (by exact Nat.ne_of_beq_eq_false rfl) 0 j).trans ((up_k hU41 (by exact Nat.ne_of_beq_eq_false rfl) 0 j).trans ((up_k hU37 (by exact Nat.ne_of_beq_eq_false rfl) 0 j).trans ((up_k hU33 (by exact Nat.ne_of_beq_eq_false rfl) 0 j).trans ((up_k hU29 (by exact Nat.ne_of_beq_eq_false rfl) 0 j).trans ((up_k hU25 (by exact Nat.ne_of_beq_eq_false rfl) 0 j).trans ((up_g hU21 (fun z => hj z.2.2)).trans ((up_k hU15 (by exact Nat.ne_of_beq_eq_false rfl) 0 j).trans ((up_k hU9 (by exact Nat.ne_of_beq_eq_false rfl) 0 j).trans (up_k hU5 (by exact Nat.ne_of_beq_eq_false rfl) 0 j))))))))), (up_k hU45 (by exact Nat.ne_of_beq_eq_false rfl) 0 j).trans ((up_k hU41 (by exact Nat.ne_of_beq_eq_false rfl) 0 j).trans ((up_k hU37 (by exact Nat.ne_of_beq_eq_false rfl) 0 j).trans ((up_k hU33 (by exact Nat.ne_of_beq_eq_false rfl) 0 j).trans ((up_k hU29 (by exact Nat.ne_of_beq_eq_false rfl) 0 j).trans ((up_g hU25 (fun z => hj z.2.2)).trans ((up_k hU21 (by exact Nat.ne_of_beq_eq_false rfl) 0 j).trans ((up_k hU15 (by exact Nat.ne_of_beq_eq_false rfl) 0 j).trans ((up_k hU9 (by exact Nat.ne_of_beq_eq_false rfl) 0 j).trans (up_k hU5 (by exact Nat.ne_of_beq_eq_false rfl) 0 j))))))))), (up_k hU45 (by exact Nat.ne_of_beq_eq_false rfl) 0 j).trans ((up_k hU41 (by exact Nat.ne_of_beq_eq_false rfl) 0 j).trans ((up_k hU37 (by exact Nat.ne_of_beq_eq_false rfl) 0 j).trans ((up_k hU33 (by exact Nat.ne_of_beq_eq_false rfl) 0 j).trans ((up_g hU29 (fun z => hj z.2.2)).trans ((up_k hU25 (by exact Nat.ne_of_beq_eq_false rfl) 0 j).trans ((up_k hU21 (by exact Nat.ne_of_beq_eq_false rfl) 0 j).trans ((up_k hU15 (by exact Nat.ne_of_beq_eq_false rfl) 0 j).trans ((up_k hU9 (by exact Nat.ne_of_beq_eq_false rfl) 0 j).trans (up_k hU5 (by exact Nat.ne_of_beq_eq_false rfl) 0 j))))))))), (up_k hU45 (by exact Nat.ne_of_beq_eq_false rfl) 0 j).trans ((up_k hU41 (by exact Nat.ne_of_beq_eq_false rfl) 0 j).trans ((up_k hU37 (by exact Nat.ne_of_beq_eq_false rfl) 0 j).trans ((up_g hU33 (fun z => hj z.2.2)).trans ((up_k hU29 (by exact Nat.ne_of_beq_eq_false rfl) 0 j).trans ((up_k hU25 (by exact Nat.ne_of_beq_eq_false rfl) 0 j).trans ((up_k hU21 (by exact Nat.ne_of_beq_eq_false rfl) 0 j).trans ((up_k hU15 (by exact Nat.ne_of_beq_eq_false rfl) 0 j).trans ((up_k hU9 (by exact Nat.ne_of_beq_eq_false rfl) 0 j).trans (up_k hU5 (by exact Nat.ne_of_beq_eq_false rfl) 0 j))))))))), (up_k hU45 (by exact Nat.ne_of_beq_eq_false rfl) 0 j).trans ((up_k hU41 (by exact Nat.ne_of_beq_eq_false rfl) 0 j).trans ((up_g hU37 (fun z => hj z.2.2)).trans ((up_k hU33 (by exact Nat.ne_of_beq_eq_false rfl) 0 j).trans ((up_k hU29 (by exact Nat.ne_of_beq_eq_false rfl) 0 j).trans ((up_k hU25 (by exact Nat.ne_of_beq_eq_false rfl) 0 j).trans ((up_k hU21 (by exact Nat.ne_of_beq_eq_false rfl) 0 j).trans ((up_k hU15 (by exact Nat.ne_of_beq_eq_false rfl) 0 j).trans ((up_k hU9 (by exact Nat.ne_of_beq_eq_false rfl) 0 j).trans (up_k hU5 (by exact Nat.ne_of_beq_eq_false rfl) 0 j))))))))), (up_k hU45 (by exact Nat.ne_of_beq_eq_false rfl) 0 j).trans ((up_g hU41 (fun z => hj z.2.2)).trans ((up_k hU37 (by exact Nat.ne_of_beq_eq_false rfl) 0 j).trans ((up_k hU33 (by exact Nat.ne_of_beq_eq_false rfl) 0 j).trans ((up_k hU29 (by exact Nat.ne_of_beq_eq_false rfl) 0 j).trans ((up_k hU25 (by exact Nat.ne_of_beq_eq_false rfl) 0 j).trans ((up_k hU21 (by exact Nat.ne_of_beq_eq_false rfl) 0 j).trans ((up_k hU15 (by exact Nat.ne_of_beq_eq_false rfl) 0 j).trans ((up_k hU9 (by exact Nat.ne_of_beq_eq_false rfl) 0 j).trans (up_k hU5 (by exact Nat.ne_of_beq_eq_false rfl) 0 j)))))))))⟩, ?_, ?_, ?_, ?_⟩, ?_, ?_, ?_, ?_, ?_⟩⟩
      · exact ((up_k hU45 (by exact Nat.ne_of_beq_eq_false rfl) 0 (T 111 0 29)).trans ((up_k hU41 (by exact Nat.ne_of_beq_eq_false rfl) 0 (T 111 0 29)).trans ((up_k hU37 (by exact Nat.ne_of_beq_eq_false rfl) 0 (T 111 0 29)).trans ((up_k hU33 (by exact Nat.ne_of_beq_eq_false rfl) 0 (T 111 0 29)).trans ((up_k hU29 (by exact Nat.ne_of_beq_eq_false rfl) 0 (T 111 0 29)).trans ((up_k hU25 (by exact Nat.ne_of_beq_eq_false rfl) 0 (T 111 0 29)).trans ((up_k hU21 (by exact Nat.ne_of_beq_eq_false rfl) 0 (T 111 0 29)).trans ((up_k hU15 (by exact Nat.ne_of_beq_eq_false rfl) 0 (T 111 0 29)).trans (up_k hU9 (by exact Nat.ne_of_beq_eq_false rfl) 0 (T 111 0 29)))))))))).trans (up_f hU5)
      · exact ((up_k hU45 (by exact Nat.ne_of_beq_eq_false rfl) 0 (T 111 0 29)).trans ((up_k hU41 (by exact Nat.ne_of_beq_eq_false rfl) 0 (T 111 0 29)).trans ((up_k hU37 (by exact Nat.ne_of_beq_eq_false rfl) 0 (T 111 0 29)).trans (up_k hU33 (by exact Nat.ne_of_beq_eq_false rfl) 0 (T 111 0 29))))).trans (up_f hU29)
      · exact ((up_k hU45 (by exact Nat.ne_of_beq_eq_false rfl) 0 (T 111 0 29)).trans (up_k hU41 (by exact Nat.ne_of_beq_eq_false rfl) 0 (T 111 0 29))).trans (up_f hU37)
      · exact (up_k hU45 (by exact Nat.ne_of_beq_eq_false rfl) 0 (T 111 0 29)).trans (up_f hU41)
      · exact ((up_k hU45 (by exact Nat.ne_of_beq_eq_false rfl) 0 (T 111 0 29)).trans ((up_k hU41 (by exact Nat.ne_of_beq_eq_false rfl) 0 (T 111 0 29)).trans ((up_k hU37 (by exact Nat.ne_of_beq_eq_false rfl) 0 (T 111 0 29)).trans ((up_k hU33 (by exact Nat.ne_of_beq_eq_false rfl) 0 (T 111 0 29)).trans ((up_k hU29 (by exact Nat.ne_of_beq_eq_false rfl) 0 (T 111 0 29)).trans ((up_k hU25 (by exact Nat.ne_of_beq_eq_false rfl) 0 (T 111 0 29)).trans ((up_k hU21 (by exact Nat.ne_of_beq_eq_false rfl) 0 (T 111 0 29)).trans (up_k hU15 (by exact Nat.ne_of_beq_eq_false rfl) 0 (T 111 0 29))))))))).trans (up_f hU9)
      · exact ((up_k hU45 (by exact Nat.ne_of_beq_eq_false rfl) 0 (T 111 0 29)).trans ((up_k hU41 (by exact Nat.ne_of_beq_eq_false rfl) 0 (T 111 0 29)).trans ((up_k hU37 (by exact Nat.ne_of_beq_eq_false rfl) 0 (T 111 0 29)).trans ((up_k hU33 (by exact Nat.ne_of_beq_eq_false rfl) 0 (T 111 0 29)).trans ((up_k hU29 (by exact Nat.ne_of_beq_eq_false rfl) 0 (T 111 0 29)).trans ((up_k hU25 (by exact Nat.ne_of_beq_eq_false rfl) 0 (T 111 0 29)).trans (up_k hU21 (by exact Nat.ne_of_beq_eq_false rfl) 0 (T 111 0 29)))))))).trans (up_f hU15)
      · exact ((up_k hU45 (by exact Nat.ne_of_beq_eq_false rfl) 0 (T 111 0 29)).trans ((up_k hU41 (by exact Nat.ne_of_beq_eq_false rfl) 0 (T 111 0 29)).trans ((up_k hU37 (by exact Nat.ne_of_beq_eq_false rfl) 0 (T 111 0 29)).trans ((up_k hU33 (by exact Nat.ne_of_beq_eq_false rfl) 0 (T 111 0 29)).trans ((up_k hU29 (by exact Nat.ne_of_beq_eq_false rfl) 0 (T 111 0 29)).trans (up_k hU25 (by exact Nat.ne_of_beq_eq_false rfl) 0 (T 111 0 29))))))).trans (up_f hU21)
      · exact ((up_k hU45 (by exact Nat.ne_of_beq_eq_false rfl) 0 (T 111 0 29)).trans ((up_k hU41 (by exact Nat.ne_of_beq_eq_false rfl) 0 (T 111 0 29)).trans ((up_k hU37 (by exact Nat.ne_of_beq_eq_false rfl) 0 (T 111 0 29)).trans ((up_k hU33 (by exact Nat.ne_of_beq_eq_false rfl) 0 (T 111 0 29)).trans (up_k hU29 (by exact Nat.ne_of_beq_eq_false rfl) 0 (T 111 0 29)))))).trans (up_f hU25)
      · exact ((up_k hU45 (by exact Nat.ne_of_beq_eq_false rfl) 0 (T 111 0 29)).trans ((up_k hU41 (by exact Nat.ne_of_beq_eq_false rfl) 0 (T 111 0 29)).trans (up_k hU37 (by exact Nat.ne_of_beq_eq_false rfl) 0 (T 111 0 29)))).trans (up_f hU33)
    · refine (show po_X11_addMatch_e T c rd h a d T (none) from ?_)
      exact ⟨rfl, fr_0 _ _, Or.inl ⟨by omega, rfl, rfl⟩⟩
theorem bk_X11_plan_e_305 : ck_ fX11 (some .int) cX11_plan 305 [.istore 14, .aload 0, .iload 1, .iload 8, .iload 13, .iload 14, .if_icmp .eq 323, .iload 11, .goto 325] 323 = true := qck_r (nn_ _) (by decide +kernel)
theorem bs_X11_plan_e_305 {P : Zt → Option Zv → Prop} (K : Int → Zl → List Zv → Zt → Prop) : sx_ K P [.istore 14, .aload 0, .iload 1, .iload 8, .iload 13, .iload 14, .if_icmp .eq 323, .iload 11, .goto 325] 323 = x_istore 14 (x_aload 0 (x_iload 1 (x_iload 8 (x_iload 13 (x_iload 14 (x_if_icmp .eq 323 K (x_iload 11 (x_goto 325 K)))))))) := ((xe_istore 14).trans (congrArg (x_istore 14) ((xe_aload 0).trans (congrArg (x_aload 0) ((xe_iload 1).trans (congrArg (x_iload 1) ((xe_iload 8).trans (congrArg (x_iload 8) ((xe_iload 13).trans (congrArg (x_iload 13) ((xe_iload 14).trans (congrArg (x_iload 14) ((xe_if_icmp .eq 323).trans (congrArg (x_if_icmp .eq 323 K) ((xe_iload 11).trans (congrArg (x_iload 11) (xe_goto 325)))))))))))))))))
theorem bk_X11_plan_e_323 : ck_ fX11 (some .int) cX11_plan 323 [.iload 12, .iload 13, .iload 14, .if_icmp .eq 337, .iload 12, .goto 339] 337 = true := qck_r (nn_ _) (by decide +kernel)
theorem bs_X11_plan_e_323 {P : Zt → Option Zv → Prop} (K : Int → Zl → List Zv → Zt → Prop) : sx_ K P [.iload 12, .iload 13, .iload 14, .if_icmp .eq 337, .iload 12, .goto 339] 337 = x_iload 12 (x_iload 13 (x_iload 14 (x_if_icmp .eq 337 K (x_iload 12 (x_goto 339 K))))) := ((xe_iload 12).trans (congrArg (x_iload 12) ((xe_iload 13).trans (congrArg (x_iload 13) ((xe_iload 14).trans (congrArg (x_iload 14) ((xe_if_icmp .eq 337).trans (congrArg (x_if_icmp .eq 337 K) ((xe_iload 12).trans (congrArg (x_iload 12) (xe_goto 339)))))))))))
theorem bk_X11_plan_e_337 : ck_ fX11 (some .int) cX11_plan 337 [.iload 11, .iload 9] 341 = true := qck_r (nn_ _) (by decide +kernel)
theorem bs_X11_plan_e_337 {P : Zt → Option Zv → Prop} (K : Int → Zl → List Zv → Zt → Prop) : sx_ K P [.iload 11, .iload 9] 341 = x_iload 11 (x_iload 9 (K 341)) := ((xe_iload 11).trans (congrArg (x_iload 11) ((xe_iload 9).trans (congrArg (x_iload 9) xe_nil))))
theorem bk_X11_plan_e_344 : ck_ fX11 (some .int) cX11_plan 344 [.iinc 10 1, .goto 201] 350 = true := qck_r (nn_ _) (by decide +kernel)
theorem bs_X11_plan_e_344 {P : Zt → Option Zv → Prop} (K : Int → Zl → List Zv → Zt → Prop) : sx_ K P [.iinc 10 1, .goto 201] 350 = x_iinc 10 1 (x_goto 201 K) := ((xe_iinc 10 1).trans (congrArg (x_iinc 10 1) (xe_goto 201)))
theorem bk_X11_plan_e_325 : ck_ fX11 (some .int) cX11_plan 325 [.iload 13, .iload 14, .if_icmp .eq 337, .iload 12, .goto 339] 337 = true := qck_r (nn_ _) (by decide +kernel)
theorem bs_X11_plan_e_325 {P : Zt → Option Zv → Prop} (K : Int → Zl → List Zv → Zt → Prop) : sx_ K P [.iload 13, .iload 14, .if_icmp .eq 337, .iload 12, .goto 339] 337 = x_iload 13 (x_iload 14 (x_if_icmp .eq 337 K (x_iload 12 (x_goto 339 K)))) := ((xe_iload 13).trans (congrArg (x_iload 13) ((xe_iload 14).trans (congrArg (x_iload 14) ((xe_if_icmp .eq 337).trans (congrArg (x_if_icmp .eq 337 K) ((xe_iload 12).trans (congrArg (x_iload 12) (xe_goto 339)))))))))
theorem bk_X11_plan_e_339 : ck_ fX11 (some .int) cX11_plan 339 [.iload 9] 341 = true := qck_r (nn_ _) (by decide +kernel)
theorem bs_X11_plan_e_339 {P : Zt → Option Zv → Prop} (K : Int → Zl → List Zv → Zt → Prop) : sx_ K P [.iload 9] 341 = x_iload 9 (K 341) := ((xe_iload 9).trans (congrArg (x_iload 9) xe_nil))
theorem bk_X11_plan_e_290 : ck_ fX11 (some .int) cX11_plan 290 [.istore 13, .iload 6, .iconst 2, .irem, .iconst 1, .if_icmp .ne 304, .iconst 1, .goto 305] 304 = true := qck_r (nn_ _) (by decide +kernel)
theorem bs_X11_plan_e_290 {P : Zt → Option Zv → Prop} (K : Int → Zl → List Zv → Zt → Prop) : sx_ K P [.istore 13, .iload 6, .iconst 2, .irem, .iconst 1, .if_icmp .ne 304, .iconst 1, .goto 305] 304 = x_istore 13 (x_iload 6 (x_iconst 2 (x_irem (x_iconst 1 (x_if_icmp .ne 304 K (x_iconst 1 (x_goto 305 K))))))) := ((xe_istore 13).trans (congrArg (x_istore 13) ((xe_iload 6).trans (congrArg (x_iload 6) ((xe_iconst 2).trans (congrArg (x_iconst 2) ((xe_irem).trans (congrArg (x_irem) ((xe_iconst 1).trans (congrArg (x_iconst 1) ((xe_if_icmp .ne 304).trans (congrArg (x_if_icmp .ne 304 K) ((xe_iconst 1).trans (congrArg (x_iconst 1) (xe_goto 305)))))))))))))))
theorem bk_X11_plan_e_304 : ck_ fX11 (some .int) cX11_plan 304 [.iconst 0] 305 = true := qck_r (nn_ _) (by decide +kernel)
theorem bs_X11_plan_e_304 {P : Zt → Option Zv → Prop} (K : Int → Zl → List Zv → Zt → Prop) : sx_ K P [.iconst 0] 305 = x_iconst 0 (K 305) := ((xe_iconst 0).trans (congrArg (x_iconst 0) xe_nil))
theorem bk_X11_plan_e_254 : ck_ fX11 (some .int) cX11_plan 254 [.istore 12, .iload 10, .ifCond .ne 277, .iload 7, .iconst 2, .irem, .iconst 1, .if_icmp .ne 273, .iconst 1, .goto 290] 273 = true := qck_r (nn_ _) (by decide +kernel)
theorem bs_X11_plan_e_254 {P : Zt → Option Zv → Prop} (K : Int → Zl → List Zv → Zt → Prop) : sx_ K P [.istore 12, .iload 10, .ifCond .ne 277, .iload 7, .iconst 2, .irem, .iconst 1, .if_icmp .ne 273, .iconst 1, .goto 290] 273 = x_istore 12 (x_iload 10 (x_ifCond .ne 277 K (x_iload 7 (x_iconst 2 (x_irem (x_iconst 1 (x_if_icmp .ne 273 K (x_iconst 1 (x_goto 290 K))))))))) := ((xe_istore 12).trans (congrArg (x_istore 12) ((xe_iload 10).trans (congrArg (x_iload 10) ((xe_ifCond .ne 277).trans (congrArg (x_ifCond .ne 277 K) ((xe_iload 7).trans (congrArg (x_iload 7) ((xe_iconst 2).trans (congrArg (x_iconst 2) ((xe_irem).trans (congrArg (x_irem) ((xe_iconst 1).trans (congrArg (x_iconst 1) ((xe_if_icmp .ne 273).trans (congrArg (x_if_icmp .ne 273 K) ((xe_iconst 1).trans (congrArg (x_iconst 1) (xe_goto 290)))))))))))))))))))
theorem bk_X11_plan_e_277 : ck_ fX11 (some .int) cX11_plan 277 [.iload 10, .iconst 2, .irem, .iconst 1, .if_icmp .ne 289, .iconst 1, .goto 290] 289 = true := qck_r (nn_ _) (by decide +kernel)
theorem bs_X11_plan_e_277 {P : Zt → Option Zv → Prop} (K : Int → Zl → List Zv → Zt → Prop) : sx_ K P [.iload 10, .iconst 2, .irem, .iconst 1, .if_icmp .ne 289, .iconst 1, .goto 290] 289 = x_iload 10 (x_iconst 2 (x_irem (x_iconst 1 (x_if_icmp .ne 289 K (x_iconst 1 (x_goto 290 K)))))) := ((xe_iload 10).trans (congrArg (x_iload 10) ((xe_iconst 2).trans (congrArg (x_iconst 2) ((xe_irem).trans (congrArg (x_irem) ((xe_iconst 1).trans (congrArg (x_iconst 1) ((xe_if_icmp .ne 289).trans (congrArg (x_if_icmp .ne 289 K) ((xe_iconst 1).trans (congrArg (x_iconst 1) (xe_goto 290)))))))))))))
theorem bk_X11_plan_e_289 : ck_ fX11 (some .int) cX11_plan 289 [.iconst 0] 290 = true := qck_r (nn_ _) (by decide +kernel)
theorem bs_X11_plan_e_289 {P : Zt → Option Zv → Prop} (K : Int → Zl → List Zv → Zt → Prop) : sx_ K P [.iconst 0] 290 = x_iconst 0 (K 290) := ((xe_iconst 0).trans (congrArg (x_iconst 0) xe_nil))
theorem bk_X11_plan_e_273 : ck_ fX11 (some .int) cX11_plan 273 [.iconst 0, .goto 290] 277 = true := qck_r (nn_ _) (by decide +kernel)
theorem bs_X11_plan_e_273 {P : Zt → Option Zv → Prop} (K : Int → Zl → List Zv → Zt → Prop) : sx_ K P [.iconst 0, .goto 290] 277 = x_iconst 0 (x_goto 290 K) := ((xe_iconst 0).trans (congrArg (x_iconst 0) (xe_goto 290)))
theorem bk_X11_plan_e_229 : ck_ fX11 (some .int) cX11_plan 229 [.istore 11, .iload 10, .ifCond .ne 241, .iload 7, .goto 254] 241 = true := qck_r (nn_ _) (by decide +kernel)
theorem bs_X11_plan_e_229 {P : Zt → Option Zv → Prop} (K : Int → Zl → List Zv → Zt → Prop) : sx_ K P [.istore 11, .iload 10, .ifCond .ne 241, .iload 7, .goto 254] 241 = x_istore 11 (x_iload 10 (x_ifCond .ne 241 K (x_iload 7 (x_goto 254 K)))) := ((xe_istore 11).trans (congrArg (x_istore 11) ((xe_iload 10).trans (congrArg (x_iload 10) ((xe_ifCond .ne 241).trans (congrArg (x_ifCond .ne 241 K) ((xe_iload 7).trans (congrArg (x_iload 7) (xe_goto 254)))))))))
theorem bk_X11_plan_e_241 : ck_ fX11 (some .int) cX11_plan 241 [.iload 7, .iload 10, .isub, .iload 3, .iadd, .iconst 1, .isub, .iload 3, .iconst 1, .isub, .irem] 254 = true := qck_r (nn_ _) (by decide +kernel)
theorem bs_X11_plan_e_241 {P : Zt → Option Zv → Prop} (K : Int → Zl → List Zv → Zt → Prop) : sx_ K P [.iload 7, .iload 10, .isub, .iload 3, .iadd, .iconst 1, .isub, .iload 3, .iconst 1, .isub, .irem] 254 = x_iload 7 (x_iload 10 (x_isub (x_iload 3 (x_iadd (x_iconst 1 (x_isub (x_iload 3 (x_iconst 1 (x_isub (x_irem (K 254))))))))))) := ((xe_iload 7).trans (congrArg (x_iload 7) ((xe_iload 10).trans (congrArg (x_iload 10) ((xe_isub).trans (congrArg (x_isub) ((xe_iload 3).trans (congrArg (x_iload 3) ((xe_iadd).trans (congrArg (x_iadd) ((xe_iconst 1).trans (congrArg (x_iconst 1) ((xe_isub).trans (congrArg (x_isub) ((xe_iload 3).trans (congrArg (x_iload 3) ((xe_iconst 1).trans (congrArg (x_iconst 1) ((xe_isub).trans (congrArg (x_isub) ((xe_irem).trans (congrArg (x_irem) xe_nil))))))))))))))))))))))
theorem bk_X11_plan_e_201 : ck_ fX11 (some .int) cX11_plan 201 [.iload 10, .iload 3, .iconst 2, .idiv, .if_icmp .ge 350, .iload 10, .ifCond .ne 220, .iload 3, .iconst 1, .isub, .goto 229] 220 = true := qck_r (nn_ _) (by decide +kernel)
theorem bs_X11_plan_e_201 {P : Zt → Option Zv → Prop} (K : Int → Zl → List Zv → Zt → Prop) : sx_ K P [.iload 10, .iload 3, .iconst 2, .idiv, .if_icmp .ge 350, .iload 10, .ifCond .ne 220, .iload 3, .iconst 1, .isub, .goto 229] 220 = x_iload 10 (x_iload 3 (x_iconst 2 (x_idiv (x_if_icmp .ge 350 K (x_iload 10 (x_ifCond .ne 220 K (x_iload 3 (x_iconst 1 (x_isub (x_goto 229 K)))))))))) := ((xe_iload 10).trans (congrArg (x_iload 10) ((xe_iload 3).trans (congrArg (x_iload 3) ((xe_iconst 2).trans (congrArg (x_iconst 2) ((xe_idiv).trans (congrArg (x_idiv) ((xe_if_icmp .ge 350).trans (congrArg (x_if_icmp .ge 350 K) ((xe_iload 10).trans (congrArg (x_iload 10) ((xe_ifCond .ne 220).trans (congrArg (x_ifCond .ne 220 K) ((xe_iload 3).trans (congrArg (x_iload 3) ((xe_iconst 1).trans (congrArg (x_iconst 1) ((xe_isub).trans (congrArg (x_isub) (xe_goto 229)))))))))))))))))))))
theorem bk_X11_plan_e_350 : ck_ fX11 (some .int) cX11_plan 350 [.iinc 7 1, .goto 170] 356 = true := qck_r (nn_ _) (by decide +kernel)
theorem bs_X11_plan_e_350 {P : Zt → Option Zv → Prop} (K : Int → Zl → List Zv → Zt → Prop) : sx_ K P [.iinc 7 1, .goto 170] 356 = x_iinc 7 1 (x_goto 170 K) := ((xe_iinc 7 1).trans (congrArg (x_iinc 7 1) (xe_goto 170)))
theorem bk_X11_plan_e_220 : ck_ fX11 (some .int) cX11_plan 220 [.iload 7, .iload 10, .iadd, .iload 3, .iconst 1, .isub, .irem] 229 = true := qck_r (nn_ _) (by decide +kernel)
theorem bs_X11_plan_e_220 {P : Zt → Option Zv → Prop} (K : Int → Zl → List Zv → Zt → Prop) : sx_ K P [.iload 7, .iload 10, .iadd, .iload 3, .iconst 1, .isub, .irem] 229 = x_iload 7 (x_iload 10 (x_iadd (x_iload 3 (x_iconst 1 (x_isub (x_irem (K 229))))))) := ((xe_iload 7).trans (congrArg (x_iload 7) ((xe_iload 10).trans (congrArg (x_iload 10) ((xe_iadd).trans (congrArg (x_iadd) ((xe_iload 3).trans (congrArg (x_iload 3) ((xe_iconst 1).trans (congrArg (x_iconst 1) ((xe_isub).trans (congrArg (x_isub) ((xe_irem).trans (congrArg (x_irem) xe_nil))))))))))))))
theorem bk_X11_plan_e_170 : ck_ fX11 (some .int) cX11_plan 170 [.iload 7, .iload 3, .iconst 1, .isub, .if_icmp .ge 356, .iload 6, .iload 3, .iconst 1, .isub, .imul, .iload 7, .iadd, .istore 8, .iload 2, .iload 8, .iload 5, .imul, .iadd, .istore 9, .iconst 0, .istore 10] 201 = true := qck_r (nn_ _) (by decide +kernel)
theorem bs_X11_plan_e_170 {P : Zt → Option Zv → Prop} (K : Int → Zl → List Zv → Zt → Prop) : sx_ K P [.iload 7, .iload 3, .iconst 1, .isub, .if_icmp .ge 356, .iload 6, .iload 3, .iconst 1, .isub, .imul, .iload 7, .iadd, .istore 8, .iload 2, .iload 8, .iload 5, .imul, .iadd, .istore 9, .iconst 0, .istore 10] 201 = x_iload 7 (x_iload 3 (x_iconst 1 (x_isub (x_if_icmp .ge 356 K (x_iload 6 (x_iload 3 (x_iconst 1 (x_isub (x_imul (x_iload 7 (x_iadd (x_istore 8 (x_iload 2 (x_iload 8 (x_iload 5 (x_imul (x_iadd (x_istore 9 (x_iconst 0 (x_istore 10 (K 201))))))))))))))))))))) := ((xe_iload 7).trans (congrArg (x_iload 7) ((xe_iload 3).trans (congrArg (x_iload 3) ((xe_iconst 1).trans (congrArg (x_iconst 1) ((xe_isub).trans (congrArg (x_isub) ((xe_if_icmp .ge 356).trans (congrArg (x_if_icmp .ge 356 K) ((xe_iload 6).trans (congrArg (x_iload 6) ((xe_iload 3).trans (congrArg (x_iload 3) ((xe_iconst 1).trans (congrArg (x_iconst 1) ((xe_isub).trans (congrArg (x_isub) ((xe_imul).trans (congrArg (x_imul) ((xe_iload 7).trans (congrArg (x_iload 7) ((xe_iadd).trans (congrArg (x_iadd) ((xe_istore 8).trans (congrArg (x_istore 8) ((xe_iload 2).trans (congrArg (x_iload 2) ((xe_iload 8).trans (congrArg (x_iload 8) ((xe_iload 5).trans (congrArg (x_iload 5) ((xe_imul).trans (congrArg (x_imul) ((xe_iadd).trans (congrArg (x_iadd) ((xe_istore 9).trans (congrArg (x_istore 9) ((xe_iconst 0).trans (congrArg (x_iconst 0) ((xe_istore 10).trans (congrArg (x_istore 10) xe_nil))))))))))))))))))))))))))))))))))))))))))
theorem bk_X11_plan_e_356 : ck_ fX11 (some .int) cX11_plan 356 [.iinc 6 1, .goto 160] 362 = true := qck_r (nn_ _) (by decide +kernel)
theorem bs_X11_plan_e_356 {P : Zt → Option Zv → Prop} (K : Int → Zl → List Zv → Zt → Prop) : sx_ K P [.iinc 6 1, .goto 160] 362 = x_iinc 6 1 (x_goto 160 K) := ((xe_iinc 6 1).trans (congrArg (x_iinc 6 1) (xe_goto 160)))
theorem bk_X11_plan_e_160 : ck_ fX11 (some .int) cX11_plan 160 [.iload 6, .iload 4, .if_icmp .ge 362, .iconst 0, .istore 7] 170 = true := qck_r (nn_ _) (by decide +kernel)
theorem bs_X11_plan_e_160 {P : Zt → Option Zv → Prop} (K : Int → Zl → List Zv → Zt → Prop) : sx_ K P [.iload 6, .iload 4, .if_icmp .ge 362, .iconst 0, .istore 7] 170 = x_iload 6 (x_iload 4 (x_if_icmp .ge 362 K (x_iconst 0 (x_istore 7 (K 170))))) := ((xe_iload 6).trans (congrArg (x_iload 6) ((xe_iload 4).trans (congrArg (x_iload 4) ((xe_if_icmp .ge 362).trans (congrArg (x_if_icmp .ge 362 K) ((xe_iconst 0).trans (congrArg (x_iconst 0) ((xe_istore 7).trans (congrArg (x_istore 7) xe_nil))))))))))
theorem bk_X11_plan_e_362 : ck_ fX11 (some .int) cX11_plan 362 [.aload 0, .tableswitch 0 11 11 #[], .iload 1, .aload 0, .tableswitch 0 11 29 #[], .aload 0, .tableswitch 0 11 10 #[], .iload 1, .iaload, .isub, .iastore, .aload 0, .tableswitch 0 11 10 #[], .iload 1, .iaload, .ireturn] 386 = true := qck_r (nn_ _) (by decide +kernel)
theorem bs_X11_plan_e_362 {P : Zt → Option Zv → Prop} (K : Int → Zl → List Zv → Zt → Prop) : sx_ K P [.aload 0, .tableswitch 0 11 11 #[], .iload 1, .aload 0, .tableswitch 0 11 29 #[], .aload 0, .tableswitch 0 11 10 #[], .iload 1, .iaload, .isub, .iastore, .aload 0, .tableswitch 0 11 10 #[], .iload 1, .iaload, .ireturn] 386 = x_aload 0 (x_g1 111 211 (x_iload 1 (x_aload 0 (x_g0 111 29 0 400 (x_aload 0 (x_g1 111 210 (x_iload 1 (x_iaload (x_isub (x_iastore (x_aload 0 (x_g1 111 210 (x_iload 1 (x_iaload (x_ireturn P))))))))))))))) := ((xe_aload 0).trans (congrArg (x_aload 0) ((xe_g1 (kk := 111) rfl tl_11_11).trans (congrArg (x_g1 111 211) ((xe_iload 1).trans (congrArg (x_iload 1) ((xe_aload 0).trans (congrArg (x_aload 0) ((xe_g0 (kk := 111) rfl tl_11_29).trans (congrArg (x_g0 111 29 0 400) ((xe_aload 0).trans (congrArg (x_aload 0) ((xe_g1 (kk := 111) rfl tl_11_10).trans (congrArg (x_g1 111 210) ((xe_iload 1).trans (congrArg (x_iload 1) ((xe_iaload).trans (congrArg (x_iaload) ((xe_isub).trans (congrArg (x_isub) ((xe_iastore).trans (congrArg (x_iastore) ((xe_aload 0).trans (congrArg (x_aload 0) ((xe_g1 (kk := 111) rfl tl_11_10).trans (congrArg (x_g1 111 210) ((xe_iload 1).trans (congrArg (x_iload 1) ((xe_iaload).trans (congrArg (x_iaload) (xe_ireturn)))))))))))))))))))))))))))))))
theorem bk_X11_plan_e_140 : ck_ fX11 (some .int) cX11_plan 140 [.aload 0, .tableswitch 0 11 9 #[], .iload 1, .iconst 1, .bastore, .aload 0, .tableswitch 0 11 10 #[], .iload 1, .aload 0, .tableswitch 0 11 29 #[], .iastore, .iconst 0, .istore 6] 160 = true := qck_r (nn_ _) (by decide +kernel)
theorem bs_X11_plan_e_140 {P : Zt → Option Zv → Prop} (K : Int → Zl → List Zv → Zt → Prop) : sx_ K P [.aload 0, .tableswitch 0 11 9 #[], .iload 1, .iconst 1, .bastore, .aload 0, .tableswitch 0 11 10 #[], .iload 1, .aload 0, .tableswitch 0 11 29 #[], .iastore, .iconst 0, .istore 6] 160 = x_aload 0 (x_g1 111 209 (x_iload 1 (x_iconst 1 (x_bastore (x_aload 0 (x_g1 111 210 (x_iload 1 (x_aload 0 (x_g0 111 29 0 400 (x_iastore (x_iconst 0 (x_istore 6 (K 160))))))))))))) := ((xe_aload 0).trans (congrArg (x_aload 0) ((xe_g1 (kk := 111) rfl tl_11_9).trans (congrArg (x_g1 111 209) ((xe_iload 1).trans (congrArg (x_iload 1) ((xe_iconst 1).trans (congrArg (x_iconst 1) ((xe_bastore).trans (congrArg (x_bastore) ((xe_aload 0).trans (congrArg (x_aload 0) ((xe_g1 (kk := 111) rfl tl_11_10).trans (congrArg (x_g1 111 210) ((xe_iload 1).trans (congrArg (x_iload 1) ((xe_aload 0).trans (congrArg (x_aload 0) ((xe_g0 (kk := 111) rfl tl_11_29).trans (congrArg (x_g0 111 29 0 400) ((xe_iastore).trans (congrArg (x_iastore) ((xe_iconst 0).trans (congrArg (x_iconst 0) ((xe_istore 6).trans (congrArg (x_istore 6) xe_nil))))))))))))))))))))))))))
theorem bk_X11_plan_e_0 : ck_ fX11 (some .int) cX11_plan 0 [.iload 1, .aload 0, .tableswitch 0 11 6 #[]] 5 = true := qck_r (nn_ _) (by decide +kernel)
theorem bs_X11_plan_e_0 {P : Zt → Option Zv → Prop} (K : Int → Zl → List Zv → Zt → Prop) : sx_ K P [.iload 1, .aload 0, .tableswitch 0 11 6 #[]] 5 = x_iload 1 (x_aload 0 (x_g0 111 6 0 4 (K 5))) := ((xe_iload 1).trans (congrArg (x_iload 1) ((xe_aload 0).trans (congrArg (x_aload 0) ((xe_g0 (kk := 111) rfl tl_11_6).trans (congrArg (x_g0 111 6 0 4) xe_nil))))))
theorem bk_X11_plan_e_8 : ck_ fX11 (some .int) cX11_plan 8 [.ifCond .ne 14, .iconst (-2), .ireturn] 14 = true := qck_r (nn_ _) (by decide +kernel)
theorem bs_X11_plan_e_8 {P : Zt → Option Zv → Prop} (K : Int → Zl → List Zv → Zt → Prop) : sx_ K P [.ifCond .ne 14, .iconst (-2), .ireturn] 14 = x_ifCond .ne 14 K (x_iconst (-2) (x_ireturn P)) := ((xe_ifCond .ne 14).trans (congrArg (x_ifCond .ne 14 K) ((xe_iconst (-2)).trans (congrArg (x_iconst (-2)) (xe_ireturn)))))
theorem bk_X11_plan_e_14 : ck_ fX11 (some .int) cX11_plan 14 [.iload 2, .aload 0, .tableswitch 0 11 3 #[], .iconst 999] 22 = true := qck_r (nn_ _) (by decide +kernel)
theorem bs_X11_plan_e_14 {P : Zt → Option Zv → Prop} (K : Int → Zl → List Zv → Zt → Prop) : sx_ K P [.iload 2, .aload 0, .tableswitch 0 11 3 #[], .iconst 999] 22 = x_iload 2 (x_aload 0 (x_g0 111 3 0 999 (x_iconst 999 (K 22)))) := ((xe_iload 2).trans (congrArg (x_iload 2) ((xe_aload 0).trans (congrArg (x_aload 0) ((xe_g0 (kk := 111) rfl tl_11_3).trans (congrArg (x_g0 111 3 0 999) ((xe_iconst 999).trans (congrArg (x_iconst 999) xe_nil))))))))
theorem bk_X11_plan_e_25 : ck_ fX11 (some .int) cX11_plan 25 [.ifCond .ne 31, .iconst (-3), .ireturn] 31 = true := qck_r (nn_ _) (by decide +kernel)
theorem bs_X11_plan_e_25 {P : Zt → Option Zv → Prop} (K : Int → Zl → List Zv → Zt → Prop) : sx_ K P [.ifCond .ne 31, .iconst (-3), .ireturn] 31 = x_ifCond .ne 31 K (x_iconst (-3) (x_ireturn P)) := ((xe_ifCond .ne 31).trans (congrArg (x_ifCond .ne 31 K) ((xe_iconst (-3)).trans (congrArg (x_iconst (-3)) (xe_ireturn)))))
theorem bk_X11_plan_e_31 : ck_ fX11 (some .int) cX11_plan 31 [.aload 0, .tableswitch 0 11 8 #[], .iload 1, .iaload, .aload 0, .tableswitch 0 11 8 #[], .iload 1, .iaload, .iconst 2, .irem, .iadd, .istore 3, .aload 0, .iload 1, .iconst 6] 51 = true := qck_r (nn_ _) (by decide +kernel)
theorem bs_X11_plan_e_31 {P : Zt → Option Zv → Prop} (K : Int → Zl → List Zv → Zt → Prop) : sx_ K P [.aload 0, .tableswitch 0 11 8 #[], .iload 1, .iaload, .aload 0, .tableswitch 0 11 8 #[], .iload 1, .iaload, .iconst 2, .irem, .iadd, .istore 3, .aload 0, .iload 1, .iconst 6] 51 = x_aload 0 (x_g1 111 208 (x_iload 1 (x_iaload (x_aload 0 (x_g1 111 208 (x_iload 1 (x_iaload (x_iconst 2 (x_irem (x_iadd (x_istore 3 (x_aload 0 (x_iload 1 (x_iconst 6 (K 51))))))))))))))) := ((xe_aload 0).trans (congrArg (x_aload 0) ((xe_g1 (kk := 111) rfl tl_11_8).trans (congrArg (x_g1 111 208) ((xe_iload 1).trans (congrArg (x_iload 1) ((xe_iaload).trans (congrArg (x_iaload) ((xe_aload 0).trans (congrArg (x_aload 0) ((xe_g1 (kk := 111) rfl tl_11_8).trans (congrArg (x_g1 111 208) ((xe_iload 1).trans (congrArg (x_iload 1) ((xe_iaload).trans (congrArg (x_iaload) ((xe_iconst 2).trans (congrArg (x_iconst 2) ((xe_irem).trans (congrArg (x_irem) ((xe_iadd).trans (congrArg (x_iadd) ((xe_istore 3).trans (congrArg (x_istore 3) ((xe_aload 0).trans (congrArg (x_aload 0) ((xe_iload 1).trans (congrArg (x_iload 1) ((xe_iconst 6).trans (congrArg (x_iconst 6) xe_nil))))))))))))))))))))))))))))))
theorem bk_X11_plan_e_54 : ck_ fX11 (some .int) cX11_plan 54 [.istore 4, .aload 0, .iload 1, .iconst 7] 60 = true := qck_r (nn_ _) (by decide +kernel)
theorem bs_X11_plan_e_54 {P : Zt → Option Zv → Prop} (K : Int → Zl → List Zv → Zt → Prop) : sx_ K P [.istore 4, .aload 0, .iload 1, .iconst 7] 60 = x_istore 4 (x_aload 0 (x_iload 1 (x_iconst 7 (K 60)))) := ((xe_istore 4).trans (congrArg (x_istore 4) ((xe_aload 0).trans (congrArg (x_aload 0) ((xe_iload 1).trans (congrArg (x_iload 1) ((xe_iconst 7).trans (congrArg (x_iconst 7) xe_nil))))))))
theorem bk_X11_plan_e_63 : ck_ fX11 (some .int) cX11_plan 63 [.istore 5, .aload 0, .tableswitch 0 11 9 #[], .iload 1, .baload, .ifCond .ne 103, .aload 0, .tableswitch 0 11 8 #[], .iload 1, .iaload, .iconst 2, .if_icmp .lt 103, .iload 2, .iload 4, .iload 3, .iconst 1, .isub, .imul, .iconst 1, .isub, .iload 5, .imul, .iadd, .iconst 999, .if_icmp .le 106, .iconst (-4), .ireturn] 106 = true := qck_r (nn_ _) (by decide +kernel)
theorem bs_X11_plan_e_63 {P : Zt → Option Zv → Prop} (K : Int → Zl → List Zv → Zt → Prop) : sx_ K P [.istore 5, .aload 0, .tableswitch 0 11 9 #[], .iload 1, .baload, .ifCond .ne 103, .aload 0, .tableswitch 0 11 8 #[], .iload 1, .iaload, .iconst 2, .if_icmp .lt 103, .iload 2, .iload 4, .iload 3, .iconst 1, .isub, .imul, .iconst 1, .isub, .iload 5, .imul, .iadd, .iconst 999, .if_icmp .le 106, .iconst (-4), .ireturn] 106 = x_istore 5 (x_aload 0 (x_g1 111 209 (x_iload 1 (x_baload (x_ifCond .ne 103 K (x_aload 0 (x_g1 111 208 (x_iload 1 (x_iaload (x_iconst 2 (x_if_icmp .lt 103 K (x_iload 2 (x_iload 4 (x_iload 3 (x_iconst 1 (x_isub (x_imul (x_iconst 1 (x_isub (x_iload 5 (x_imul (x_iadd (x_iconst 999 (x_if_icmp .le 106 K (x_iconst (-4) (x_ireturn P)))))))))))))))))))))))))) := ((xe_istore 5).trans (congrArg (x_istore 5) ((xe_aload 0).trans (congrArg (x_aload 0) ((xe_g1 (kk := 111) rfl tl_11_9).trans (congrArg (x_g1 111 209) ((xe_iload 1).trans (congrArg (x_iload 1) ((xe_baload).trans (congrArg (x_baload) ((xe_ifCond .ne 103).trans (congrArg (x_ifCond .ne 103 K) ((xe_aload 0).trans (congrArg (x_aload 0) ((xe_g1 (kk := 111) rfl tl_11_8).trans (congrArg (x_g1 111 208) ((xe_iload 1).trans (congrArg (x_iload 1) ((xe_iaload).trans (congrArg (x_iaload) ((xe_iconst 2).trans (congrArg (x_iconst 2) ((xe_if_icmp .lt 103).trans (congrArg (x_if_icmp .lt 103 K) ((xe_iload 2).trans (congrArg (x_iload 2) ((xe_iload 4).trans (congrArg (x_iload 4) ((xe_iload 3).trans (congrArg (x_iload 3) ((xe_iconst 1).trans (congrArg (x_iconst 1) ((xe_isub).trans (congrArg (x_isub) ((xe_imul).trans (congrArg (x_imul) ((xe_iconst 1).trans (congrArg (x_iconst 1) ((xe_isub).trans (congrArg (x_isub) ((xe_iload 5).trans (congrArg (x_iload 5) ((xe_imul).trans (congrArg (x_imul) ((xe_iadd).trans (congrArg (x_iadd) ((xe_iconst 999).trans (congrArg (x_iconst 999) ((xe_if_icmp .le 106).trans (congrArg (x_if_icmp .le 106 K) ((xe_iconst (-4)).trans (congrArg (x_iconst (-4)) (xe_ireturn)))))))))))))))))))))))))))))))))))))))))))))))))))))
theorem bk_X11_plan_e_103 : ck_ fX11 (some .int) cX11_plan 103 [.iconst (-4), .ireturn] 106 = true := qck_r (nn_ _) (by decide +kernel)
theorem bs_X11_plan_e_103 {P : Zt → Option Zv → Prop} (K : Int → Zl → List Zv → Zt → Prop) : sx_ K P [.iconst (-4), .ireturn] 106 = x_iconst (-4) (x_ireturn P) := ((xe_iconst (-4)).trans (congrArg (x_iconst (-4)) (xe_ireturn)))
theorem bk_X11_plan_e_106 : ck_ fX11 (some .int) cX11_plan 106 [.aload 0, .tableswitch 0 11 29 #[], .iload 4, .aload 0, .tableswitch 0 11 8 #[], .iload 1, .iaload, .aload 0, .tableswitch 0 11 8 #[], .iload 1, .iaload, .iconst 1, .isub, .imul, .iconst 2, .idiv, .imul, .iadd, .iconst 400, .if_icmp .le 140, .iconst (-5), .ireturn] 140 = true := qck_r (nn_ _) (by decide +kernel)
theorem bs_X11_plan_e_106 {P : Zt → Option Zv → Prop} (K : Int → Zl → List Zv → Zt → Prop) : sx_ K P [.aload 0, .tableswitch 0 11 29 #[], .iload 4, .aload 0, .tableswitch 0 11 8 #[], .iload 1, .iaload, .aload 0, .tableswitch 0 11 8 #[], .iload 1, .iaload, .iconst 1, .isub, .imul, .iconst 2, .idiv, .imul, .iadd, .iconst 400, .if_icmp .le 140, .iconst (-5), .ireturn] 140 = x_aload 0 (x_g0 111 29 0 400 (x_iload 4 (x_aload 0 (x_g1 111 208 (x_iload 1 (x_iaload (x_aload 0 (x_g1 111 208 (x_iload 1 (x_iaload (x_iconst 1 (x_isub (x_imul (x_iconst 2 (x_idiv (x_imul (x_iadd (x_iconst 400 (x_if_icmp .le 140 K (x_iconst (-5) (x_ireturn P))))))))))))))))))))) := ((xe_aload 0).trans (congrArg (x_aload 0) ((xe_g0 (kk := 111) rfl tl_11_29).trans (congrArg (x_g0 111 29 0 400) ((xe_iload 4).trans (congrArg (x_iload 4) ((xe_aload 0).trans (congrArg (x_aload 0) ((xe_g1 (kk := 111) rfl tl_11_8).trans (congrArg (x_g1 111 208) ((xe_iload 1).trans (congrArg (x_iload 1) ((xe_iaload).trans (congrArg (x_iaload) ((xe_aload 0).trans (congrArg (x_aload 0) ((xe_g1 (kk := 111) rfl tl_11_8).trans (congrArg (x_g1 111 208) ((xe_iload 1).trans (congrArg (x_iload 1) ((xe_iaload).trans (congrArg (x_iaload) ((xe_iconst 1).trans (congrArg (x_iconst 1) ((xe_isub).trans (congrArg (x_isub) ((xe_imul).trans (congrArg (x_imul) ((xe_iconst 2).trans (congrArg (x_iconst 2) ((xe_idiv).trans (congrArg (x_idiv) ((xe_imul).trans (congrArg (x_imul) ((xe_iadd).trans (congrArg (x_iadd) ((xe_iconst 400).trans (congrArg (x_iconst 400) ((xe_if_icmp .le 140).trans (congrArg (x_if_icmp .le 140 K) ((xe_iconst (-5)).trans (congrArg (x_iconst (-5)) (xe_ireturn)))))))))))))))))))))))))))))))))))))))))))
abbrev po_X11_plan_e (T : Zt) (c f : Int) : Zt → Option Zv → Prop := fun T' r => ∃ x : Int, r = some (vI x) ∧ fr_ [(230, []), (231, []), (232, []), (233, []), (234, []), (235, []), (238, []), (253, []), (255, []), (111, [29]), (209, []), (210, []), (211, [])] T T' ∧ (((x < 0 ∧ T = T') ∨ (0 ≤ c ∧ c < T 111 0 6 ∧ am2_ T T' c ∧ T' 111 0 29 ≤ 400 ∧ T' 210 0 c = T 111 0 29 ∧ T' 211 0 c = T' 111 0 29 - T 111 0 29 ∧ (∀ z, z ≠ c → T' 210 0 z = T 210 0 z ∧ T' 211 0 z = T 211 0 z ∧ T' 209 0 z = T 209 0 z))) ∧ PR9_ T T' c f x)
set_option maxHeartbeats 4000000 in
theorem ct_X11_plan_e {T : Zt} {c f : Int} (hRI : RI_ T) : Ct_ yX11_plan zX11_plan T [vR 111 0, vI c, vI f] (po_X11_plan_e T c f) := by
  refine ct_of pn_11 rfl rfl (Nat.le_of_ble_eq_true rfl) (fun hT hav => ?_)
  have hr_c : -2147483648 ≤ c ∧ c ≤ 2147483647 := hav (vI c) (List.mem_cons_of_mem _ List.mem_cons_self)
  have hr_f : -2147483648 ≤ f ∧ f ≤ 2147483647 := hav (vI f) (List.mem_cons_of_mem _ (List.mem_cons_of_mem _ List.mem_cons_self))
  have hz : zX11_plan.2.2.2.1 = some .boolean → ∀ (T' : Zt) (x : Int), po_X11_plan_e T c f T' (some (vI x)) → 0 ≤ x ∧ x ≤ 1 := fun h => by cases h
  have hb_6 : 0 ≤ T 111 0 6 ∧ T 111 0 6 ≤ 4 := bd_f hT 111 6 tl_11_6 0
  have hb_29 : 0 ≤ T 111 0 29 ∧ T 111 0 29 ≤ 400 := bd_f hT 111 29 tl_11_29 0
  show J_ zX11_plan T (po_X11_plan_e T c f) 0 0 0 [some (vR 111 0), some (vI c), some (vI f), none, none, none, none, none, none, none, none, none, none, none, none] [] T
  have c_140 : ∀ (n : Int) (lg : Int) (ev : Int), (0 ≤ c ∧ c < 4 ∧ c < T 111 0 6 ∧ 2 ≤ T 208 0 c ∧ T 208 0 c ≤ 12 ∧ n = T 208 0 c + T 208 0 c % 2 ∧ 1 ≤ lg ∧ lg ≤ 4 ∧ 1 ≤ ev ∧ ev ≤ 30 ∧ 0 ≤ f ∧ f ≤ 999 ∧ 0 ≤ T 111 0 29) → (f + (lg * (n - 1) - 1) * ev ≤ 999) → (lg = T 205 0 (23 * c + 6) ∧ ev = T 205 0 (23 * c + 7)) → (T 209 0 c = 0 ∧ T 111 0 3 ≤ f) → (T 111 0 29 + lg * (T 208 0 c * (T 208 0 c - 1) / 2) ≤ 400) → J_ zX11_plan T (po_X11_plan_e T c f) 0 0 140 [some (vR 111 0), some (vI c), some (vI f), some (vI n), some (vI lg), some (vI ev), none, none, none, none, none, none, none, none, none] [] T := by
    intro n lg ev ca cb cr pz cc
    have hsum : T 111 0 29 + lg * (n - 1) * (n / 2 - T 208 0 c % 2) ≤ 400 := by
      have z := pl_1 (e := T 208 0 c) (by omega) (by omega)
      have e1 : n = T 208 0 c + T 208 0 c % 2 := by omega
      rw [Int.mul_assoc, e1, z]; exact cc
    have hper : 0 ≤ (n / 2 - T 208 0 c % 2) := by omega
    have hstep : ∀ q : Int, (q + 1) * (n / 2 - T 208 0 c % 2) = q * (n / 2 - T 208 0 c % 2) + (n / 2 - T 208 0 c % 2) := fun q => by rw [Int.add_mul, Int.one_mul]
    have hle : ∀ q : Int, q + 1 ≤ lg * (n - 1) → T 111 0 29 + q * (n / 2 - T 208 0 c % 2) + (n / 2 - T 208 0 c % 2) ≤ 400 := fun q hq => by
      have z := Int.mul_le_mul_of_nonneg_right hq hper
      rw [hstep q] at z; omega
    have hday : ∀ q : Int, 0 ≤ q → q + 1 ≤ lg * (n - 1) → 0 ≤ q * ev ∧ f + q * ev ≤ 999 := fun q h0 hq => by
      have z : q * ev ≤ (lg * (n - 1) - 1) * ev := Int.mul_le_mul_of_nonneg_right (by omega) (by omega)
      have z2 : 0 ≤ q * ev := Int.mul_nonneg h0 (by omega)
      omega
    have c_160 : ∀ (nn : Nat) (leg : Int) (T1 : Zt), ((lg - leg).toNat) ≤ nn → (fr_ [(230, []), (231, []), (232, []), (233, []), (234, []), (235, []), (238, []), (253, []), (255, []), (111, [29]), (209, []), (210, [])] T T1) → (0 ≤ leg ∧ leg ≤ lg) → (T1 111 0 29 ≤ T 111 0 29 + leg * (n - 1) * (n / 2 - T 208 0 c % 2)) → (T1 210 0 c = T 111 0 29 ∧ T1 208 0 c = T1 208 0 c) → ((∀ z, z ≠ c → T1 210 0 z = T 210 0 z ∧ T1 209 0 z = T 209 0 z)) → (am2_ T T1 c) → (T1 209 0 c = 1) → (AR9_ T T1 c (pl9_ (T 208 0 c) (n - 1) f ev leg.toNat)) → J_ zX11_plan T (po_X11_plan_e T c f) 0 0 160 [some (vR 111 0), some (vI c), some (vI f), some (vI n), some (vI lg), some (vI ev), some (vI leg), none, none, none, none, none, none, none, none] [] T1 := by
      intro nn
      induction nn using Nat.strongRecOn with
      | _ nn ih_160 =>
        intro leg T1 hm_160 hf_160 l1 l2 fo rs am pl ar
        replace hm_160 := fun (_ : Unit) => hm_160
        have am1 := am.1
        have c_170 : ∀ (nn : Nat) (r : Int) (T1 : Zt), ((n - 1 - r).toNat) ≤ nn → (fr_ [(230, []), (231, []), (232, []), (233, []), (234, []), (235, []), (238, []), (253, []), (255, []), (111, [29]), (209, []), (210, [])] T T1) → (0 ≤ leg ∧ leg < lg) → (0 ≤ r ∧ r ≤ n - 1) → (T1 111 0 29 ≤ T 111 0 29 + (leg * (n - 1) + r) * (n / 2 - T 208 0 c % 2)) → (T1 210 0 c = T 111 0 29 ∧ T1 208 0 c = T1 208 0 c) → ((∀ z, z ≠ c → T1 210 0 z = T 210 0 z ∧ T1 209 0 z = T 209 0 z)) → (am2_ T T1 c) → (T1 209 0 c = 1) → (AR9_ T T1 c (ll9_ (T 208 0 c) (n - 1) leg f ev r.toNat (pl9_ (T 208 0 c) (n - 1) f ev leg.toNat))) → J_ zX11_plan T (po_X11_plan_e T c f) 0 0 170 [some (vR 111 0), some (vI c), some (vI f), some (vI n), some (vI lg), some (vI ev), some (vI leg), some (vI r), none, none, none, none, none, none, none] [] T1 := by
          intro nn
          induction nn using Nat.strongRecOn with
          | _ nn ih_170 =>
            intro r T1 hm_170 hf_170 rl r1 r2 fo rs am pl ar
            replace hm_170 := fun (_ : Unit) => hm_170
            have hm1 : (leg + 1) * (n - 1) ≤ lg * (n - 1) := Int.mul_le_mul_of_nonneg_right (by omega) (by omega)
            have hm2 : (leg + 1) * (n - 1) = leg * (n - 1) + (n - 1) := by rw [Int.add_mul, Int.one_mul]
            have hm3 := mb_ (a := leg) (b := n - 1) (A := 3) (B := 11) (by omega) (by omega) (by omega) (by omega)
            have hs1 := hstep (leg * (n - 1) + r)
            have hs2 : (leg * (n - 1) + (r + 1)) * (n / 2 - T 208 0 c % 2) = ((leg * (n - 1) + r) + 1) * (n / 2 - T 208 0 c % 2) := by rw [Int.add_assoc]
            have c_201 : ∀ (nn : Nat) (i : Int) (T1 : Zt), ((n / 2 - i).toNat) ≤ nn → (fr_ [(230, []), (231, []), (232, []), (233, []), (234, []), (235, []), (238, []), (253, []), (255, []), (111, [29]), (209, []), (210, [])] T T1) → (r < n - 1) → (0 ≤ i ∧ i ≤ n / 2) → (T1 111 0 29 ≤ T 111 0 29 + (leg * (n - 1) + r) * (n / 2 - T 208 0 c % 2) + i ∧ (T 208 0 c % 2 = 1 → 0 < i → T1 111 0 29 ≤ T 111 0 29 + (leg * (n - 1) + r) * (n / 2 - T 208 0 c % 2) + i - 1)) → (T1 210 0 c = T 111 0 29 ∧ T1 208 0 c = T1 208 0 c) → ((∀ z, z ≠ c → T1 210 0 z = T 210 0 z ∧ T1 209 0 z = T 209 0 z)) → (am2_ T T1 c) → (T1 209 0 c = 1) → (AR9_ T T1 c (rl9_ (T 208 0 c) (n - 1) r (leg % 2) (leg * (n - 1) + r) (f + (leg * (n - 1) + r) * ev) i.toNat (ll9_ (T 208 0 c) (n - 1) leg f ev r.toNat (pl9_ (T 208 0 c) (n - 1) f ev leg.toNat)))) → J_ zX11_plan T (po_X11_plan_e T c f) 0 0 201 [some (vR 111 0), some (vI c), some (vI f), some (vI n), some (vI lg), some (vI ev), some (vI leg), some (vI r), some (vI (leg * (n - 1) + r)), some (vI (f + (leg * (n - 1) + r) * ev)), some (vI i), none, none, none, none] [] T1 := by
              intro nn
              induction nn using Nat.strongRecOn with
              | _ nn ih_201 =>
                intro i T1 hm_201 hf_201 rr i1 i2 fo rs am pl ar
                replace hm_201 := fun (_ : Unit) => hm_201
                have hl1 := hle (leg * (n - 1) + r) (by omega)
                have hd1 := hday (leg * (n - 1) + r) (by omega) (by omega)
                have hd2 := mb_ (a := (leg * (n - 1) + r)) (b := ev) (A := 44) (B := 30) (by omega) (by omega) (by omega) (by omega)
                have c_229 : ∀ (a : Int), (i < n / 2) → (0 ≤ a ∧ a ≤ n - 1 ∧ (i = 0 → a = n - 1)) → (a = pa9_ (n - 1) r i) → J_ zX11_plan T (po_X11_plan_e T c f) 0 0 229 [some (vR 111 0), some (vI c), some (vI f), some (vI n), some (vI lg), some (vI ev), some (vI leg), some (vI r), some (vI (leg * (n - 1) + r)), some (vI (f + (leg * (n - 1) + r) * ev)), some (vI i), none, none, none, none] [vI a] T1 := by
                  intro a a0 a1 a2
                  have c_254 : ∀ (b : Int), (0 ≤ b ∧ b ≤ n - 1) → (b = pb9_ (n - 1) r i) → J_ zX11_plan T (po_X11_plan_e T c f) 0 0 254 [some (vR 111 0), some (vI c), some (vI f), some (vI n), some (vI lg), some (vI ev), some (vI leg), some (vI r), some (vI (leg * (n - 1) + r)), some (vI (f + (leg * (n - 1) + r) * ev)), some (vI i), some (vI a), none, none, none] [vI b] T1 := by
                    intro b b1 b2
                    have c_290 : ∀ (v : Int), (0 ≤ v ∧ v ≤ 1) → (pq9_ r i = v) → J_ zX11_plan T (po_X11_plan_e T c f) 0 0 290 [some (vR 111 0), some (vI c), some (vI f), some (vI n), some (vI lg), some (vI ev), some (vI leg), some (vI r), some (vI (leg * (n - 1) + r)), some (vI (f + (leg * (n - 1) + r) * ev)), some (vI i), some (vI a), some (vI b), none, none] [vI v] T1 := by
                      intro v v1 v2
                      have c_305 : ∀ (w : Int), (0 ≤ w ∧ w ≤ 1) → (leg % 2 = w) → J_ zX11_plan T (po_X11_plan_e T c f) 0 0 305 [some (vR 111 0), some (vI c), some (vI f), some (vI n), some (vI lg), some (vI ev), some (vI leg), some (vI r), some (vI (leg * (n - 1) + r)), some (vI (f + (leg * (n - 1) + r) * ev)), some (vI i), some (vI a), some (vI b), some (vI v), none] [vI w] T1 := by
                        intro w w1 w2
                        refine j_blx (F := fX11) tb_X11 (nn_ _) bk_X11_plan_e_305 bs_X11_plan_e_305 hz (fun K hK => ?_)
                        refine And.intro (fun c1 => ?_) (fun c1 => ?_)
                        · refine hK 323 [some (vR 111 0), some (vI c), some (vI f), some (vI n), some (vI lg), some (vI ev), some (vI leg), some (vI r), some (vI (leg * (n - 1) + r)), some (vI (f + (leg * (n - 1) + r) * ev)), some (vI i), some (vI a), some (vI b), some (vI v), some (vI w)] [vI (leg * (n - 1) + r), vI c, vR 111 0] T1 ?_
                          refine j_blx (F := fX11) tb_X11 (nn_ _) bk_X11_plan_e_323 bs_X11_plan_e_323 hz (fun K hK => ?_)
                          refine And.intro (fun c2 => ?_) (fun c2 => ?_)
                          · refine hK 337 _ [vI b, vI (leg * (n - 1) + r), vI c, vR 111 0] T1 ?_
                            refine j_blx (F := fX11) tb_X11 (nn_ _) bk_X11_plan_e_337 bs_X11_plan_e_337 hz (fun K hK => ?_)
                            refine hK 341 _ [vI (f + (leg * (n - 1) + r) * ev), vI a, vI b, vI (leg * (n - 1) + r), vI c, vR 111 0] T1 ?_
                            have e3 : T1 208 0 c = T 208 0 c := hf_201 208 0 c rfl
                            refine j_callV (y := yX11_addMatch) (Yc := zX11_addMatch) (rest := []) [vI c, vI (leg * (n - 1) + r), vI b, vI a, vI (f + (leg * (n - 1) + r) * ev)] (ct_X11_addMatch_e (T := T1) (by omega) (by omega) (by omega) (by (intro y1 y2; omega))) cl_X11_346 (qd_c (by decide +kernel)) (nn_ _) rfl (rf_of rfl) (Nat.le_of_ble_eq_true rfl) (Nat.le_of_ble_eq_true rfl) (Nat.le_of_ble_eq_true rfl) rfl ?_
                            rintro U4 _ ⟨rfl, fU4, qU4⟩
                            show J_ zX11_plan T (po_X11_plan_e T c f) 0 0 344 _ [] U4
                            refine j_blx (F := fX11) tb_X11 (nn_ _) bk_X11_plan_e_344 bs_X11_plan_e_344 hz (fun K hK => ?_)
                            refine rg_i (by omega) ?_
                            refine hK 201 [some (vR 111 0), some (vI c), some (vI f), some (vI n), some (vI lg), some (vI ev), some (vI leg), some (vI r), some (vI (leg * (n - 1) + r)), some (vI (f + (leg * (n - 1) + r) * ev)), some (vI (i + 1)), some (vI a), some (vI b), some (vI v), some (vI w)] [] U4 ?_
                            refine j_drq [some (vR 111 0), some (vI c), some (vI f), some (vI n), some (vI lg), some (vI ev), some (vI leg), some (vI r), some (vI (leg * (n - 1) + r)), some (vI (f + (leg * (n - 1) + r) * ev)), some (vI (i + 1)), none, none, none, none] (drq_s (drq_s (drq_s (drq_s (drq_s (drq_s (drq_s (drq_s (drq_s (drq_s (drq_s (drq_n (drq_n (drq_n (drq_n drq_0))))))))))))))) ?_
                            have e5 : U4 210 0 c = T1 210 0 c := fU4 210 0 c rfl
                            have e6 : U4 208 0 c = T 208 0 c := (fU4 208 0 c rfl).trans (hf_201 208 0 c rfl)
                            have e7 : U4 209 0 c = T1 209 0 c := fU4 209 0 c rfl
                            refine ih_201 _ ?_ (i + 1) U4 (Nat.le_refl _) ?_ ?_ ?_ ?_ ?_ ?_ ?_ ?_ ?_
                            · have hm_201 := hm_201 (); omega
                            · exact fr_t (fr_t (fr_0 _ _) (fr_s hf_201 rfl)) (fr_s fU4 rfl)
                            · omega
                            · omega
                            · omega
                            · omega
                            · exact fun z hz => ⟨(fU4 210 0 z rfl).trans (rs z hz).1, (fU4 209 0 z rfl).trans (rs z hz).2⟩
                            · rcases qU4 with ⟨-, -, z⟩ | ⟨-, -, -, z, -⟩
                              · rw [← z]; exact am
                              · exact am2_s am z
                            · exact (fU4 209 0 c rfl).trans pl
                            · have e8 : T1 208 0 c = T 208 0 c := hf_201 208 0 c rfl
                              have e7 : ∀ j, T1 207 0 j = T 207 0 j := fun j => hf_201 207 0 j rfl
                              have eh : hm9_ (n - 1) r (leg % 2) i = b ∧ aw9_ (n - 1) r (leg % 2) i = a := by rw [a2, b2]; exact hm9_b (by omega)
                              rw [show (i + 1).toNat = i.toNat + 1 by omega]
                              show AR9_ T U4 c (fa9_ (T 208 0 c) (leg * (n - 1) + r) (f + (leg * (n - 1) + r) * ev) (hm9_ (n - 1) r (leg % 2) (i.toNat : Int)) (aw9_ (n - 1) r (leg % 2) (i.toNat : Int)) (rl9_ (T 208 0 c) (n - 1) r (leg % 2) (leg * (n - 1) + r) (f + (leg * (n - 1) + r) * ev) i.toNat (ll9_ (T 208 0 c) (n - 1) leg f ev r.toNat (pl9_ (T 208 0 c) (n - 1) f ev leg.toNat))))
                              rw [show ((i.toNat : Nat) : Int) = i by omega, eh.1, eh.2]
                              rcases qU4 with ⟨z1, z2, z3⟩ | ⟨z1, z2, z3, z4, z5⟩
                              · rw [fa9_n (by omega), ← z3]
                                exact ar
                              · rw [fa9_y (by omega)]
                                obtain ⟨y1, y2, y3, y4, y5⟩ := z5
                                rw [e7] at y2 y3
                                exact ar9_s ar z3 z4.2.1 ⟨z4.2.2.1, y1, y2, y3, y4, z4.2.2.2.1, y5, z4.2.2.2.2.1, z4.2.2.2.2.2⟩
                          · exfalso; omega
                        · refine hK 325 _ [vI a, vI (leg * (n - 1) + r), vI c, vR 111 0] T1 ?_
                          refine j_blx (F := fX11) tb_X11 (nn_ _) bk_X11_plan_e_325 bs_X11_plan_e_325 hz (fun K hK => ?_)
                          refine And.intro (fun c8 => ?_) (fun c8 => ?_)
                          · exfalso; omega
                          · refine hK 339 _ [vI b, vI a, vI (leg * (n - 1) + r), vI c, vR 111 0] T1 ?_
                            refine j_blx (F := fX11) tb_X11 (nn_ _) bk_X11_plan_e_339 bs_X11_plan_e_339 hz (fun K hK => ?_)
                            refine hK 341 _ [vI (f + (leg * (n - 1) + r) * ev), vI b, vI a, vI (leg * (n - 1) + r), vI c, vR 111 0] T1 ?_
                            have e9 : T1 208 0 c = T 208 0 c := hf_201 208 0 c rfl
                            refine j_callV (y := yX11_addMatch) (Yc := zX11_addMatch) (rest := []) [vI c, vI (leg * (n - 1) + r), vI a, vI b, vI (f + (leg * (n - 1) + r) * ev)] (ct_X11_addMatch_e (T := T1) (by omega) (by omega) (by omega) (by (intro y1 y2; omega))) cl_X11_346 (qd_c (by decide +kernel)) (nn_ _) rfl (rf_of rfl) (Nat.le_of_ble_eq_true rfl) (Nat.le_of_ble_eq_true rfl) (Nat.le_of_ble_eq_true rfl) rfl ?_
                            rintro U10 _ ⟨rfl, fU10, qU10⟩
                            show J_ zX11_plan T (po_X11_plan_e T c f) 0 0 344 _ [] U10
                            refine j_blx (F := fX11) tb_X11 (nn_ _) bk_X11_plan_e_344 bs_X11_plan_e_344 hz (fun K hK => ?_)
                            refine rg_i (by omega) ?_
                            refine hK 201 [some (vR 111 0), some (vI c), some (vI f), some (vI n), some (vI lg), some (vI ev), some (vI leg), some (vI r), some (vI (leg * (n - 1) + r)), some (vI (f + (leg * (n - 1) + r) * ev)), some (vI (i + 1)), some (vI a), some (vI b), some (vI v), some (vI w)] [] U10 ?_
                            refine j_drq [some (vR 111 0), some (vI c), some (vI f), some (vI n), some (vI lg), some (vI ev), some (vI leg), some (vI r), some (vI (leg * (n - 1) + r)), some (vI (f + (leg * (n - 1) + r) * ev)), some (vI (i + 1)), none, none, none, none] (drq_s (drq_s (drq_s (drq_s (drq_s (drq_s (drq_s (drq_s (drq_s (drq_s (drq_s (drq_n (drq_n (drq_n (drq_n drq_0))))))))))))))) ?_
                            have e11 : U10 210 0 c = T1 210 0 c := fU10 210 0 c rfl
                            have e12 : U10 208 0 c = T 208 0 c := (fU10 208 0 c rfl).trans (hf_201 208 0 c rfl)
                            have e13 : U10 209 0 c = T1 209 0 c := fU10 209 0 c rfl
                            refine ih_201 _ ?_ (i + 1) U10 (Nat.le_refl _) ?_ ?_ ?_ ?_ ?_ ?_ ?_ ?_ ?_
                            · have hm_201 := hm_201 (); omega
                            · exact fr_t (fr_t (fr_0 _ _) (fr_s hf_201 rfl)) (fr_s fU10 rfl)
                            · omega
                            · omega
                            · omega
                            · omega
                            · exact fun z hz => ⟨(fU10 210 0 z rfl).trans (rs z hz).1, (fU10 209 0 z rfl).trans (rs z hz).2⟩
                            · rcases qU10 with ⟨-, -, z⟩ | ⟨-, -, -, z, -⟩
                              · rw [← z]; exact am
                              · exact am2_s am z
                            · exact (fU10 209 0 c rfl).trans pl
                            · have e8 : T1 208 0 c = T 208 0 c := hf_201 208 0 c rfl
                              have e7 : ∀ j, T1 207 0 j = T 207 0 j := fun j => hf_201 207 0 j rfl
                              have eh : hm9_ (n - 1) r (leg % 2) i = a ∧ aw9_ (n - 1) r (leg % 2) i = b := by rw [a2, b2]; exact hm9_a (by omega)
                              rw [show (i + 1).toNat = i.toNat + 1 by omega]
                              show AR9_ T U10 c (fa9_ (T 208 0 c) (leg * (n - 1) + r) (f + (leg * (n - 1) + r) * ev) (hm9_ (n - 1) r (leg % 2) (i.toNat : Int)) (aw9_ (n - 1) r (leg % 2) (i.toNat : Int)) (rl9_ (T 208 0 c) (n - 1) r (leg % 2) (leg * (n - 1) + r) (f + (leg * (n - 1) + r) * ev) i.toNat (ll9_ (T 208 0 c) (n - 1) leg f ev r.toNat (pl9_ (T 208 0 c) (n - 1) f ev leg.toNat))))
                              rw [show ((i.toNat : Nat) : Int) = i by omega, eh.1, eh.2]
                              rcases qU10 with ⟨z1, z2, z3⟩ | ⟨z1, z2, z3, z4, z5⟩
                              · rw [fa9_n (by omega), ← z3]
                                exact ar
                              · rw [fa9_y (by omega)]
                                obtain ⟨y1, y2, y3, y4, y5⟩ := z5
                                rw [e7] at y2 y3
                                exact ar9_s ar z3 z4.2.1 ⟨z4.2.2.1, y1, y2, y3, y4, z4.2.2.2.1, y5, z4.2.2.2.2.1, z4.2.2.2.2.2⟩
                      refine j_blx (F := fX11) tb_X11 (nn_ _) bk_X11_plan_e_290 bs_X11_plan_e_290 hz (fun K hK => ?_)
                      refine dv_i (by omega) ?_
                      refine And.intro (fun c14 => ?_) (fun c14 => ?_)
                      · refine hK 304 [some (vR 111 0), some (vI c), some (vI f), some (vI n), some (vI lg), some (vI ev), some (vI leg), some (vI r), some (vI (leg * (n - 1) + r)), some (vI (f + (leg * (n - 1) + r) * ev)), some (vI i), some (vI a), some (vI b), some (vI v), none] [] T1 ?_
                        refine j_blx (F := fX11) tb_X11 (nn_ _) bk_X11_plan_e_304 bs_X11_plan_e_304 hz (fun K hK => ?_)
                        refine hK 305 _ [vI 0] T1 ?_
                        refine c_305 0 ?_ ?_
                        · omega
                        · omega
                      · refine hK 305 _ [vI 1] T1 ?_
                        refine c_305 1 ?_ ?_
                        · omega
                        · omega
                    refine j_blx (F := fX11) tb_X11 (nn_ _) bk_X11_plan_e_254 bs_X11_plan_e_254 hz (fun K hK => ?_)
                    refine And.intro (fun c15 => ?_) (fun c15 => ?_)
                    · refine hK 277 [some (vR 111 0), some (vI c), some (vI f), some (vI n), some (vI lg), some (vI ev), some (vI leg), some (vI r), some (vI (leg * (n - 1) + r)), some (vI (f + (leg * (n - 1) + r) * ev)), some (vI i), some (vI a), some (vI b), none, none] [] T1 ?_
                      refine j_blx (F := fX11) tb_X11 (nn_ _) bk_X11_plan_e_277 bs_X11_plan_e_277 hz (fun K hK => ?_)
                      refine dv_i (by omega) ?_
                      refine And.intro (fun c16 => ?_) (fun c16 => ?_)
                      · refine hK 289 _ [] T1 ?_
                        refine j_blx (F := fX11) tb_X11 (nn_ _) bk_X11_plan_e_289 bs_X11_plan_e_289 hz (fun K hK => ?_)
                        refine hK 290 _ [vI 0] T1 ?_
                        refine c_290 0 ?_ ?_
                        · omega
                        · by_cases z9 : i = 0
                          · rw [z9, pq9_0]; omega
                          · rw [pq9_i z9]; omega
                      · refine hK 290 _ [vI 1] T1 ?_
                        refine c_290 1 ?_ ?_
                        · omega
                        · by_cases z9 : i = 0
                          · rw [z9, pq9_0]; omega
                          · rw [pq9_i z9]; omega
                    · refine dv_i (by omega) ?_
                      refine And.intro (fun c17 => ?_) (fun c17 => ?_)
                      · refine hK 273 _ [] T1 ?_
                        refine j_blx (F := fX11) tb_X11 (nn_ _) bk_X11_plan_e_273 bs_X11_plan_e_273 hz (fun K hK => ?_)
                        refine hK 290 _ [vI 0] T1 ?_
                        refine c_290 0 ?_ ?_
                        · omega
                        · by_cases z9 : i = 0
                          · rw [z9, pq9_0]; omega
                          · rw [pq9_i z9]; omega
                      · refine hK 290 _ [vI 1] T1 ?_
                        refine c_290 1 ?_ ?_
                        · omega
                        · by_cases z9 : i = 0
                          · rw [z9, pq9_0]; omega
                          · rw [pq9_i z9]; omega
                  refine j_blx (F := fX11) tb_X11 (nn_ _) bk_X11_plan_e_229 bs_X11_plan_e_229 hz (fun K hK => ?_)
                  refine And.intro (fun c18 => ?_) (fun c18 => ?_)
                  · refine hK 241 [some (vR 111 0), some (vI c), some (vI f), some (vI n), some (vI lg), some (vI ev), some (vI leg), some (vI r), some (vI (leg * (n - 1) + r)), some (vI (f + (leg * (n - 1) + r) * ev)), some (vI i), some (vI a), none, none, none] [] T1 ?_
                    refine j_blx (F := fX11) tb_X11 (nn_ _) bk_X11_plan_e_241 bs_X11_plan_e_241 hz (fun K hK => ?_)
                    refine rg_i (by omega) ?_
                    refine rg_i (by omega) ?_
                    refine rg_i (by omega) ?_
                    refine rg_i (by omega) ?_
                    refine dv_i (by omega) ?_
                    refine hK 254 _ [vI ((((r - i) + n) - 1) % (n - 1))] T1 ?_
                    refine c_254 ((((r - i) + n) - 1) % (n - 1)) ?_ ?_
                    · (have y := rm_r (x := ((r - i) + n) - 1) (y := n - 1) (by omega) (by omega)); omega
                    · rw [pb9_i (by omega), show r - i + (n - 1) = r - i + n - 1 by omega]
                  · refine hK 254 _ [vI r] T1 ?_
                    refine c_254 r ?_ ?_
                    · omega
                    · rw [show i = 0 by omega]; exact pb9_0.symm
                refine j_blx (F := fX11) tb_X11 (nn_ _) bk_X11_plan_e_201 bs_X11_plan_e_201 hz (fun K hK => ?_)
                refine dv_i (by omega) ?_
                refine And.intro (fun c19 => ?_) (fun c19 => ?_)
                · refine hK 350 _ [] T1 ?_
                  refine j_blx (F := fX11) tb_X11 (nn_ _) bk_X11_plan_e_350 bs_X11_plan_e_350 hz (fun K hK => ?_)
                  refine rg_i (by omega) ?_
                  refine hK 170 [some (vR 111 0), some (vI c), some (vI f), some (vI n), some (vI lg), some (vI ev), some (vI leg), some (vI (r + 1)), some (vI (leg * (n - 1) + r)), some (vI (f + (leg * (n - 1) + r) * ev)), some (vI i), none, none, none, none] [] T1 ?_
                  refine j_drq [some (vR 111 0), some (vI c), some (vI f), some (vI n), some (vI lg), some (vI ev), some (vI leg), some (vI (r + 1)), none, none, none, none, none, none, none] (drq_s (drq_s (drq_s (drq_s (drq_s (drq_s (drq_s (drq_s (drq_n (drq_n (drq_n (drq_n (drq_n (drq_n (drq_n drq_0))))))))))))))) ?_
                  have e20 : T1 208 0 c = T 208 0 c := hf_201 208 0 c rfl
                  refine ih_170 _ ?_ (r + 1) T1 (Nat.le_refl _) ?_ ?_ ?_ ?_ ?_ ?_ ?_ ?_ ?_
                  · have hm_170 := hm_170 (); omega
                  · exact fr_t (fr_0 _ _) (fr_s hf_201 rfl)
                  · omega
                  · omega
                  · omega
                  · omega
                  · exact rs
                  · exact am
                  · exact pl
                  · rw [show i = n / 2 by omega] at ar
                    rw [show (r + 1).toNat = r.toNat + 1 by omega]
                    show AR9_ T T1 c (rl9_ (T 208 0 c) (n - 1) (r.toNat : Int) (leg % 2) (leg * (n - 1) + (r.toNat : Int)) (f + (leg * (n - 1) + (r.toNat : Int)) * ev) ((n - 1 + 1) / 2).toNat (ll9_ (T 208 0 c) (n - 1) leg f ev r.toNat (pl9_ (T 208 0 c) (n - 1) f ev leg.toNat)))
                    rw [show ((r.toNat : Nat) : Int) = r by omega, show ((n - 1 + 1) / 2).toNat = (n / 2).toNat by omega]
                    exact ar
                · refine And.intro (fun c21 => ?_) (fun c21 => ?_)
                  · refine hK 220 [some (vR 111 0), some (vI c), some (vI f), some (vI n), some (vI lg), some (vI ev), some (vI leg), some (vI r), some (vI (leg * (n - 1) + r)), some (vI (f + (leg * (n - 1) + r) * ev)), some (vI i), none, none, none, none] [] T1 ?_
                    refine j_blx (F := fX11) tb_X11 (nn_ _) bk_X11_plan_e_220 bs_X11_plan_e_220 hz (fun K hK => ?_)
                    refine rg_i (by omega) ?_
                    refine rg_i (by omega) ?_
                    refine dv_i (by omega) ?_
                    refine hK 229 _ [vI ((r + i) % (n - 1))] T1 ?_
                    refine c_229 ((r + i) % (n - 1)) ?_ ?_ ?_
                    · omega
                    · (have y := rm_r (x := r + i) (y := n - 1) (by omega) (by omega)); omega
                    · exact (pa9_i (by omega)).symm
                  · refine rg_i (by omega) ?_
                    refine hK 229 _ [vI (n - 1)] T1 ?_
                    refine c_229 (n - 1) ?_ ?_ ?_
                    · omega
                    · omega
                    · rw [show i = 0 by omega]; exact pa9_0.symm
            refine j_blx (F := fX11) tb_X11 (nn_ _) bk_X11_plan_e_170 bs_X11_plan_e_170 hz (fun K hK => ?_)
            refine rg_i (by omega) ?_
            refine And.intro (fun c22 => ?_) (fun c22 => ?_)
            · refine hK 356 _ [] T1 ?_
              refine j_blx (F := fX11) tb_X11 (nn_ _) bk_X11_plan_e_356 bs_X11_plan_e_356 hz (fun K hK => ?_)
              refine rg_i (by omega) ?_
              refine hK 160 [some (vR 111 0), some (vI c), some (vI f), some (vI n), some (vI lg), some (vI ev), some (vI (leg + 1)), some (vI r), none, none, none, none, none, none, none] [] T1 ?_
              refine j_drq [some (vR 111 0), some (vI c), some (vI f), some (vI n), some (vI lg), some (vI ev), some (vI (leg + 1)), none, none, none, none, none, none, none, none] (drq_s (drq_s (drq_s (drq_s (drq_s (drq_s (drq_s (drq_n (drq_n (drq_n (drq_n (drq_n (drq_n (drq_n (drq_n drq_0))))))))))))))) ?_
              have e23 : T1 208 0 c = T 208 0 c := hf_170 208 0 c rfl
              refine ih_160 _ ?_ (leg + 1) T1 (Nat.le_refl _) ?_ ?_ ?_ ?_ ?_ ?_ ?_ ?_
              · have hm_160 := hm_160 (); omega
              · exact fr_t (fr_0 _ _) (fr_s hf_170 rfl)
              · omega
              · (have z : r = n - 1 := by omega); subst z; rw [hm2]; exact r2
              · omega
              · exact rs
              · exact am
              · exact pl
              · rw [show r = n - 1 by omega] at ar
                rw [show (leg + 1).toNat = leg.toNat + 1 by omega]
                show AR9_ T T1 c (ll9_ (T 208 0 c) (n - 1) (leg.toNat : Int) f ev (n - 1).toNat (pl9_ (T 208 0 c) (n - 1) f ev leg.toNat))
                rw [show ((leg.toNat : Nat) : Int) = leg by omega]
                exact ar
            · refine rg_i (by omega) ?_
              refine rg_i (by omega) ?_
              refine rg_i (by omega) ?_
              refine rg_i (by (have z := mb_ (a := (leg * (n - 1) + r)) (b := ev) (A := 44) (B := 30) (by omega) (by omega) (by omega) (by omega)); omega) ?_
              refine rg_i (by (have z := mb_ (a := (leg * (n - 1) + r)) (b := ev) (A := 44) (B := 30) (by omega) (by omega) (by omega) (by omega)); omega) ?_
              refine hK 201 [some (vR 111 0), some (vI c), some (vI f), some (vI n), some (vI lg), some (vI ev), some (vI leg), some (vI r), some (vI ((leg * (n - 1)) + r)), some (vI (f + (((leg * (n - 1)) + r) * ev))), some (vI 0), none, none, none, none] [] T1 ?_
              have e24 : T1 208 0 c = T 208 0 c := hf_170 208 0 c rfl
              refine c_201 _ 0 T1 (Nat.le_refl _) ?_ ?_ ?_ ?_ ?_ ?_ ?_ ?_ ?_
              · exact fr_t (fr_0 _ _) (fr_s hf_170 rfl)
              · omega
              · omega
              · omega
              · omega
              · exact rs
              · exact am
              · exact pl
              · exact ar
        refine j_blx (F := fX11) tb_X11 (nn_ _) bk_X11_plan_e_160 bs_X11_plan_e_160 hz (fun K hK => ?_)
        refine And.intro (fun c25 => ?_) (fun c25 => ?_)
        · have zl2 : leg * (n - 1) * (n / 2 - T 208 0 c % 2) = lg * (n - 1) * (n / 2 - T 208 0 c % 2) := by rw [(by omega : leg = lg)]
          refine hK 362 _ [] T1 ?_
          refine j_blx (F := fX11) tb_X11 (nn_ _) bk_X11_plan_e_362 bs_X11_plan_e_362 hz (fun K hK => ?_)
          intro b26 b26b
          refine ix_i (by omega) ?_
          intro b27 b27b
          refine rg_i (by omega) ?_
          refine iy_i (by omega) (by omega) ?_
          refine x_nm (fun U28 hU28 => ?_)
          have e29 := up_f hU28
          refine ix_i (by omega) ?_
          intro b30 b30b
          have e31 : U28 210 0 c = T1 210 0 c := up_k hU28 (by exact Nat.ne_of_beq_eq_false rfl) 0 c
          rw [e31] at b30 b30b ⊢
          refine (show po_X11_plan_e T c f U28 (some (vI (T1 210 0 c))) from ?_)
          have e32 : U28 111 0 29 = T1 111 0 29 := up_k hU28 (by exact Nat.ne_of_beq_eq_false rfl) 0 29
          have e33 : U28 210 0 c = T1 210 0 c := up_k hU28 (by exact Nat.ne_of_beq_eq_false rfl) 0 c
          have e34 : U28 211 0 c = (T1 111 0 29) - (T1 210 0 c) := up_f hU28
          have el : leg = lg := by omega
          rw [el] at ar
          have ar5 := ar9_k (T2 := U28) ar (fun k j hk => up_k hU28 hk 0 j)
          rw [show (n - 1) = (T 208 0 c + T 208 0 c % 2) - 1 by omega, cr.1, cr.2] at ar5
          have p9 : U28 209 0 c = 1 := (up_k hU28 (by exact Nat.ne_of_beq_eq_false rfl) 0 c).trans pl
          have fe : f + (T 205 0 (23 * c + 6) * ((T 208 0 c + T 208 0 c % 2) - 1) - 1) * T 205 0 (23 * c + 7) ≤ 999 := by have z := cb; rw [cr.1, cr.2, show n = T 208 0 c + T 208 0 c % 2 by omega] at z; exact z
          have ge : T 111 0 29 + T 205 0 (23 * c + 6) * (T 208 0 c * (T 208 0 c - 1) / 2) ≤ 400 := by have z := cc; rw [cr.1] at z; exact z
          have am1 := am.1
          refine ⟨_, rfl, fr_u (fr_t (fr_0 _ _) (fr_s hf_160 rfl)) hU28 rfl, Or.inr ⟨by omega, by omega, ?_, by omega, by omega, by omega, fun z hz => ⟨?_, ?_, ?_⟩⟩, Or.inr ⟨by omega, by omega, pz.1, by omega, fe, ge, by omega, p9, ar5⟩⟩
          · have ek : ∀ k j, k ≠ 211 → U28 k 0 j = T1 k 0 j := fun k j hk => up_k hU28 hk 0 j
            exact ⟨by omega, fun j a => ⟨(ek 230 j (by decide)).trans (am.2.1 j a).1, (ek 231 j (by decide)).trans (am.2.1 j a).2.1, (ek 232 j (by decide)).trans (am.2.1 j a).2.2.1, (ek 233 j (by decide)).trans (am.2.1 j a).2.2.2.1, (ek 234 j (by decide)).trans (am.2.1 j a).2.2.2.2.1, (ek 235 j (by decide)).trans (am.2.1 j a).2.2.2.2.2.1, (ek 238 j (by decide)).trans (am.2.1 j a).2.2.2.2.2.2.1, (ek 253 j (by decide)).trans (am.2.1 j a).2.2.2.2.2.2.2.1, (ek 255 j (by decide)).trans (am.2.1 j a).2.2.2.2.2.2.2.2⟩, fun j a b => by rw [ek 230 j (by decide), ek 235 j (by decide), ek 253 j (by decide), ek 255 j (by decide)]; exact am.2.2.1 j a (by omega), fun j a => (ek 235 j (by decide)).trans (am.2.2.2 j (by omega))⟩
          · exact (up_k hU28 (by exact Nat.ne_of_beq_eq_false rfl) 0 z).trans (rs z hz).1
          · exact (up_g hU28 (fun q => hz q.2.2)).trans (hf_160 211 0 z rfl)
          · exact (up_k hU28 (by exact Nat.ne_of_beq_eq_false rfl) 0 z).trans (rs z hz).2
        · refine hK 170 [some (vR 111 0), some (vI c), some (vI f), some (vI n), some (vI lg), some (vI ev), some (vI leg), some (vI 0), none, none, none, none, none, none, none] [] T1 ?_
          have e35 : T1 208 0 c = T 208 0 c := hf_160 208 0 c rfl
          refine c_170 _ 0 T1 (Nat.le_refl _) ?_ ?_ ?_ ?_ ?_ ?_ ?_ ?_ ?_
          · exact fr_t (fr_0 _ _) (fr_s hf_160 rfl)
          · omega
          · omega
          · rw [Int.add_zero]; exact l2
          · omega
          · exact rs
          · exact am
          · exact pl
          · exact ar
    refine j_blx (F := fX11) tb_X11 (nn_ _) bk_X11_plan_e_140 bs_X11_plan_e_140 hz (fun K hK => ?_)
    refine iy_i (by omega) (by omega) ?_
    refine x_nm (fun U36 hU36 => ?_)
    have e37 := up_f hU36
    intro b38 b38b
    have e39 : U36 111 0 29 = T 111 0 29 := up_k hU36 (by exact Nat.ne_of_beq_eq_false rfl) 0 29
    rw [e39] at b38 b38b ⊢
    refine iy_i (by omega) (by omega) ?_
    refine x_nm (fun U40 hU40 => ?_)
    have e41 := up_f hU40
    refine hK 160 [some (vR 111 0), some (vI c), some (vI f), some (vI n), some (vI lg), some (vI ev), some (vI 0), none, none, none, none, none, none, none, none] [] U40 ?_
    have e42 : U40 111 0 29 = T 111 0 29 := (up_k hU40 (by exact Nat.ne_of_beq_eq_false rfl) 0 29).trans (up_k hU36 (by exact Nat.ne_of_beq_eq_false rfl) 0 29)
    have e43 : U40 210 0 c = T 111 0 29 := up_f hU40
    have e44 : U40 208 0 c = T 208 0 c := (up_k hU40 (by exact Nat.ne_of_beq_eq_false rfl) 0 c).trans (up_k hU36 (by exact Nat.ne_of_beq_eq_false rfl) 0 c)
    have e45 : U40 209 0 c = 1 := (up_k hU40 (by exact Nat.ne_of_beq_eq_false rfl) 0 c).trans (up_f hU36)
    refine c_160 _ 0 U40 (Nat.le_refl _) ?_ ?_ ?_ ?_ ?_ ?_ ?_ ?_
    · exact fr_u (fr_u (fr_0 _ _) hU36 rfl) hU40 rfl
    · omega
    · rw [Int.zero_mul, Int.zero_mul]; omega
    · omega
    · exact fun z hz => ⟨(up_g hU40 (fun q => hz q.2.2)).trans (up_k hU36 (by exact Nat.ne_of_beq_eq_false rfl) 0 z), (up_k hU40 (by exact Nat.ne_of_beq_eq_false rfl) 0 z).trans (up_g hU36 (fun q => hz q.2.2))⟩
    · exact ⟨by omega, fun j a => ⟨(up_k hU40 (by exact Nat.ne_of_beq_eq_false rfl) 0 j).trans (up_k hU36 (by exact Nat.ne_of_beq_eq_false rfl) 0 j), (up_k hU40 (by exact Nat.ne_of_beq_eq_false rfl) 0 j).trans (up_k hU36 (by exact Nat.ne_of_beq_eq_false rfl) 0 j), (up_k hU40 (by exact Nat.ne_of_beq_eq_false rfl) 0 j).trans (up_k hU36 (by exact Nat.ne_of_beq_eq_false rfl) 0 j), (up_k hU40 (by exact Nat.ne_of_beq_eq_false rfl) 0 j).trans (up_k hU36 (by exact Nat.ne_of_beq_eq_false rfl) 0 j), (up_k hU40 (by exact Nat.ne_of_beq_eq_false rfl) 0 j).trans (up_k hU36 (by exact Nat.ne_of_beq_eq_false rfl) 0 j), (up_k hU40 (by exact Nat.ne_of_beq_eq_false rfl) 0 j).trans (up_k hU36 (by exact Nat.ne_of_beq_eq_false rfl) 0 j), (up_k hU40 (by exact Nat.ne_of_beq_eq_false rfl) 0 j).trans (up_k hU36 (by exact Nat.ne_of_beq_eq_false rfl) 0 j), (up_k hU40 (by exact Nat.ne_of_beq_eq_false rfl) 0 j).trans (up_k hU36 (by exact Nat.ne_of_beq_eq_false rfl) 0 j), (up_k hU40 (by exact Nat.ne_of_beq_eq_false rfl) 0 j).trans (up_k hU36 (by exact Nat.ne_of_beq_eq_false rfl) 0 j)⟩, fun j a b => by omega, fun j _ => (up_k hU40 (by exact Nat.ne_of_beq_eq_false rfl) 0 j).trans (up_k hU36 (by exact Nat.ne_of_beq_eq_false rfl) 0 j)⟩
    · exact (up_k hU40 (by exact Nat.ne_of_beq_eq_false rfl) 0 c).trans (up_f hU36)
    · exact ar9_0 ((up_k hU40 (by exact Nat.ne_of_beq_eq_false rfl) 0 29).trans (up_k hU36 (by exact Nat.ne_of_beq_eq_false rfl) 0 29))
  refine j_blx (F := fX11) tb_X11 (nn_ _) bk_X11_plan_e_0 bs_X11_plan_e_0 hz (fun K hK => ?_)
  intro b46 b46b
  refine hK 5 _ [vI (T 111 0 6), vI c] T ?_
  refine j_callS (y := yX11_isOf) (Yc := zX11_isOf) (rest := []) [vI c, vI (T 111 0 6)] (ct_X11_isOf (T := T) (by omega)) cl_X11_317 (qd_c (by decide +kernel)) (nn_ _) rfl (rf_of rfl) (Nat.le_of_ble_eq_true rfl) (Nat.le_of_ble_eq_true rfl) (Nat.le_of_ble_eq_true rfl) rfl ?_
  rintro _ _ ⟨rfl, x47, rfl, hx47⟩
  show J_ zX11_plan T (po_X11_plan_e T c f) 0 0 8 _ [vI x47] T
  refine j_blx (F := fX11) tb_X11 (nn_ _) bk_X11_plan_e_8 bs_X11_plan_e_8 hz (fun K hK => ?_)
  refine And.intro (fun c48 => ?_) (fun c48 => ?_)
  · replace hx47 := hx47.resolve_right (fun z => c48 z.1)
    clear c48
    refine hK 14 _ [] T ?_
    refine j_blx (F := fX11) tb_X11 (nn_ _) bk_X11_plan_e_14 bs_X11_plan_e_14 hz (fun K hK => ?_)
    intro b49 b49b
    refine hK 22 _ [vI 999, vI (T 111 0 3), vI f] T ?_
    refine j_callS (y := yX11_in) (Yc := zX11_in) (rest := []) [vI f, vI (T 111 0 3), vI 999] (ct_X11_in (T := T)) cl_X11_255 (qd_c (by decide +kernel)) (nn_ _) rfl (rf_of rfl) (Nat.le_of_ble_eq_true rfl) (Nat.le_of_ble_eq_true rfl) (Nat.le_of_ble_eq_true rfl) rfl ?_
    rintro _ _ ⟨rfl, x50, rfl, hx50⟩
    show J_ zX11_plan T (po_X11_plan_e T c f) 0 0 25 _ [vI x50] T
    refine j_blx (F := fX11) tb_X11 (nn_ _) bk_X11_plan_e_25 bs_X11_plan_e_25 hz (fun K hK => ?_)
    refine And.intro (fun c51 => ?_) (fun c51 => ?_)
    · replace hx50 := hx50.resolve_right (fun z => c51 z.1)
      clear c51
      refine hK 31 _ [] T ?_
      refine j_blx (F := fX11) tb_X11 (nn_ _) bk_X11_plan_e_31 bs_X11_plan_e_31 hz (fun K hK => ?_)
      refine ix_i (by omega) ?_
      intro b52 b52b
      refine ix_i (by omega) ?_
      intro b53 b53b
      refine dv_i (by omega) ?_
      refine rg_i (by omega) ?_
      refine hK 51 [some (vR 111 0), some (vI c), some (vI f), some (vI ((T 208 0 c) + ((T 208 0 c) % 2))), none, none, none, none, none, none, none, none, none, none, none] [vI 6, vI c, vR 111 0] T ?_
      refine j_callV (y := yX11_rule0) (Yc := zX11_rule0) (rest := []) [vI c, vI 6] (ct_X11_rule0 (T := T) (by omega) (by omega)) cl_X11_321 (qd_c (by decide +kernel)) (nn_ _) rfl (rf_of rfl) (Nat.le_of_ble_eq_true rfl) (Nat.le_of_ble_eq_true rfl) (Nat.le_of_ble_eq_true rfl) rfl ?_
      rintro _ _ ⟨rfl, rfl⟩
      show J_ zX11_plan T (po_X11_plan_e T c f) 0 0 54 _ [vI (T 205 0 (23 * c + 6))] T
      have hr6 : (1 : Int) ≤ T 205 0 (23 * c + 6) ∧ T 205 0 (23 * c + 6) ≤ (4 : Int) := hRI c 6 (by omega) (by omega) (by omega) (by omega)
      have hr7 : (1 : Int) ≤ T 205 0 (23 * c + 7) ∧ T 205 0 (23 * c + 7) ≤ (30 : Int) := hRI c 7 (by omega) (by omega) (by omega) (by omega)
      refine j_blx (F := fX11) tb_X11 (nn_ _) bk_X11_plan_e_54 bs_X11_plan_e_54 hz (fun K hK => ?_)
      refine hK 60 [some (vR 111 0), some (vI c), some (vI f), some (vI ((T 208 0 c) + ((T 208 0 c) % 2))), some (vI (T 205 0 (23 * c + 6))), none, none, none, none, none, none, none, none, none, none] [vI 7, vI c, vR 111 0] T ?_
      refine j_callV (y := yX11_rule0) (Yc := zX11_rule0) (rest := []) [vI c, vI 7] (ct_X11_rule0 (T := T) (by omega) (by omega)) cl_X11_321 (qd_c (by decide +kernel)) (nn_ _) rfl (rf_of rfl) (Nat.le_of_ble_eq_true rfl) (Nat.le_of_ble_eq_true rfl) (Nat.le_of_ble_eq_true rfl) rfl ?_
      rintro _ _ ⟨rfl, rfl⟩
      show J_ zX11_plan T (po_X11_plan_e T c f) 0 0 63 _ [vI (T 205 0 (23 * c + 7))] T
      refine j_blx (F := fX11) tb_X11 (nn_ _) bk_X11_plan_e_63 bs_X11_plan_e_63 hz (fun K hK => ?_)
      refine ix_i (by omega) ?_
      intro b54 b54b
      refine And.intro (fun c55 => ?_) (fun c55 => ?_)
      · refine hK 103 [some (vR 111 0), some (vI c), some (vI f), some (vI ((T 208 0 c) + ((T 208 0 c) % 2))), some (vI (T 205 0 (23 * c + 6))), some (vI (T 205 0 (23 * c + 7))), none, none, none, none, none, none, none, none, none] [] T ?_
        refine j_blx (F := fX11) tb_X11 (nn_ _) bk_X11_plan_e_103 bs_X11_plan_e_103 hz (fun K hK => ?_)
        refine (show po_X11_plan_e T c f T (some (vI (-4))) from ?_)
        exact ⟨_, rfl, fr_0 _ _, Or.inl ⟨by omega, rfl⟩, Or.inl ⟨rfl, Or.inr (Or.inr (Or.inl ⟨by omega, by omega, rfl, by omega⟩))⟩⟩
      · refine ix_i (by omega) ?_
        intro b56 b56b
        refine And.intro (fun c57 => ?_) (fun c57 => ?_)
        · refine hK 103 _ [] T ?_
          refine j_blx (F := fX11) tb_X11 (nn_ _) bk_X11_plan_e_103 bs_X11_plan_e_103 hz (fun K hK => ?_)
          refine (show po_X11_plan_e T c f T (some (vI (-4))) from ?_)
          exact ⟨_, rfl, fr_0 _ _, Or.inl ⟨by omega, rfl⟩, Or.inl ⟨rfl, Or.inr (Or.inr (Or.inl ⟨by omega, by omega, rfl, by omega⟩))⟩⟩
        · refine rg_i (by omega) ?_
          refine rg_i (by (have z := mb_ (a := T 205 0 (23 * c + 6)) (b := T 208 0 c + T 208 0 c % 2 - 1) (A := 4) (B := 11) (by omega) (by omega) (by omega) (by omega)); omega) ?_
          refine rg_i (by (have z := mb_ (a := T 205 0 (23 * c + 6)) (b := T 208 0 c + T 208 0 c % 2 - 1) (A := 4) (B := 11) (by omega) (by omega) (by omega) (by omega)); omega) ?_
          refine rg_i (by (have y := mb_ (a := T 205 0 (23 * c + 6)) (b := T 208 0 c + T 208 0 c % 2 - 1) (A := 4) (B := 11) (by omega) (by omega) (by omega) (by omega)); (have y1 : 1 ≤ T 205 0 (23 * c + 6) * (T 208 0 c + T 208 0 c % 2 - 1) := Int.le_trans (by omega) (Int.mul_le_mul (a := 1) (b := 1) (by omega) (by omega) (by omega) (by omega))); (have z := mb_ (a := T 205 0 (23 * c + 6) * (T 208 0 c + T 208 0 c % 2 - 1) - 1) (b := T 205 0 (23 * c + 7)) (A := 43) (B := 30) (by omega) (by omega) (by omega) (by omega)); omega) ?_
          refine rg_i (by (have y := mb_ (a := T 205 0 (23 * c + 6)) (b := T 208 0 c + T 208 0 c % 2 - 1) (A := 4) (B := 11) (by omega) (by omega) (by omega) (by omega)); (have y1 : 1 ≤ T 205 0 (23 * c + 6) * (T 208 0 c + T 208 0 c % 2 - 1) := Int.le_trans (by omega) (Int.mul_le_mul (a := 1) (b := 1) (by omega) (by omega) (by omega) (by omega))); (have z := mb_ (a := T 205 0 (23 * c + 6) * (T 208 0 c + T 208 0 c % 2 - 1) - 1) (b := T 205 0 (23 * c + 7)) (A := 43) (B := 30) (by omega) (by omega) (by omega) (by omega)); omega) ?_
          refine And.intro (fun c58 => ?_) (fun c58 => ?_)
          · refine hK 106 _ [] T ?_
            refine j_blx (F := fX11) tb_X11 (nn_ _) bk_X11_plan_e_106 bs_X11_plan_e_106 hz (fun K hK => ?_)
            intro b59 b59b
            refine ix_i (by omega) ?_
            intro b60 b60b
            refine ix_i (by omega) ?_
            intro b61 b61b
            refine rg_i (by omega) ?_
            refine rg_i (by (have z := mb_ (a := T 208 0 c) (b := T 208 0 c - 1) (A := 12) (B := 11) (by omega) (by omega) (by omega) (by omega)); omega) ?_
            refine dv_i (by (have z := mb_ (a := T 208 0 c) (b := T 208 0 c - 1) (A := 12) (B := 11) (by omega) (by omega) (by omega) (by omega)); omega) ?_
            refine rg_i (by (have y := mb_ (a := T 208 0 c) (b := T 208 0 c - 1) (A := 12) (B := 11) (by omega) (by omega) (by omega) (by omega)); (have z := mb_ (a := T 205 0 (23 * c + 6)) (b := T 208 0 c * (T 208 0 c - 1) / 2) (A := 4) (B := 66) (by omega) (by omega) (by omega) (by omega)); omega) ?_
            refine rg_i (by (have y := mb_ (a := T 208 0 c) (b := T 208 0 c - 1) (A := 12) (B := 11) (by omega) (by omega) (by omega) (by omega)); (have z := mb_ (a := T 205 0 (23 * c + 6)) (b := T 208 0 c * (T 208 0 c - 1) / 2) (A := 4) (B := 66) (by omega) (by omega) (by omega) (by omega)); omega) ?_
            refine And.intro (fun c62 => ?_) (fun c62 => ?_)
            · refine hK 140 _ [] T ?_
              refine c_140 ((T 208 0 c) + ((T 208 0 c) % 2)) (T 205 0 (23 * c + 6)) (T 205 0 (23 * c + 7)) ?_ ?_ ?_ ?_ ?_
              · omega
              · omega
              · omega
              · omega
              · omega
            · refine (show po_X11_plan_e T c f T (some (vI (-5))) from ?_)
              exact ⟨_, rfl, fr_0 _ _, Or.inl ⟨by omega, rfl⟩, Or.inl ⟨rfl, Or.inr (Or.inr (Or.inr ⟨by omega, by omega, by omega, by omega, by omega, rfl, by omega⟩))⟩⟩
          · refine (show po_X11_plan_e T c f T (some (vI (-4))) from ?_)
            exact ⟨_, rfl, fr_0 _ _, Or.inl ⟨by omega, rfl⟩, Or.inl ⟨rfl, Or.inr (Or.inr (Or.inl ⟨by omega, by omega, rfl, by omega⟩))⟩⟩
    · replace hx50 := hx50.resolve_left (fun z => absurd (c51.symm.trans z.1) (by decide))
      clear c51
      refine (show po_X11_plan_e T c f T (some (vI (-3))) from ?_)
      exact ⟨_, rfl, fr_0 _ _, Or.inl ⟨by omega, rfl⟩, Or.inl ⟨rfl, Or.inr (Or.inl ⟨by omega, rfl, by omega⟩)⟩⟩
  · replace hx47 := hx47.resolve_left (fun z => absurd (c48.symm.trans z.1) (by decide))
    clear c48
    refine (show po_X11_plan_e T c f T (some (vI (-2))) from ?_)
    exact ⟨_, rfl, fr_0 _ _, Or.inl ⟨by omega, rfl⟩, Or.inl ⟨rfl, Or.inl ⟨rfl, by omega⟩⟩⟩
-- entries, fixtures, deductions: alike on both sides
def EN1_ (T : Zt) (c : Int) : Prop := T 100 c 5 = T 208 0 c ∧ T 100 c 6 = T 209 0 c ∧ T 100 c 7 = T 210 0 c ∧ T 100 c 8 = T 211 0 c ∧ (∀ j, 0 ≤ j → j < T 100 c 5 → T 403 c j = T 207 0 (12 * c + j)) ∧ ∀ b, 0 ≤ b → b < 12 → T 404 c b = -1 ∨ (0 ≤ T 404 c b ∧ T 404 c b < T 100 c 5 ∧ T 403 c (T 404 c b) = b)
def ENR_ (T : Zt) : Prop := (∀ c, 0 ≤ c → c < T 106 0 2 → EN1_ T c) ∧ ∀ c, T 106 0 2 ≤ c → c < 4 → T 208 0 c = 0 ∧ T 209 0 c = 0 ∧ T 210 0 c = 0 ∧ T 211 0 c = 0
def MAR_ (T : Zt) : Prop := T 106 0 4 = T 111 0 29 ∧ ∀ m, 0 ≤ m → m < T 106 0 4 → T 102 m 0 = T 230 0 m ∧ T 102 m 2 = T 231 0 m ∧ T 102 m 3 = T 232 0 m ∧ T 102 m 4 = T 233 0 m
def DER_ (T : Zt) : Prop := T 106 0 6 = T 111 0 24 ∧ ∀ i, 0 ≤ i → i < T 106 0 6 → T 527 0 i = T 225 0 i ∧ T 528 0 i = T 226 0 i ∧ T 529 0 i = T 227 0 i ∧ T 530 0 i = T 228 0 i
-- the house's sides of them stay
def ken_ (T T' : Zt) : Prop := (∀ c, T' 100 c 5 = T 100 c 5 ∧ T' 100 c 6 = T 100 c 6 ∧ T' 100 c 7 = T 100 c 7 ∧ T' 100 c 8 = T 100 c 8) ∧ (∀ c j, T' 403 c j = T 403 c j) ∧ ∀ c j, T' 404 c j = T 404 c j
def kem_ (T T' : Zt) : Prop := T' 106 0 4 = T 106 0 4 ∧ ∀ m, T' 102 m 0 = T 102 m 0 ∧ T' 102 m 2 = T 102 m 2 ∧ T' 102 m 3 = T 102 m 3 ∧ T' 102 m 4 = T 102 m 4
def ked_ (T T' : Zt) : Prop := T' 106 0 6 = T 106 0 6 ∧ (∀ j, T' 527 0 j = T 527 0 j) ∧ (∀ j, T' 528 0 j = T 528 0 j) ∧ (∀ j, T' 529 0 j = T 529 0 j) ∧ ∀ j, T' 530 0 j = T 530 0 j
-- the reference's
def krn_ (T T' : Zt) : Prop := (∀ j, T' 207 0 j = T 207 0 j) ∧ ∀ j, T' 208 0 j = T 208 0 j ∧ T' 209 0 j = T 209 0 j ∧ T' 210 0 j = T 210 0 j ∧ T' 211 0 j = T 211 0 j
def krp_ (T T' : Zt) : Prop := T' 111 0 29 = T 111 0 29 ∧ ∀ m, T' 230 0 m = T 230 0 m ∧ T' 231 0 m = T 231 0 m ∧ T' 232 0 m = T 232 0 m ∧ T' 233 0 m = T 233 0 m
def krd_ (T T' : Zt) : Prop := T' 111 0 24 = T 111 0 24 ∧ (∀ j, T' 225 0 j = T 225 0 j) ∧ (∀ j, T' 226 0 j = T 226 0 j) ∧ (∀ j, T' 227 0 j = T 227 0 j) ∧ ∀ j, T' 228 0 j = T 228 0 j
theorem en1_k {T T' : Zt} {c : Int} (h : EN1_ T c) (k : ken_ T T') (r : krn_ T T') : EN1_ T' c := by
  obtain ⟨h1, h2, h3, h4, h5, h6⟩ := h
  obtain ⟨k1, k2, k3⟩ := k
  obtain ⟨r1, r2⟩ := r
  obtain ⟨a1, a2, a3, a4⟩ := k1 c
  obtain ⟨b1, b2, b3, b4⟩ := r2 c
  refine ⟨by omega, by omega, by omega, by omega, fun j p q => ?_, fun b p q => ?_⟩
  · rw [k2, r1]
    exact h5 j p (by omega)
  · rw [k3, a1, k2]
    exact h6 b p q
theorem enr_k {T T' : Zt} (h : ENR_ T) (e : T' 106 0 2 = T 106 0 2) (k : ken_ T T') (r : krn_ T T') : ENR_ T' := by
  refine ⟨fun c a b => en1_k (h.1 c a (by omega)) k r, fun c a b => ?_⟩
  obtain ⟨b1, b2, b3, b4⟩ := r.2 c
  have z := h.2 c (by omega) b
  omega
theorem mar_k {T T' : Zt} (h : MAR_ T) (k : kem_ T T') (r : krp_ T T') : MAR_ T' := by
  obtain ⟨k1, k2⟩ := k
  obtain ⟨r1, r2⟩ := r
  refine ⟨by have := h.1; omega, fun m a b => ?_⟩
  have z := h.2 m a (by omega)
  have y := k2 m
  have x := r2 m
  omega
theorem der_k {T T' : Zt} (h : DER_ T) (k : ked_ T T') (r : krd_ T T') : DER_ T' := by
  obtain ⟨k0, k1, k2, k3, k4⟩ := k
  obtain ⟨r0, r1, r2, r3, r4⟩ := r
  refine ⟨by have := h.1; omega, fun i a b => ?_⟩
  rw [k1, k2, k3, k4, r1, r2, r3, r4]
  exact h.2 i a (by omega)
/-- a club has a seat just when it has entered -/
theorem he9_i {T : Zt} {c b : Int} (h : EN1_ T c) (hk : ∀ j : Int, 0 ≤ j → j < T 100 c 5 → T 404 c (T 403 c j) = j) (hb : 0 ≤ b ∧ b < 12) : T 404 c b ≠ -1 ↔ HE_ T c b := by
  obtain ⟨h1, h2, h3, h4, h5, h6⟩ := h
  constructor
  · intro g
    rcases h6 b hb.1 hb.2 with z | ⟨z1, z2, z3⟩
    · exact absurd z g
    · exact ⟨T 404 c b, z1, by omega, by rw [← h5 _ z1 z2]; exact z3⟩
  · intro g
    obtain ⟨j, a, d, e⟩ := g
    have z := hk j a (by omega)
    rw [h5 j a (by omega), e] at z
    omega
/-- enter on both sides -/
theorem enr_e {T T1 T2 : Zt} {c b x1 x2 : Int} (h : ENR_ T) (hk : KE_ T) (hn : T 106 0 2 = T 111 0 6) (hc : T 108 0 2 = T 111 0 12) (hc12 : T 108 0 2 ≤ 12) (hm : 0 ≤ T 106 0 2 ∧ T 106 0 2 ≤ 4) (ho : T1 106 0 2 = T 106 0 2 ∧ T1 111 0 6 = T 111 0 6 ∧ T1 111 0 12 = T 111 0 12 ∧ ∀ d, T1 100 d 6 = T 100 d 6 ∧ T1 100 d 7 = T 100 d 7 ∧ T1 100 d 8 = T 100 d 8) (d1 : EH9_ T T1 c b x1) (r : krn_ T T1) (hp : T2 106 0 2 = T1 106 0 2 ∧ ∀ j, T2 209 0 j = T1 209 0 j ∧ T2 210 0 j = T1 210 0 j ∧ T2 211 0 j = T1 211 0 j) (d2 : ER9_ T1 T2 c b x2) (k : ken_ T1 T2) (hb5 : ∀ d, 0 ≤ T 100 d 5 ∧ T 100 d 5 ≤ 12) : x1 = x2 ∧ ENR_ T2 := by
  obtain ⟨o1, o2, o3, o4⟩ := ho
  have hHE : ∀ c, 0 ≤ c → c < T 106 0 2 → 0 ≤ b → b < T 108 0 2 → (T 404 c b ≠ -1 ↔ HE_ T1 c b) := fun c p q s t => by
    have e : HE_ T1 c b ↔ HE_ T c b := by
      unfold HE_
      rw [(r.2 c).1]
      constructor
      · rintro ⟨j, z1, z2, z3⟩
        exact ⟨j, z1, z2, by rw [← r.1]; exact z3⟩
      · rintro ⟨j, z1, z2, z3⟩
        exact ⟨j, z1, z2, by rw [r.1]; exact z3⟩
    rw [e]
    exact he9_i (h.1 c p q) (hk c p q) ⟨s, by omega⟩
  rcases d1 with ⟨rfl, a⟩ | ⟨⟨a0, a00⟩, a1, a2, a11, a3, a4⟩
  · rcases d2 with ⟨rfl, f⟩ | ⟨⟨f0, f00⟩, f1, f2, f3, f4⟩
    · refine ⟨?_, h⟩
      rcases a with ⟨a1, a2⟩ | ⟨a0, a1, a2⟩
      · rcases f with ⟨f1, f2⟩ | ⟨f0, f1, f2⟩
        · omega
        · exact absurd (by omega) a2
      · rcases f with ⟨f1, f2⟩ | ⟨f0, f1, f2⟩
        · exact absurd (by omega) f2
        · omega
    · exfalso
      rcases a with ⟨a1, a2⟩ | ⟨a0, a1, a2⟩
      · exact a2 (by omega)
      · have z := (h.1 c a0.1.1 a0.1.2).2.1
        rcases a2 with a2 | a2
        · omega
        · exact f2 ((hHE c a0.1.1 a0.1.2 a0.2.1 a0.2.2).mp a2)
  · have z := h.1 c a0.1 a0.2
    rcases d2 with ⟨e2, f⟩ | ⟨⟨f0, f00⟩, f1, f2, f3, f4⟩
    · exfalso
      rcases f with ⟨f1, f2⟩ | ⟨f0, f1, f2⟩
      · exact f2 (by omega)
      · rcases f2 with f2 | f2
        · have y := (r.2 c).2.1
          have y2 := z.2.1
          omega
        · exact absurd a2 ((hHE c a0.1 a0.2 a00.1 a00.2).mpr f2)
    · obtain ⟨g1, g2, g3, g4, g5, g6⟩ := a4
      obtain ⟨q1, q2, q3, q4⟩ := f4
      obtain ⟨z1, z2, z3, z4, z5, z6⟩ := z
      have r8 := (r.2 c).1
      have e5 : T1 208 0 c = T 100 c 5 := by omega
      refine ⟨by omega, fun d p q => ?_, fun d p q => ?_⟩
      · have kd := k.1 d
        have rd := r.2 d
        have od := o4 d
        have pd := hp.2 d
        have zd := h.1 d p (by omega)
        by_cases y : d = c
        · subst y
          refine ⟨by omega, by omega, by omega, by omega, fun j s t => ?_, fun b2 s t => ?_⟩
          · rw [k.2.1]
            by_cases w : j = T 100 d 5
            · rw [w, g5, ← e5, q4]
            · rw [g3 d j (fun v => w v.2), q3 _ (by omega), r.1]
              exact z5 j s (by omega)
          · rw [k.2.2, kd.1, g1]
            by_cases w : b2 = b
            · rw [w, g6]
              exact Or.inr ⟨(hb5 d).1, by omega, by rw [k.2.1]; exact g5⟩
            · rw [g4 d b2 (fun v => w v.2), k.2.1]
              rcases z6 b2 s t with v | ⟨v1, v2, v3⟩
              · exact Or.inl v
              · exact Or.inr ⟨v1, by omega, by rw [g3 d _ (fun v => by omega)]; exact v3⟩
        · obtain ⟨x1, x2, x3, x4, x5, x6⟩ := zd
          have g2d := g2 d y
          have q2d := q2 d y
          have b5d := hb5 d
          have b5c := hb5 c
          refine ⟨by omega, by omega, by omega, by omega, fun j s t => ?_, fun b2 s t => ?_⟩
          · rw [k.2.1, g3 d j (fun v => y v.1), q3 _ (by omega), r.1]
            exact x5 j s (by omega)
          · rw [k.2.2, kd.1, g2d, g4 d b2 (fun v => y v.1), k.2.1]
            rcases x6 b2 s t with v | ⟨v1, v2, v3⟩
            · exact Or.inl v
            · exact Or.inr ⟨v1, v2, by rw [g3 d _ (fun v => y v.1)]; exact v3⟩
      · have rd := r.2 d
        have pd := hp.2 d
        have zd := h.2 d (by omega) q
        have q2d := q2 d (by omega)
        omega
/-- deduct on both sides -/
theorem der_d {T T1 T2 : Zt} {c b p x1 x2 : Int} (h : DER_ T) (hn : ENR_ T) (hk : KE_ T) (hcc : T 106 0 2 = T 111 0 6) (hc : T 108 0 2 = T 111 0 12) (hd : T 108 0 13 = T 111 0 3) (hc12 : T 108 0 2 ≤ 12) (h6 : 0 ≤ T 106 0 6 ∧ T 106 0 6 ≤ 50) (ho : T1 111 0 6 = T 111 0 6 ∧ T1 111 0 12 = T 111 0 12 ∧ T1 111 0 3 = T 111 0 3) (d1 : DH9_ T T1 c b p x1) (r : krn_ T T1) (rd : krd_ T T1) (d2 : DR9_ T1 T2 c b p x2) (k : ked_ T1 T2) : x1 = x2 ∧ DER_ T2 := by
  obtain ⟨o1, o2, o3⟩ := ho
  obtain ⟨h1, h2⟩ := h
  obtain ⟨rd0, rd1, rd2, rd3, rd4⟩ := rd
  have hHE : ∀ c, 0 ≤ c → c < T 106 0 2 → 0 ≤ b → b < T 108 0 2 → (T 404 c b ≠ -1 ↔ HE_ T1 c b) := fun c p q s t => by
    have e : HE_ T1 c b ↔ HE_ T c b := by
      unfold HE_
      rw [(r.2 c).1]
      constructor
      · rintro ⟨j, z1, z2, z3⟩
        exact ⟨j, z1, z2, by rw [← r.1]; exact z3⟩
      · rintro ⟨j, z1, z2, z3⟩
        exact ⟨j, z1, z2, by rw [r.1]; exact z3⟩
    rw [e]
    exact he9_i (hn.1 c p q) (hk c p q) ⟨s, by omega⟩
  rcases d1 with ⟨rfl, a⟩ | ⟨⟨a0, a00⟩, a1, a2, a3, a4, a5, a6, a7, a8, a9⟩
  · rcases d2 with ⟨rfl, f⟩ | ⟨⟨f0, f00⟩, f1, f2, f3, f4, f5, f6⟩
    · refine ⟨?_, h1, h2⟩
      rcases a with ⟨a1, a2⟩ | ⟨a0, ⟨a1, a2⟩ | ⟨a1, ⟨a2, a3⟩ | ⟨a2, a3, a4⟩⟩⟩
      · rcases f with ⟨f1, f2⟩ | ⟨f0, f1⟩
        · omega
        · exact absurd (by omega) a2
      · rcases f with ⟨f1, f2⟩ | ⟨f0, ⟨f1, f2⟩ | ⟨f1, f2⟩⟩
        · exact absurd (by omega) f2
        · omega
        · exact absurd f1 a2
      · rcases f with ⟨f1, f2⟩ | ⟨f0, ⟨f1, f2⟩ | ⟨f1, ⟨f2, f3⟩ | ⟨f2, f3, f4⟩⟩⟩
        · exact absurd (by omega) f2
        · exact absurd a1 f2
        · omega
        · exact absurd a3 ((hHE c a0.1.1 a0.1.2 a0.2.1 a0.2.2).mpr f2)
      · rcases f with ⟨f1, f2⟩ | ⟨f0, ⟨f1, f2⟩ | ⟨f1, ⟨f2, f3⟩ | ⟨f2, f3, f4⟩⟩⟩
        · exact absurd (by omega) f2
        · exact absurd a1 f2
        · exact absurd ((hHE c a0.1.1 a0.1.2 a0.2.1 a0.2.2).mp a2) f3
        · omega
    · exfalso
      rcases a with ⟨a1, a2⟩ | ⟨a0, ⟨a1, a2⟩ | ⟨a1, ⟨a2, a3⟩ | ⟨a2, a3, a4⟩⟩⟩
      · exact a2 (by omega)
      · exact a2 f1
      · exact absurd a3 ((hHE c a0.1.1 a0.1.2 a0.2.1 a0.2.2).mpr f2)
      · omega
  · have g := (hHE c a0.1 a0.2 a00.1 a00.2).mp a2
    rcases d2 with ⟨e2, f⟩ | ⟨⟨f0, f00⟩, f1, f2, f3, f4, f5, f6, f7, f8, f9⟩
    · exfalso
      rcases f with ⟨f1, f2⟩ | ⟨f0, ⟨f1, f2⟩ | ⟨f1, ⟨f2, f3⟩ | ⟨f2, f3, f4⟩⟩⟩
      · exact f2 (by omega)
      · exact f2 a1
      · exact f3 g
      · omega
    · obtain ⟨k0, k1, k2, k3, k4⟩ := k
      have e24 : T1 111 0 24 = T 106 0 6 := by omega
      rw [e24] at f6 f7 f8 f9
      refine ⟨by omega, by omega, fun i s t => ?_⟩
      rw [k1, k2, k3, k4]
      by_cases w : i = T 106 0 6
      · rw [w, a6.1, a7.1, a8.1, a9.1, f6.1, f7.1, f8.1, f9.1]
        exact ⟨rfl, rfl, rfl, by omega⟩
      · rw [a6.2 i w, a7.2 i w, a8.2 i w, a9.2 i w, f6.2 i w, f7.2 i w, f8.2 i w, f9.2 i w, rd1, rd2, rd3, rd4]
        exact h2 i s (by omega)
-- plan on both sides
def FO9_ (e : Int) (q : Fx9_) : Prop := (0 ≤ q.2.1 ∧ q.2.1 < e) ∧ 0 ≤ q.2.2.1 ∧ q.2.2.1 < e
theorem pp9_p {L r i : Int} (hL : 0 < L) (hr : 0 ≤ r) : 0 ≤ pa9_ L r i ∧ 0 ≤ pb9_ L r i := by
  by_cases z : i = 0
  · rw [z, pa9_0, pb9_0]
    omega
  · rw [pa9_i z, pb9_i z]
    exact ⟨Int.emod_nonneg _ (by omega), Int.emod_nonneg _ (by omega)⟩
theorem hm9_p {L r u i : Int} (hL : 0 < L) (hr : 0 ≤ r) : 0 ≤ hm9_ L r u i ∧ 0 ≤ aw9_ L r u i := by
  have h := pp9_p (i := i) hL hr
  by_cases z : pq9_ r i = u
  · rw [(hm9_b z).1, (hm9_b z).2]
    exact ⟨h.2, h.1⟩
  · rw [(hm9_a z).1, (hm9_a z).2]
    exact h
theorem rl9_m {e L r u rd dt : Int} {l : List Fx9_} (hL : 0 < L) (hr : 0 ≤ r) (h : ∀ q ∈ l, FO9_ e q) : ∀ i : Nat, ∀ q ∈ rl9_ e L r u rd dt i l, FO9_ e q
  | 0 => h
  | i + 1 => by
      have g := rl9_m (u := u) (rd := rd) (dt := dt) hL hr h i
      have p := hm9_p (u := u) (i := i) hL hr
      show ∀ q ∈ fa9_ e rd dt (hm9_ L r u i) (aw9_ L r u i) (rl9_ e L r u rd dt i l), FO9_ e q
      by_cases z : hm9_ L r u i < e ∧ aw9_ L r u i < e
      · rw [fa9_y z]
        intro q hq
        rcases List.mem_append.mp hq with hq | hq
        · exact g q hq
        · rw [List.mem_singleton.mp hq]
          exact ⟨⟨p.1, z.1⟩, p.2, z.2⟩
      · rw [fa9_n z]
        exact g
theorem ll9_m {e L g f E : Int} {l : List Fx9_} (hL : 0 < L) (h : ∀ q ∈ l, FO9_ e q) : ∀ r : Nat, ∀ q ∈ ll9_ e L g f E r l, FO9_ e q
  | 0 => h
  | r + 1 => rl9_m hL (Int.natCast_nonneg r) (ll9_m hL h r) _
theorem pl9_m {e L f E : Int} (hL : 0 < L) : ∀ g : Nat, ∀ q ∈ pl9_ e L f E g, FO9_ e q
  | 0 => fun q hq => by cases hq
  | g + 1 => ll9_m hL (pl9_m hL g) _
/-- what plan leaves of the reference's rows -/
def PQ9_ (T T' : Zt) (c : Int) : Prop := am2_ T T' c ∧ T' 210 0 c = T 111 0 29 ∧ T' 211 0 c = T' 111 0 29 - T 111 0 29 ∧ (∀ z, z ≠ c → T' 210 0 z = T 210 0 z ∧ T' 211 0 z = T 211 0 z ∧ T' 209 0 z = T 209 0 z) ∧ (∀ j, T' 207 0 j = T 207 0 j) ∧ ∀ j, T' 208 0 j = T 208 0 j
theorem enr_p {T T1 T2 : Zt} {c f x1 x2 : Int} (h : ENR_ T) (hm : MAR_ T) (ht : TXR_ T) (hd : T 108 0 13 = T 111 0 3) (hd0 : 0 ≤ T 108 0 13) (h0 : 0 ≤ T 106 0 4) (hN : T 106 0 2 ≤ 4) (hb5 : ∀ d, 0 ≤ T 100 d 5 ∧ T 100 d 5 ≤ 12) (d1 : PH9_ T T1 c f x1) (r : krn_ T T1) (rp : krp_ T T1) (rt : ktr_ T T1) (r3 : T1 111 0 3 = T 111 0 3) (hi : T1 106 0 2 = T 106 0 2) (d2 : PR9_ T1 T2 c f x2) (s2 : (x2 < 0 ∧ T2 = T1) ∨ PQ9_ T1 T2 c) (k : ken_ T1 T2) (km : kem_ T1 T2) (hi2 : T2 106 0 2 = T1 106 0 2) : x1 = x2 ∧ ENR_ T2 ∧ MAR_ T2 := by
  obtain ⟨t1, t2, t3, t4, t5⟩ := ht
  by_cases hc : 0 ≤ c ∧ c < T 106 0 2
  · obtain ⟨z1, z2, z3, z4, z5, z6⟩ := h.1 c hc.1 hc.2
    have tc := (t5 c hc.1 hc.2).1
    have q6 := tc 6 (by omega) (by omega)
    have q7 := tc 7 (by omega) (by omega)
    have rc := r.2 c
    have e8 : T1 208 0 c = T 100 c 5 := by omega
    have e9 : T1 209 0 c = T 100 c 6 := by omega
    have e6 : T1 205 0 (23 * c + 6) = T 401 c 6 := by rw [rt.2.2.2.2]; omega
    have e7 : T1 205 0 (23 * c + 7) = T 401 c 7 := by rw [rt.2.2.2.2]; omega
    have am := an9_m (x := T 100 c 5) (by have := hb5 c; omega)
    have e29 : T1 111 0 29 = T 106 0 4 := by have := rp.1; have := hm.1; omega
    unfold PR9_ at d2
    rw [e8, e9, e6, e7, e29, r3, ← hd, Int.mul_comm (T 401 c 6) (T 100 c 5 + T 100 c 5 % 2 - 1), Int.mul_comm (T 401 c 6) (T 100 c 5 * (T 100 c 5 - 1) / 2)] at d2
    unfold PH9_ at d1
    rw [am] at d1
    have hc2 : 0 ≤ c ∧ c < T1 111 0 6 := by have := rt.2.2.1; omega
    have both : x1 = x2 ∧ ((T1 = T ∧ T2 = T1) ∨ (SJ_ T T1 c ∧ PQ9_ T1 T2 c ∧ T2 209 0 c = 1 ∧ 2 ≤ T 100 c 5 ∧ AP9_ T T1 c (pl9_ (T 100 c 5) (T 100 c 5 + T 100 c 5 % 2 - 1) f (T 401 c 7) (T 401 c 6).toNat) ∧ AR9_ T1 T2 c (pl9_ (T 100 c 5) (T 100 c 5 + T 100 c 5 % 2 - 1) f (T 401 c 7) (T 401 c 6).toNat))) := by
      rcases d1 with ⟨a0, a⟩ | ⟨a1, a2, a3, a4, a5, a6, a7, a8, a9⟩
      · rcases d2 with ⟨b0, b⟩ | ⟨b1, b2, b3, b4, b5, b6, b7, b8, b9⟩
        · exact ⟨by omega, Or.inl ⟨a0, b0⟩⟩
        · exfalso
          omega
      · rcases d2 with ⟨b0, b⟩ | ⟨b1, b2, b3, b4, b5, b6, b7, b8, b9⟩
        · exfalso
          omega
        · exact ⟨by omega, Or.inr ⟨a8, s2.resolve_left (fun z => by omega), b8, by omega, a9, b9⟩⟩
    obtain ⟨hx, g⟩ := both
    refine ⟨hx, ?_⟩
    rcases g with ⟨rfl, rfl⟩ | ⟨g1, g2, g3, g4, g5, g6⟩
    · exact ⟨h, hm⟩
    · obtain ⟨⟨-, -, -⟩, fj, od, -, ⟨s6, s7, s8⟩, oc⟩ := g1
      obtain ⟨am2, p1, p2, p3, p4, p5⟩ := g2
      refine ⟨⟨fun d p q => ?_, fun d p q => ?_⟩, ?_, fun m p q => ?_⟩
      · have kd := k.1 d
        have rd := r.2 d
        have p5d := p5 d
        by_cases y : d = c
        · subst y
          have fj5 : T1 100 d 5 = T 100 d 5 := fj 100 d 5 rfl
          have l1 := g5.1
          have l2 := g6.1
          refine ⟨by omega, by omega, by omega, by omega, fun j s t => ?_, fun b s t => ?_⟩
          · rw [k.2.1, fj 403 d j rfl, p4, r.1]
            exact z5 j s (by omega)
          · rw [k.2.2, kd.1, fj5, k.2.1, fj 404 d b rfl, fj 403 d _ rfl]
            exact z6 b s t
        · obtain ⟨x1, x2, x3, x4, x5, x6⟩ := h.1 d p (by omega)
          have o5 := oc d 5 y
          have o6 := oc d 6 y
          have o7 := oc d 7 y
          have o8 := oc d 8 y
          have pd := p3 d y
          refine ⟨by omega, by omega, by omega, by omega, fun j s t => ?_, fun b s t => ?_⟩
          · rw [k.2.1, fj 403 d j rfl, p4, r.1]
            exact x5 j s (by omega)
          · rw [k.2.2, kd.1, o5, k.2.1, fj 404 d b rfl, fj 403 d _ rfl]
            exact x6 b s t
      · have rd := r.2 d
        have pd := p3 d (by omega)
        have p5d := p5 d
        have zd := h.2 d (by omega) q
        omega
      · have l1 := g5.1
        have l2 := g6.1
        have y := km.1
        omega
      · have l1 := g5.1
        have l2 := g6.1
        have y := km.1
        have km2 := km.2 m
        by_cases w : m < T 106 0 4
        · have a := am2.2.1 m (by omega)
          have b := rp.2 m
          have o0 := od m 0 w
          have o2 := od m 2 w
          have o3 := od m 3 w
          have o4 := od m 4 w
          have x := hm.2 m p w
          omega
        · have hk : (m - T 106 0 4).toNat < (pl9_ (T 100 c 5) (T 100 c 5 + T 100 c 5 % 2 - 1) f (T 401 c 7) (T 401 c 6).toNat).length := by omega
          have hq := List.getElem?_eq_getElem hk
          have a := g5.2 _ _ hq
          have b := g6.2 _ _ hq
          have fo := pl9_m (e := T 100 c 5) (f := f) (E := T 401 c 7) (show 0 < T 100 c 5 + T 100 c 5 % 2 - 1 by omega) _ _ (List.getElem_mem hk)
          rw [show T 106 0 4 + (((m - T 106 0 4).toNat : Nat) : Int) = m by omega] at a
          rw [e29, show T 106 0 4 + (((m - T 106 0 4).toNat : Nat) : Int) = m by omega, r.1, r.1, ← z5 _ fo.1.1 fo.1.2, ← z5 _ fo.2.1 fo.2.2] at b
          omega
  · have a : T1 = T ∧ x1 = -2 := by
      rcases d1 with ⟨a0, a⟩ | ⟨a1, _⟩
      · exact ⟨a0, by omega⟩
      · exact absurd a1 hc
    have b : T2 = T1 ∧ x2 = -2 := by
      have := rt.2.2.1
      rcases d2 with ⟨b0, b⟩ | ⟨b1, _⟩
      · exact ⟨b0, by omega⟩
      · exact absurd b1 (by omega)
    obtain ⟨rfl, a2⟩ := a
    obtain ⟨rfl, b2⟩ := b
    exact ⟨by omega, h, hm⟩
/-- a competition on both sides: its entries -/
theorem enr_c {T T1 T2 : Zt} (h : ENR_ T) (h0 : 0 ≤ T 106 0 2) (hq : (T1 106 0 2 = T 106 0 2 ∧ ken_ T T1) ∨ (nc_ T T1 ∧ ∀ j, 0 ≤ j → j < 12 → T1 404 (T 106 0 2) j = -1)) (r : krn_ T T1) (k : ken_ T1 T2) (r2 : krn_ T1 T2) (hi2 : T2 106 0 2 = T1 106 0 2) : ENR_ T2 := by
  refine enr_k (T := T1) ?_ hi2 k r2
  rcases hq with ⟨e, k1⟩ | ⟨⟨f, ⟨n1, n2⟩, ho, -, -, ⟨y5, y6, y7, y8⟩, -⟩, hs⟩
  · exact enr_k h e k1 r
  · refine ⟨fun c a b => ?_, fun c a b => ?_⟩
    · have rc := r.2 c
      by_cases z : c = T 106 0 2
      · subst z
        have z0 := h.2 _ (Int.le_refl _) n2
        refine ⟨by omega, by omega, by omega, by omega, fun j p q => by omega, fun d p q => Or.inl (hs d p q)⟩
      · obtain ⟨x1, x2, x3, x4, x5, x6⟩ := h.1 c a (by omega)
        have o5 := ho 100 c 5 (Or.inl rfl) z
        have o6 := ho 100 c 6 (Or.inl rfl) z
        have o7 := ho 100 c 7 (Or.inl rfl) z
        have o8 := ho 100 c 8 (Or.inl rfl) z
        have o3 : ∀ j, T1 403 c j = T 403 c j := fun j => ho 403 c j (Or.inr (Or.inr (Or.inr (Or.inl rfl)))) z
        have o4 : ∀ j, T1 404 c j = T 404 c j := fun j => ho 404 c j (Or.inr (Or.inr (Or.inr (Or.inr rfl)))) z
        refine ⟨by omega, by omega, by omega, by omega, fun j p q => ?_, fun d p q => ?_⟩
        · rw [o3, r.1]
          exact x5 j p (by omega)
        · rw [o4, o5, o3]
          exact x6 d p q
    · have rc := r.2 c
      have zc := h.2 c (by omega) b
      omega
def ENA_ (T : Zt) : Prop := ENR_ T ∧ MAR_ T ∧ DER_ T
section WEZ
variable {ws : List (Nat × List Int)} {T T' : Zt}
end WEZ
theorem ch9_s {T T' : Zt} {x : Int} (h : CH9_ T T' x) (n : nc_ T T') (j : Int) (a : 0 ≤ j) (b : j < 12) : T' 404 (T 106 0 2) j = -1 := by
  have n1 := n.2.1
  rcases h with ⟨-, -, -, -, h⟩ | ⟨-, -, ⟨h, -⟩ | ⟨-, -, -, -, h, -⟩⟩
  · omega
  · omega
  · exact h j a b
/-- places apart -/
def dj_ : List (Nat × List Int) → List (Nat × List Int) → Bool
  | [], _ => true
  | (k, l) :: r, F => (match l with
    | [] => F.all fun q => q.1 != k
    | l => l.all fun j => !(fw_ F k j)) && dj_ r F
theorem fw_no {F : List (Nat × List Int)} {k : Nat} (h : (F.all fun q => q.1 != k) = true) (j : Int) : fw_ F k j = false := by
  induction F with
  | nil => rfl
  | cons q r ih =>
    obtain ⟨k', l⟩ := q
    simp only [List.all_cons, Bool.and_eq_true, bne_iff_ne, ne_eq] at h
    unfold fw_
    rw [ih (by simpa using h.2)]
    have z : (k == k') = false := by
      rw [beq_eq_false_iff_ne]
      exact fun e => h.1 e.symm
    rw [z]
    rfl
theorem dj_s {a F : List (Nat × List Int)} (h : dj_ a F = true) {k : Nat} {j : Int} (w : fw_ a k j = true) : fw_ F k j = false := by
  induction a with
  | nil => simp [fw_] at w
  | cons q r ih =>
    obtain ⟨k', l⟩ := q
    unfold dj_ at h
    unfold fw_ at w
    simp only [Bool.and_eq_true] at h
    simp only [Bool.or_eq_true, Bool.and_eq_true, beq_iff_eq] at w
    rcases w with ⟨rfl, w⟩ | w
    · cases l with
      | nil => exact fw_no h.1 j
      | cons x t =>
        have h1 := List.all_eq_true.mp h.1 j (by simpa using w)
        simpa using h1
    · exact ih h.2 w
/-- what a footprint names is as it was -/
def ks_ (F : List (Nat × List Int)) (T T' : Zt) : Prop := ∀ k i j, fw_ F k j = true → T' k i j = T k i j
theorem ks_f {a F : List (Nat × List Int)} {T T' : Zt} (f : fr_ a T T') (h : dj_ a F = true) : ks_ F T T' := fun k i j w => f k i j (by
  cases z : fw_ a k j
  · rfl
  · rw [dj_s h z] at w
    cases w)
theorem ks_t {F : List (Nat × List Int)} {T T1 T2 : Zt} (a : ks_ F T T1) (b : ks_ F T1 T2) : ks_ F T T2 := fun k i j w => (b k i j w).trans (a k i j w)
theorem ks_s {F G : List (Nat × List Int)} {T T' : Zt} (h : ks_ G T T') (s : fs_ F G = true) : ks_ F T T' := fun k i j w => h k i j (fs_sub s w)
-- breaks: one count for both sides (how many; the last side, -1 none)
def bs9_ (H : Int → Int) (b m : Int) : Int := if H m = b then 0 else 1
def bk9_ (H A : Int → Int) (b f : Int) : Nat → Int × Int
  | 0 => (0, -1)
  | k + 1 => if H (f + k) = b ∨ A (f + k) = b then ((bk9_ H A b f k).1 + (if bs9_ H b (f + k) = (bk9_ H A b f k).2 then 1 else 0), bs9_ H b (f + k)) else bk9_ H A b f k
theorem bk9_t {H A : Int → Int} {b f k : Int} (hk : 0 ≤ k) (c : H (f + k) = b ∨ A (f + k) = b) : bk9_ H A b f (k + 1).toNat = ((bk9_ H A b f k.toNat).1 + (if bs9_ H b (f + k) = (bk9_ H A b f k.toNat).2 then 1 else 0), bs9_ H b (f + k)) := by
  rw [show (k + 1).toNat = k.toNat + 1 by omega]
  show (if H (f + (k.toNat : Int)) = b ∨ A (f + (k.toNat : Int)) = b then _ else _) = _
  rw [show ((k.toNat : Nat) : Int) = k by omega, if_pos c]
theorem bk9_f {H A : Int → Int} {b f k : Int} (hk : 0 ≤ k) (c : ¬ (H (f + k) = b ∨ A (f + k) = b)) : bk9_ H A b f (k + 1).toNat = bk9_ H A b f k.toNat := by
  rw [show (k + 1).toNat = k.toNat + 1 by omega]
  show (if H (f + (k.toNat : Int)) = b ∨ A (f + (k.toNat : Int)) = b then _ else _) = _
  rw [show ((k.toNat : Nat) : Int) = k by omega, if_neg c]
theorem bk9_e {H A H2 A2 : Int → Int} {b f : Int} : ∀ n : Nat, (∀ j, f ≤ j → j < f + n → H j = H2 j ∧ A j = A2 j) → bk9_ H A b f n = bk9_ H2 A2 b f n
  | 0, _ => rfl
  | n + 1, h => by
    have i := bk9_e (b := b) n (fun j a c => h j a (by omega))
    obtain ⟨h1, h2⟩ := h (f + n) (by omega) (by omega)
    unfold bk9_
    rw [i, h1, h2]
    unfold bs9_
    rw [h1]
theorem bs9_y {H : Int → Int} {b m : Int} (h : H m = b) : bs9_ H b m = 0 := if_pos h
theorem bs9_n {H : Int → Int} {b m : Int} (h : H m ≠ b) : bs9_ H b m = 1 := if_neg h
theorem bk9_u {H A : Int → Int} {b f k s : Int} (hk : 0 ≤ k) (c : H (f + k) = b ∨ A (f + k) = b) (hs : bs9_ H b (f + k) = s) : (bk9_ H A b f (k + 1).toNat).2 = s ∧ ((s = (bk9_ H A b f k.toNat).2 ∧ (bk9_ H A b f (k + 1).toNat).1 = (bk9_ H A b f k.toNat).1 + 1) ∨ (s ≠ (bk9_ H A b f k.toNat).2 ∧ (bk9_ H A b f (k + 1).toNat).1 = (bk9_ H A b f k.toNat).1)) := by
  have e := bk9_t (A := A) hk c
  rw [hs] at e
  rw [e]
  refine ⟨rfl, ?_⟩
  by_cases z : s = (bk9_ H A b f k.toNat).2
  · exact Or.inl ⟨z, by rw [if_pos z]⟩
  · exact Or.inr ⟨z, by rw [if_neg z]; exact Int.add_zero _⟩
/-- what breaks answers, of the house and of the reference -/
def BH9_ (T : Zt) (c b x : Int) : Prop := (x = -2 ∧ ¬ ((0 ≤ c ∧ c < T 106 0 2) ∧ 0 ≤ b ∧ b < T 108 0 2)) ∨ (((0 ≤ c ∧ c < T 106 0 2) ∧ 0 ≤ b ∧ b < T 108 0 2) ∧ ((x = -4 ∧ (T 404 c b = -1 ∨ T 100 c 6 = 0)) ∨ (T 404 c b ≠ -1 ∧ T 100 c 6 ≠ 0 ∧ x = (bk9_ (fun m => T 102 m 3) (fun m => T 102 m 4) b (T 100 c 7) (T 100 c 8).toNat).1)))
def BR9_ (T : Zt) (c b x : Int) : Prop := (x = -2 ∧ ¬ ((0 ≤ c ∧ c < T 111 0 6) ∧ 0 ≤ b ∧ b < T 111 0 12)) ∨ (((0 ≤ c ∧ c < T 111 0 6) ∧ 0 ≤ b ∧ b < T 111 0 12) ∧ ((x = -4 ∧ (T 209 0 c = 0 ∨ ¬ HE_ T c b)) ∨ (T 209 0 c ≠ 0 ∧ HE_ T c b ∧ x = (bk9_ (fun m => T 232 0 m) (fun m => T 233 0 m) b (T 210 0 c) (T 211 0 c).toNat).1)))
/-- breaks on both sides -/
theorem brk_e {T : Zt} {c b x1 x2 : Int} (h : ENR_ T) (hm : MAR_ T) (hk : KE_ T) (hl : KC_ T) (hcc : T 106 0 2 = T 111 0 6) (hc : T 108 0 2 = T 111 0 12) (hc12 : T 108 0 2 ≤ 12) (hb7 : ∀ d, 0 ≤ T 100 d 7 ∧ 0 ≤ T 100 d 8) (d1 : BH9_ T c b x1) (d2 : BR9_ T c b x2) : x1 = x2 := by
  rcases d1 with ⟨a1, a2⟩ | ⟨a0, a1⟩
  · rcases d2 with ⟨f1, f2⟩ | ⟨f0, f1⟩
    · omega
    · exact absurd (by omega) a2
  · rcases d2 with ⟨f1, f2⟩ | ⟨f0, f1⟩
    · exact absurd (by omega) f2
    · have z := h.1 c a0.1.1 a0.1.2
      have g := he9_i z (hk c a0.1.1 a0.1.2) ⟨a0.2.1, by omega⟩
      obtain ⟨z1, z2, z3, z4, z5, z6⟩ := z
      rcases a1 with ⟨a1, a2⟩ | ⟨a1, a2, a3⟩
      · rcases f1 with ⟨f1, f2⟩ | ⟨f1, f2, f3⟩
        · omega
        · exfalso
          have := g.mpr f2
          omega
      · rcases f1 with ⟨f1, f2⟩ | ⟨f1, f2, f3⟩
        · exfalso
          rcases f2 with f2 | f2
          · omega
          · exact f2 (g.mp a1)
        · have l := hl c a0.1.1 a0.1.2
          have q := hb7 c
          rw [a3, f3, ← z3, ← z4]
          rw [bk9_e (H2 := fun m => T 232 0 m) (A2 := fun m => T 233 0 m) (T 100 c 8).toNat (fun j p r => ?_)]
          have y := hm.2 j (by omega) (by omega)
          exact ⟨y.2.2.1, y.2.2.2⟩
theorem bk_X2_has_e_0 : ck_ fX2 (some .boolean) cX2_has 0 [.aload 0, .tableswitch 0 2 3 #[], .iload 1, .if_icmp .eq 16, .aload 0, .tableswitch 0 2 4 #[], .iload 1, .if_icmp .ne 20, .iconst 1, .goto 21] 20 = true := qck_r (nn_ _) (by decide +kernel)
theorem bs_X2_has_e_0 {P : Zt → Option Zv → Prop} (K : Int → Zl → List Zv → Zt → Prop) : sx_ K P [.aload 0, .tableswitch 0 2 3 #[], .iload 1, .if_icmp .eq 16, .aload 0, .tableswitch 0 2 4 #[], .iload 1, .if_icmp .ne 20, .iconst 1, .goto 21] 20 = x_aload 0 (x_g0 102 3 0 11 (x_iload 1 (x_if_icmp .eq 16 K (x_aload 0 (x_g0 102 4 0 11 (x_iload 1 (x_if_icmp .ne 20 K (x_iconst 1 (x_goto 21 K))))))))) := ((xe_aload 0).trans (congrArg (x_aload 0) ((xe_g0 (kk := 102) rfl tl_2_3).trans (congrArg (x_g0 102 3 0 11) ((xe_iload 1).trans (congrArg (x_iload 1) ((xe_if_icmp .eq 16).trans (congrArg (x_if_icmp .eq 16 K) ((xe_aload 0).trans (congrArg (x_aload 0) ((xe_g0 (kk := 102) rfl tl_2_4).trans (congrArg (x_g0 102 4 0 11) ((xe_iload 1).trans (congrArg (x_iload 1) ((xe_if_icmp .ne 20).trans (congrArg (x_if_icmp .ne 20 K) ((xe_iconst 1).trans (congrArg (x_iconst 1) (xe_goto 21)))))))))))))))))))
theorem bk_X2_has_e_16 : ck_ fX2 (some .boolean) cX2_has 16 [.iconst 1, .goto 21] 20 = true := qck_r (nn_ _) (by decide +kernel)
theorem bs_X2_has_e_16 {P : Zt → Option Zv → Prop} (K : Int → Zl → List Zv → Zt → Prop) : sx_ K P [.iconst 1, .goto 21] 20 = x_iconst 1 (x_goto 21 K) := ((xe_iconst 1).trans (congrArg (x_iconst 1) (xe_goto 21)))
theorem bk_X2_has_e_21 : ck_ fX2 (some .boolean) cX2_has 21 [.ireturn] 22 = true := qck_r (nn_ _) (by decide +kernel)
theorem bs_X2_has_e_21 {P : Zt → Option Zv → Prop} (K : Int → Zl → List Zv → Zt → Prop) : sx_ K P [.ireturn] 22 = x_ireturn P := (xe_ireturn)
theorem bk_X2_has_e_20 : ck_ fX2 (some .boolean) cX2_has 20 [.iconst 0, .ireturn] 22 = true := qck_r (nn_ _) (by decide +kernel)
theorem bs_X2_has_e_20 {P : Zt → Option Zv → Prop} (K : Int → Zl → List Zv → Zt → Prop) : sx_ K P [.iconst 0, .ireturn] 22 = x_iconst 0 (x_ireturn P) := ((xe_iconst 0).trans (congrArg (x_iconst 0) (xe_ireturn)))
abbrev po_X2_has_e (T : Zt) (p : Int) (c : Int) : Zt → Option Zv → Prop := fun T' r => T = T' ∧ ∃ x : Int, r = some (vI x) ∧ ((x = 1 ∧ (T 102 p 3 = c ∨ T 102 p 4 = c)) ∨ (x = 0 ∧ ¬ (T 102 p 3 = c ∨ T 102 p 4 = c)))
set_option maxHeartbeats 4000000 in
theorem ct_X2_has_e {T : Zt} {p : Int} {c : Int} : Ct_ yX2_has zX2_has T [vR 102 p, vI c] (po_X2_has_e T p c) := by
  refine ct_of pn_2 rfl rfl (Nat.le_of_ble_eq_true rfl) (fun hT hav => ?_)
  have hr_c : -2147483648 ≤ c ∧ c ≤ 2147483647 := hav (vI c) (List.mem_cons_of_mem _ List.mem_cons_self)
  have hz : zX2_has.2.2.2.1 = some .boolean → ∀ (T' : Zt) (x : Int), po_X2_has_e T p c T' (some (vI x)) → 0 ≤ x ∧ x ≤ 1 := fun _ T' x h => by obtain ⟨-, y, e, hy⟩ := h; cases e; omega
  show J_ zX2_has T (po_X2_has_e T p c) 0 0 0 [some (vR 102 p), some (vI c)] [] T
  refine j_blx (F := fX2) tb_X2 (nn_ _) bk_X2_has_e_0 bs_X2_has_e_0 hz (fun K hK => ?_)
  intro b1 b1b
  refine And.intro (fun c2 => ?_) (fun c2 => ?_)
  · refine hK 16 _ [] T ?_
    refine j_blx (F := fX2) tb_X2 (nn_ _) bk_X2_has_e_16 bs_X2_has_e_16 hz (fun K hK => ?_)
    refine hK 21 _ [vI 1] T ?_
    refine j_blx (F := fX2) tb_X2 (nn_ _) bk_X2_has_e_21 bs_X2_has_e_21 hz (fun K hK => ?_)
    refine (show po_X2_has_e T p c T (some (vI 1)) from ?_)
    exact ⟨rfl, _, rfl, Or.inl ⟨rfl, by omega⟩⟩
  · intro b3 b3b
    refine And.intro (fun c4 => ?_) (fun c4 => ?_)
    · refine hK 20 _ [] T ?_
      refine j_blx (F := fX2) tb_X2 (nn_ _) bk_X2_has_e_20 bs_X2_has_e_20 hz (fun K hK => ?_)
      refine (show po_X2_has_e T p c T (some (vI 0)) from ?_)
      exact ⟨rfl, _, rfl, Or.inr ⟨rfl, by omega⟩⟩
    · refine hK 21 _ [vI 1] T ?_
      refine j_blx (F := fX2) tb_X2 (nn_ _) bk_X2_has_e_21 bs_X2_has_e_21 hz (fun K hK => ?_)
      refine (show po_X2_has_e T p c T (some (vI 1)) from ?_)
      exact ⟨rfl, _, rfl, Or.inl ⟨rfl, by omega⟩⟩
theorem bk_X6_countBreaks_e_11 : ck_ fX6 (some .int) cX6_countBreaks 11 [.iload 6, .aload 1, .tableswitch 0 0 8 #[], .if_icmp .ge 87, .aload 0, .tableswitch 0 6 3 #[], .aload 1, .tableswitch 0 0 7 #[], .iload 6, .iadd, .aaload, .astore 7, .aload 7, .iload 2] 37 = true := qck_r (nn_ _) (by decide +kernel)
theorem bs_X6_countBreaks_e_11 {P : Zt → Option Zv → Prop} (K : Int → Zl → List Zv → Zt → Prop) : sx_ K P [.iload 6, .aload 1, .tableswitch 0 0 8 #[], .if_icmp .ge 87, .aload 0, .tableswitch 0 6 3 #[], .aload 1, .tableswitch 0 0 7 #[], .iload 6, .iadd, .aaload, .astore 7, .aload 7, .iload 2] 37 = x_iload 6 (x_aload 1 (x_g0 100 8 0 400 (x_if_icmp .ge 87 K (x_aload 0 (x_g1 106 523 (x_aload 1 (x_g0 100 7 0 400 (x_iload 6 (x_iadd (x_aaload (x_astore 7 (x_aload 7 (x_iload 2 (K 37)))))))))))))) := ((xe_iload 6).trans (congrArg (x_iload 6) ((xe_aload 1).trans (congrArg (x_aload 1) ((xe_g0 (kk := 100) rfl tl_0_8).trans (congrArg (x_g0 100 8 0 400) ((xe_if_icmp .ge 87).trans (congrArg (x_if_icmp .ge 87 K) ((xe_aload 0).trans (congrArg (x_aload 0) ((xe_g1 (kk := 106) rfl tl_6_3).trans (congrArg (x_g1 106 523) ((xe_aload 1).trans (congrArg (x_aload 1) ((xe_g0 (kk := 100) rfl tl_0_7).trans (congrArg (x_g0 100 7 0 400) ((xe_iload 6).trans (congrArg (x_iload 6) ((xe_iadd).trans (congrArg (x_iadd) ((xe_aaload).trans (congrArg (x_aaload) ((xe_astore 7).trans (congrArg (x_astore 7) ((xe_aload 7).trans (congrArg (x_aload 7) ((xe_iload 2).trans (congrArg (x_iload 2) xe_nil))))))))))))))))))))))))))))
theorem bk_X6_countBreaks_e_87 : ck_ fX6 (some .int) cX6_countBreaks 87 [.iload 3, .ireturn] 89 = true := qck_r (nn_ _) (by decide +kernel)
theorem bs_X6_countBreaks_e_87 {P : Zt → Option Zv → Prop} (K : Int → Zl → List Zv → Zt → Prop) : sx_ K P [.iload 3, .ireturn] 89 = x_iload 3 (x_ireturn P) := ((xe_iload 3).trans (congrArg (x_iload 3) (xe_ireturn)))
theorem bk_X6_countBreaks_e_40 : ck_ fX6 (some .int) cX6_countBreaks 40 [.ifCond .eq 81, .aload 7, .tableswitch 0 2 3 #[], .iload 2, .if_icmp .ne 56, .iconst 1, .goto 57] 56 = true := qck_r (nn_ _) (by decide +kernel)
theorem bs_X6_countBreaks_e_40 {P : Zt → Option Zv → Prop} (K : Int → Zl → List Zv → Zt → Prop) : sx_ K P [.ifCond .eq 81, .aload 7, .tableswitch 0 2 3 #[], .iload 2, .if_icmp .ne 56, .iconst 1, .goto 57] 56 = x_ifCond .eq 81 K (x_aload 7 (x_g0 102 3 0 11 (x_iload 2 (x_if_icmp .ne 56 K (x_iconst 1 (x_goto 57 K)))))) := ((xe_ifCond .eq 81).trans (congrArg (x_ifCond .eq 81 K) ((xe_aload 7).trans (congrArg (x_aload 7) ((xe_g0 (kk := 102) rfl tl_2_3).trans (congrArg (x_g0 102 3 0 11) ((xe_iload 2).trans (congrArg (x_iload 2) ((xe_if_icmp .ne 56).trans (congrArg (x_if_icmp .ne 56 K) ((xe_iconst 1).trans (congrArg (x_iconst 1) (xe_goto 57)))))))))))))
theorem bk_X6_countBreaks_e_81 : ck_ fX6 (some .int) cX6_countBreaks 81 [.iinc 6 1, .goto 11] 87 = true := qck_r (nn_ _) (by decide +kernel)
theorem bs_X6_countBreaks_e_81 {P : Zt → Option Zv → Prop} (K : Int → Zl → List Zv → Zt → Prop) : sx_ K P [.iinc 6 1, .goto 11] 87 = x_iinc 6 1 (x_goto 11 K) := ((xe_iinc 6 1).trans (congrArg (x_iinc 6 1) (xe_goto 11)))
theorem bk_X6_countBreaks_e_56 : ck_ fX6 (some .int) cX6_countBreaks 56 [.iconst 0, .istore 8, .iload 4, .ifCond .eq 74, .iload 8, .iload 5, .if_icmp .ne 74, .iinc 3 1, .iconst 1, .istore 4, .iload 8, .istore 5, .iinc 6 1, .goto 11] 87 = true := qck_r (nn_ _) (by decide +kernel)
theorem bs_X6_countBreaks_e_56 {P : Zt → Option Zv → Prop} (K : Int → Zl → List Zv → Zt → Prop) : sx_ K P [.iconst 0, .istore 8, .iload 4, .ifCond .eq 74, .iload 8, .iload 5, .if_icmp .ne 74, .iinc 3 1, .iconst 1, .istore 4, .iload 8, .istore 5, .iinc 6 1, .goto 11] 87 = x_iconst 0 (x_istore 8 (x_iload 4 (x_ifCond .eq 74 K (x_iload 8 (x_iload 5 (x_if_icmp .ne 74 K (x_iinc 3 1 (x_iconst 1 (x_istore 4 (x_iload 8 (x_istore 5 (x_iinc 6 1 (x_goto 11 K))))))))))))) := ((xe_iconst 0).trans (congrArg (x_iconst 0) ((xe_istore 8).trans (congrArg (x_istore 8) ((xe_iload 4).trans (congrArg (x_iload 4) ((xe_ifCond .eq 74).trans (congrArg (x_ifCond .eq 74 K) ((xe_iload 8).trans (congrArg (x_iload 8) ((xe_iload 5).trans (congrArg (x_iload 5) ((xe_if_icmp .ne 74).trans (congrArg (x_if_icmp .ne 74 K) ((xe_iinc 3 1).trans (congrArg (x_iinc 3 1) ((xe_iconst 1).trans (congrArg (x_iconst 1) ((xe_istore 4).trans (congrArg (x_istore 4) ((xe_iload 8).trans (congrArg (x_iload 8) ((xe_istore 5).trans (congrArg (x_istore 5) ((xe_iinc 6 1).trans (congrArg (x_iinc 6 1) (xe_goto 11)))))))))))))))))))))))))))
theorem bk_X6_countBreaks_e_74 : ck_ fX6 (some .int) cX6_countBreaks 74 [.iconst 1, .istore 4, .iload 8, .istore 5, .iinc 6 1, .goto 11] 87 = true := qck_r (nn_ _) (by decide +kernel)
theorem bs_X6_countBreaks_e_74 {P : Zt → Option Zv → Prop} (K : Int → Zl → List Zv → Zt → Prop) : sx_ K P [.iconst 1, .istore 4, .iload 8, .istore 5, .iinc 6 1, .goto 11] 87 = x_iconst 1 (x_istore 4 (x_iload 8 (x_istore 5 (x_iinc 6 1 (x_goto 11 K))))) := ((xe_iconst 1).trans (congrArg (x_iconst 1) ((xe_istore 4).trans (congrArg (x_istore 4) ((xe_iload 8).trans (congrArg (x_iload 8) ((xe_istore 5).trans (congrArg (x_istore 5) ((xe_iinc 6 1).trans (congrArg (x_iinc 6 1) (xe_goto 11)))))))))))
theorem bk_X6_countBreaks_e_57 : ck_ fX6 (some .int) cX6_countBreaks 57 [.istore 8, .iload 4, .ifCond .eq 74, .iload 8, .iload 5, .if_icmp .ne 74, .iinc 3 1, .iconst 1, .istore 4, .iload 8, .istore 5, .iinc 6 1, .goto 11] 87 = true := qck_r (nn_ _) (by decide +kernel)
theorem bs_X6_countBreaks_e_57 {P : Zt → Option Zv → Prop} (K : Int → Zl → List Zv → Zt → Prop) : sx_ K P [.istore 8, .iload 4, .ifCond .eq 74, .iload 8, .iload 5, .if_icmp .ne 74, .iinc 3 1, .iconst 1, .istore 4, .iload 8, .istore 5, .iinc 6 1, .goto 11] 87 = x_istore 8 (x_iload 4 (x_ifCond .eq 74 K (x_iload 8 (x_iload 5 (x_if_icmp .ne 74 K (x_iinc 3 1 (x_iconst 1 (x_istore 4 (x_iload 8 (x_istore 5 (x_iinc 6 1 (x_goto 11 K)))))))))))) := ((xe_istore 8).trans (congrArg (x_istore 8) ((xe_iload 4).trans (congrArg (x_iload 4) ((xe_ifCond .eq 74).trans (congrArg (x_ifCond .eq 74 K) ((xe_iload 8).trans (congrArg (x_iload 8) ((xe_iload 5).trans (congrArg (x_iload 5) ((xe_if_icmp .ne 74).trans (congrArg (x_if_icmp .ne 74 K) ((xe_iinc 3 1).trans (congrArg (x_iinc 3 1) ((xe_iconst 1).trans (congrArg (x_iconst 1) ((xe_istore 4).trans (congrArg (x_istore 4) ((xe_iload 8).trans (congrArg (x_iload 8) ((xe_istore 5).trans (congrArg (x_istore 5) ((xe_iinc 6 1).trans (congrArg (x_iinc 6 1) (xe_goto 11)))))))))))))))))))))))))
theorem bk_X6_countBreaks_e_0 : ck_ fX6 (some .int) cX6_countBreaks 0 [.iconst 0, .istore 3, .iconst 0, .istore 4, .iconst 0, .istore 5, .iconst 0, .istore 6] 11 = true := qck_r (nn_ _) (by decide +kernel)
theorem bs_X6_countBreaks_e_0 {P : Zt → Option Zv → Prop} (K : Int → Zl → List Zv → Zt → Prop) : sx_ K P [.iconst 0, .istore 3, .iconst 0, .istore 4, .iconst 0, .istore 5, .iconst 0, .istore 6] 11 = x_iconst 0 (x_istore 3 (x_iconst 0 (x_istore 4 (x_iconst 0 (x_istore 5 (x_iconst 0 (x_istore 6 (K 11)))))))) := ((xe_iconst 0).trans (congrArg (x_iconst 0) ((xe_istore 3).trans (congrArg (x_istore 3) ((xe_iconst 0).trans (congrArg (x_iconst 0) ((xe_istore 4).trans (congrArg (x_istore 4) ((xe_iconst 0).trans (congrArg (x_iconst 0) ((xe_istore 5).trans (congrArg (x_istore 5) ((xe_iconst 0).trans (congrArg (x_iconst 0) ((xe_istore 6).trans (congrArg (x_istore 6) xe_nil))))))))))))))))
abbrev po_X6_countBreaks_e (T : Zt) (c : Int) (cl : Int) : Zt → Option Zv → Prop := fun T' r => T = T' ∧ ∃ x : Int, r = some (vI x) ∧ (x = (bk9_ (fun m => T 102 m 3) (fun m => T 102 m 4) cl (T 100 c 7) (T 100 c 8).toNat).1)
set_option maxHeartbeats 4000000 in
theorem ct_X6_countBreaks_e {T : Zt} {c : Int} {cl : Int} (hka : KA_ T) (hcm : T 100 c 7 + T 100 c 8 ≤ T 106 0 4) : Ct_ yX6_countBreaks zX6_countBreaks T [vR 106 0, vR 100 c, vI cl] (po_X6_countBreaks_e T c cl) := by
  refine ct_of pn_6 rfl rfl (Nat.le_of_ble_eq_true rfl) (fun hT hav => ?_)
  have hr_cl : -2147483648 ≤ cl ∧ cl ≤ 2147483647 := hav (vI cl) (List.mem_cons_of_mem _ (List.mem_cons_of_mem _ List.mem_cons_self))
  have hz : zX6_countBreaks.2.2.2.1 = some .boolean → ∀ (T' : Zt) (x : Int), po_X6_countBreaks_e T c cl T' (some (vI x)) → 0 ≤ x ∧ x ≤ 1 := fun h => by cases h
  have hb_matchCount : 0 ≤ T 106 0 4 ∧ T 106 0 4 ≤ 400 := bd_f hT 106 4 tl_6_4 0
  have hb7 : 0 ≤ T 100 c 7 ∧ T 100 c 7 ≤ 400 := bd_f hT 100 7 tl_0_7 c
  have hb8 : 0 ≤ T 100 c 8 ∧ T 100 c 8 ≤ 400 := bd_f hT 100 8 tl_0_8 c
  show J_ zX6_countBreaks T (po_X6_countBreaks_e T c cl) 0 0 0 [some (vR 106 0), some (vR 100 c), some (vI cl), none, none, none, none, none, none] [] T
  have c_11 : ∀ (nn : Nat) (n : Int) (a : Int) (w : Int) (k : Int), ((400 - k).toNat) ≤ nn → (0 ≤ n ∧ n ≤ k ∧ 0 ≤ k ∧ k ≤ T 100 c 8) → (n = (bk9_ (fun m => T 102 m 3) (fun m => T 102 m 4) cl (T 100 c 7) k.toNat).1 ∧ ((a = 0 ∧ (bk9_ (fun m => T 102 m 3) (fun m => T 102 m 4) cl (T 100 c 7) k.toNat).2 = -1) ∨ (a = 1 ∧ (bk9_ (fun m => T 102 m 3) (fun m => T 102 m 4) cl (T 100 c 7) k.toNat).2 = 1 - w ∧ (w = 0 ∨ w = 1)))) → J_ zX6_countBreaks T (po_X6_countBreaks_e T c cl) 0 0 11 [some (vR 106 0), some (vR 100 c), some (vI cl), some (vI n), some (vI a), some (vI w), some (vI k), none, none] [] T := by
    intro nn
    induction nn using Nat.strongRecOn with
    | _ nn ih_11 =>
      intro n a w k hm_11 i1 ib
      replace hm_11 := fun (_ : Unit) => hm_11
      refine j_blx (F := fX6) tb_X6 (nn_ _) bk_X6_countBreaks_e_11 bs_X6_countBreaks_e_11 hz (fun K hK => ?_)
      intro b1 b1b
      refine And.intro (fun c2 => ?_) (fun c2 => ?_)
      · refine hK 87 _ [] T ?_
        refine j_blx (F := fX6) tb_X6 (nn_ _) bk_X6_countBreaks_e_87 bs_X6_countBreaks_e_87 hz (fun K hK => ?_)
        refine (show po_X6_countBreaks_e T c cl T (some (vI n)) from ?_)
        exact ⟨rfl, _, rfl, by rw [show T 100 c 8 = k by omega]; exact ib.1⟩
      · intro b3 b3b
        refine rg_i (by omega) ?_
        refine ix_i (by omega) ?_
        refine And.intro (fun c4 => ?_) (fun c4 => ?_)
        · exact absurd c4 (hka.2 _ (by omega) (by omega))
        · refine hK 37 [some (vR 106 0), some (vR 100 c), some (vI cl), some (vI n), some (vI a), some (vI w), some (vI k), some (vR 102 ((T 100 c 7) + k)), none] [vI cl, vR 102 ((T 100 c 7) + k)] T ?_
          refine j_callV (y := yX2_has) (Yc := zX2_has) (rest := []) [vI cl] (ct_X2_has_e (T := T)) cl_X6_88 (qd_c (by decide +kernel)) (nn_ _) rfl (rf_of rfl) (Nat.le_of_ble_eq_true rfl) (Nat.le_of_ble_eq_true rfl) (Nat.le_of_ble_eq_true rfl) rfl ?_
          rintro _ _ ⟨rfl, x5, rfl, hx5⟩
          show J_ zX6_countBreaks T (po_X6_countBreaks_e T c cl) 0 0 40 _ [vI x5] T
          refine j_blx (F := fX6) tb_X6 (nn_ _) bk_X6_countBreaks_e_40 bs_X6_countBreaks_e_40 hz (fun K hK => ?_)
          refine And.intro (fun c6 => ?_) (fun c6 => ?_)
          · replace hx5 := hx5.resolve_left (fun z => absurd (c6.symm.trans z.1) (by decide))
            clear c6
            refine hK 81 _ [] T ?_
            refine j_blx (F := fX6) tb_X6 (nn_ _) bk_X6_countBreaks_e_81 bs_X6_countBreaks_e_81 hz (fun K hK => ?_)
            refine rg_i (by omega) ?_
            refine hK 11 [some (vR 106 0), some (vR 100 c), some (vI cl), some (vI n), some (vI a), some (vI w), some (vI (k + 1)), some (vR 102 ((T 100 c 7) + k)), none] [] T ?_
            refine j_drq [some (vR 106 0), some (vR 100 c), some (vI cl), some (vI n), some (vI a), some (vI w), some (vI (k + 1)), none, none] (drq_s (drq_s (drq_s (drq_s (drq_s (drq_s (drq_s (drq_n (drq_n drq_0))))))))) ?_
            refine ih_11 _ ?_ n a w (k + 1) (Nat.le_refl _) ?_ ?_
            · have hm_11 := hm_11 (); omega
            · omega
            · rw [bk9_f (H := fun m => T 102 m 3) (A := fun m => T 102 m 4) (b := cl) (f := T 100 c 7) (k := k) (by omega) (show ¬ (T 102 (T 100 c 7 + k) 3 = cl ∨ T 102 (T 100 c 7 + k) 4 = cl) by omega)]
              exact ib
          · replace hx5 := hx5.resolve_right (fun z => c6 z.1)
            clear c6
            intro b7 b7b
            refine And.intro (fun c8 => ?_) (fun c8 => ?_)
            · refine hK 56 [some (vR 106 0), some (vR 100 c), some (vI cl), some (vI n), some (vI a), some (vI w), some (vI k), some (vR 102 ((T 100 c 7) + k)), none] [] T ?_
              refine j_blx (F := fX6) tb_X6 (nn_ _) bk_X6_countBreaks_e_56 bs_X6_countBreaks_e_56 hz (fun K hK => ?_)
              refine And.intro (fun c9 => ?_) (fun c9 => ?_)
              · refine hK 74 [some (vR 106 0), some (vR 100 c), some (vI cl), some (vI n), some (vI a), some (vI w), some (vI k), some (vR 102 ((T 100 c 7) + k)), some (vI 0)] [] T ?_
                refine j_blx (F := fX6) tb_X6 (nn_ _) bk_X6_countBreaks_e_74 bs_X6_countBreaks_e_74 hz (fun K hK => ?_)
                refine rg_i (by omega) ?_
                refine hK 11 [some (vR 106 0), some (vR 100 c), some (vI cl), some (vI n), some (vI 1), some (vI 0), some (vI (k + 1)), some (vR 102 ((T 100 c 7) + k)), some (vI 0)] [] T ?_
                refine j_drq [some (vR 106 0), some (vR 100 c), some (vI cl), some (vI n), some (vI 1), some (vI 0), some (vI (k + 1)), none, none] (drq_s (drq_s (drq_s (drq_s (drq_s (drq_s (drq_s (drq_n (drq_n drq_0))))))))) ?_
                refine ih_11 _ ?_ n 1 0 (k + 1) (Nat.le_refl _) ?_ ?_
                · have hm_11 := hm_11 (); omega
                · omega
                · have y9 := bk9_u (H := fun m => T 102 m 3) (A := fun m => T 102 m 4) (b := cl) (f := T 100 c 7) (k := k) (by omega) (show T 102 (T 100 c 7 + k) 3 = cl ∨ T 102 (T 100 c 7 + k) 4 = cl by omega) (bs9_n (H := fun m => T 102 m 3) (show T 102 (T 100 c 7 + k) 3 ≠ cl by omega))
                  omega
              · refine And.intro (fun c10 => ?_) (fun c10 => ?_)
                · refine hK 74 [some (vR 106 0), some (vR 100 c), some (vI cl), some (vI n), some (vI a), some (vI w), some (vI k), some (vR 102 ((T 100 c 7) + k)), some (vI 0)] [] T ?_
                  refine j_blx (F := fX6) tb_X6 (nn_ _) bk_X6_countBreaks_e_74 bs_X6_countBreaks_e_74 hz (fun K hK => ?_)
                  refine rg_i (by omega) ?_
                  refine hK 11 [some (vR 106 0), some (vR 100 c), some (vI cl), some (vI n), some (vI 1), some (vI 0), some (vI (k + 1)), some (vR 102 ((T 100 c 7) + k)), some (vI 0)] [] T ?_
                  refine j_drq [some (vR 106 0), some (vR 100 c), some (vI cl), some (vI n), some (vI 1), some (vI 0), some (vI (k + 1)), none, none] (drq_s (drq_s (drq_s (drq_s (drq_s (drq_s (drq_s (drq_n (drq_n drq_0))))))))) ?_
                  refine ih_11 _ ?_ n 1 0 (k + 1) (Nat.le_refl _) ?_ ?_
                  · have hm_11 := hm_11 (); omega
                  · omega
                  · have y9 := bk9_u (H := fun m => T 102 m 3) (A := fun m => T 102 m 4) (b := cl) (f := T 100 c 7) (k := k) (by omega) (show T 102 (T 100 c 7 + k) 3 = cl ∨ T 102 (T 100 c 7 + k) 4 = cl by omega) (bs9_n (H := fun m => T 102 m 3) (show T 102 (T 100 c 7 + k) 3 ≠ cl by omega))
                    omega
                · refine rg_i (by omega) ?_
                  refine rg_i (by omega) ?_
                  refine hK 11 [some (vR 106 0), some (vR 100 c), some (vI cl), some (vI (n + 1)), some (vI 1), some (vI 0), some (vI (k + 1)), some (vR 102 ((T 100 c 7) + k)), some (vI 0)] [] T ?_
                  refine j_drq [some (vR 106 0), some (vR 100 c), some (vI cl), some (vI (n + 1)), some (vI 1), some (vI 0), some (vI (k + 1)), none, none] (drq_s (drq_s (drq_s (drq_s (drq_s (drq_s (drq_s (drq_n (drq_n drq_0))))))))) ?_
                  refine ih_11 _ ?_ (n + 1) 1 0 (k + 1) (Nat.le_refl _) ?_ ?_
                  · have hm_11 := hm_11 (); omega
                  · omega
                  · have y9 := bk9_u (H := fun m => T 102 m 3) (A := fun m => T 102 m 4) (b := cl) (f := T 100 c 7) (k := k) (by omega) (show T 102 (T 100 c 7 + k) 3 = cl ∨ T 102 (T 100 c 7 + k) 4 = cl by omega) (bs9_n (H := fun m => T 102 m 3) (show T 102 (T 100 c 7 + k) 3 ≠ cl by omega))
                    omega
            · refine hK 57 _ [vI 1] T ?_
              refine j_blx (F := fX6) tb_X6 (nn_ _) bk_X6_countBreaks_e_57 bs_X6_countBreaks_e_57 hz (fun K hK => ?_)
              refine And.intro (fun c11 => ?_) (fun c11 => ?_)
              · refine hK 74 [some (vR 106 0), some (vR 100 c), some (vI cl), some (vI n), some (vI a), some (vI w), some (vI k), some (vR 102 ((T 100 c 7) + k)), some (vI 1)] [] T ?_
                refine j_blx (F := fX6) tb_X6 (nn_ _) bk_X6_countBreaks_e_74 bs_X6_countBreaks_e_74 hz (fun K hK => ?_)
                refine rg_i (by omega) ?_
                refine hK 11 [some (vR 106 0), some (vR 100 c), some (vI cl), some (vI n), some (vI 1), some (vI 1), some (vI (k + 1)), some (vR 102 ((T 100 c 7) + k)), some (vI 1)] [] T ?_
                refine j_drq [some (vR 106 0), some (vR 100 c), some (vI cl), some (vI n), some (vI 1), some (vI 1), some (vI (k + 1)), none, none] (drq_s (drq_s (drq_s (drq_s (drq_s (drq_s (drq_s (drq_n (drq_n drq_0))))))))) ?_
                refine ih_11 _ ?_ n 1 1 (k + 1) (Nat.le_refl _) ?_ ?_
                · have hm_11 := hm_11 (); omega
                · omega
                · have y9 := bk9_u (H := fun m => T 102 m 3) (A := fun m => T 102 m 4) (b := cl) (f := T 100 c 7) (k := k) (by omega) (show T 102 (T 100 c 7 + k) 3 = cl ∨ T 102 (T 100 c 7 + k) 4 = cl by omega) (bs9_y (H := fun m => T 102 m 3) (show T 102 (T 100 c 7 + k) 3 = cl by omega))
                  omega
              · refine And.intro (fun c12 => ?_) (fun c12 => ?_)
                · refine hK 74 [some (vR 106 0), some (vR 100 c), some (vI cl), some (vI n), some (vI a), some (vI w), some (vI k), some (vR 102 ((T 100 c 7) + k)), some (vI 1)] [] T ?_
                  refine j_blx (F := fX6) tb_X6 (nn_ _) bk_X6_countBreaks_e_74 bs_X6_countBreaks_e_74 hz (fun K hK => ?_)
                  refine rg_i (by omega) ?_
                  refine hK 11 [some (vR 106 0), some (vR 100 c), some (vI cl), some (vI n), some (vI 1), some (vI 1), some (vI (k + 1)), some (vR 102 ((T 100 c 7) + k)), some (vI 1)] [] T ?_
                  refine j_drq [some (vR 106 0), some (vR 100 c), some (vI cl), some (vI n), some (vI 1), some (vI 1), some (vI (k + 1)), none, none] (drq_s (drq_s (drq_s (drq_s (drq_s (drq_s (drq_s (drq_n (drq_n drq_0))))))))) ?_
                  refine ih_11 _ ?_ n 1 1 (k + 1) (Nat.le_refl _) ?_ ?_
                  · have hm_11 := hm_11 (); omega
                  · omega
                  · have y9 := bk9_u (H := fun m => T 102 m 3) (A := fun m => T 102 m 4) (b := cl) (f := T 100 c 7) (k := k) (by omega) (show T 102 (T 100 c 7 + k) 3 = cl ∨ T 102 (T 100 c 7 + k) 4 = cl by omega) (bs9_y (H := fun m => T 102 m 3) (show T 102 (T 100 c 7 + k) 3 = cl by omega))
                    omega
                · refine rg_i (by omega) ?_
                  refine rg_i (by omega) ?_
                  refine hK 11 [some (vR 106 0), some (vR 100 c), some (vI cl), some (vI (n + 1)), some (vI 1), some (vI 1), some (vI (k + 1)), some (vR 102 ((T 100 c 7) + k)), some (vI 1)] [] T ?_
                  refine j_drq [some (vR 106 0), some (vR 100 c), some (vI cl), some (vI (n + 1)), some (vI 1), some (vI 1), some (vI (k + 1)), none, none] (drq_s (drq_s (drq_s (drq_s (drq_s (drq_s (drq_s (drq_n (drq_n drq_0))))))))) ?_
                  refine ih_11 _ ?_ (n + 1) 1 1 (k + 1) (Nat.le_refl _) ?_ ?_
                  · have hm_11 := hm_11 (); omega
                  · omega
                  · have y9 := bk9_u (H := fun m => T 102 m 3) (A := fun m => T 102 m 4) (b := cl) (f := T 100 c 7) (k := k) (by omega) (show T 102 (T 100 c 7 + k) 3 = cl ∨ T 102 (T 100 c 7 + k) 4 = cl by omega) (bs9_y (H := fun m => T 102 m 3) (show T 102 (T 100 c 7 + k) 3 = cl by omega))
                    omega
  refine j_blx (F := fX6) tb_X6 (nn_ _) bk_X6_countBreaks_e_0 bs_X6_countBreaks_e_0 hz (fun K hK => ?_)
  refine hK 11 [some (vR 106 0), some (vR 100 c), some (vI cl), some (vI 0), some (vI 0), some (vI 0), some (vI 0), none, none] [] T ?_
  refine c_11 _ 0 0 0 0 (Nat.le_refl _) ?_ ?_
  · omega
  · exact ⟨rfl, Or.inl ⟨rfl, rfl⟩⟩
theorem bk_X10_breaks_e_0 : ck_ fX10 (some .int) cX10_breaks 0 [.aload 0, .iload 1] 2 = true := qck_r (nn_ _) (by decide +kernel)
theorem bs_X10_breaks_e_0 {P : Zt → Option Zv → Prop} (K : Int → Zl → List Zv → Zt → Prop) : sx_ K P [.aload 0, .iload 1] 2 = x_aload 0 (x_iload 1 (K 2)) := ((xe_aload 0).trans (congrArg (x_aload 0) ((xe_iload 1).trans (congrArg (x_iload 1) xe_nil))))
theorem bk_X10_breaks_e_5 : ck_ fX10 (some .int) cX10_breaks 5 [.ifCond .eq 16, .aload 0, .iload 2] 10 = true := qck_r (nn_ _) (by decide +kernel)
theorem bs_X10_breaks_e_5 {P : Zt → Option Zv → Prop} (K : Int → Zl → List Zv → Zt → Prop) : sx_ K P [.ifCond .eq 16, .aload 0, .iload 2] 10 = x_ifCond .eq 16 K (x_aload 0 (x_iload 2 (K 10))) := ((xe_ifCond .eq 16).trans (congrArg (x_ifCond .eq 16 K) ((xe_aload 0).trans (congrArg (x_aload 0) ((xe_iload 2).trans (congrArg (x_iload 2) xe_nil))))))
theorem bk_X10_breaks_e_16 : ck_ fX10 (some .int) cX10_breaks 16 [.iconst (-2), .ireturn] 19 = true := qck_r (nn_ _) (by decide +kernel)
theorem bs_X10_breaks_e_16 {P : Zt → Option Zv → Prop} (K : Int → Zl → List Zv → Zt → Prop) : sx_ K P [.iconst (-2), .ireturn] 19 = x_iconst (-2) (x_ireturn P) := ((xe_iconst (-2)).trans (congrArg (x_iconst (-2)) (xe_ireturn)))
theorem bk_X10_breaks_e_13 : ck_ fX10 (some .int) cX10_breaks 13 [.ifCond .ne 19, .iconst (-2), .ireturn] 19 = true := qck_r (nn_ _) (by decide +kernel)
theorem bs_X10_breaks_e_13 {P : Zt → Option Zv → Prop} (K : Int → Zl → List Zv → Zt → Prop) : sx_ K P [.ifCond .ne 19, .iconst (-2), .ireturn] 19 = x_ifCond .ne 19 K (x_iconst (-2) (x_ireturn P)) := ((xe_ifCond .ne 19).trans (congrArg (x_ifCond .ne 19 K) ((xe_iconst (-2)).trans (congrArg (x_iconst (-2)) (xe_ireturn)))))
theorem bk_X10_breaks_e_19 : ck_ fX10 (some .int) cX10_breaks 19 [.aload 0, .tableswitch 0 10 2 #[], .tableswitch 0 6 1 #[], .iload 1, .aaload, .astore 3, .aload 3, .tableswitch 0 0 4 #[], .iload 2, .iaload, .iconst (-1), .if_icmp .eq 46, .aload 3, .tableswitch 0 0 6 #[], .ifCond .ne 49, .iconst (-4), .ireturn] 49 = true := qck_r (nn_ _) (by decide +kernel)
theorem bs_X10_breaks_e_19 {P : Zt → Option Zv → Prop} (K : Int → Zl → List Zv → Zt → Prop) : sx_ K P [.aload 0, .tableswitch 0 10 2 #[], .tableswitch 0 6 1 #[], .iload 1, .aaload, .astore 3, .aload 3, .tableswitch 0 0 4 #[], .iload 2, .iaload, .iconst (-1), .if_icmp .eq 46, .aload 3, .tableswitch 0 0 6 #[], .ifCond .ne 49, .iconst (-4), .ireturn] 49 = x_aload 0 (x_g1 110 106 (x_g1 106 521 (x_iload 1 (x_aaload (x_astore 3 (x_aload 3 (x_g2 100 404 (x_iload 2 (x_iaload (x_iconst (-1) (x_if_icmp .eq 46 K (x_aload 3 (x_g0 100 6 0 1 (x_ifCond .ne 49 K (x_iconst (-4) (x_ireturn P)))))))))))))))) := ((xe_aload 0).trans (congrArg (x_aload 0) ((xe_g1 (kk := 110) rfl tl_10_2).trans (congrArg (x_g1 110 106) ((xe_g1 (kk := 106) rfl tl_6_1).trans (congrArg (x_g1 106 521) ((xe_iload 1).trans (congrArg (x_iload 1) ((xe_aaload).trans (congrArg (x_aaload) ((xe_astore 3).trans (congrArg (x_astore 3) ((xe_aload 3).trans (congrArg (x_aload 3) ((xe_g2 (kk := 100) rfl tl_0_4).trans (congrArg (x_g2 100 404) ((xe_iload 2).trans (congrArg (x_iload 2) ((xe_iaload).trans (congrArg (x_iaload) ((xe_iconst (-1)).trans (congrArg (x_iconst (-1)) ((xe_if_icmp .eq 46).trans (congrArg (x_if_icmp .eq 46 K) ((xe_aload 3).trans (congrArg (x_aload 3) ((xe_g0 (kk := 100) rfl tl_0_6).trans (congrArg (x_g0 100 6 0 1) ((xe_ifCond .ne 49).trans (congrArg (x_ifCond .ne 49 K) ((xe_iconst (-4)).trans (congrArg (x_iconst (-4)) (xe_ireturn)))))))))))))))))))))))))))))))))
theorem bk_X10_breaks_e_46 : ck_ fX10 (some .int) cX10_breaks 46 [.iconst (-4), .ireturn] 49 = true := qck_r (nn_ _) (by decide +kernel)
theorem bs_X10_breaks_e_46 {P : Zt → Option Zv → Prop} (K : Int → Zl → List Zv → Zt → Prop) : sx_ K P [.iconst (-4), .ireturn] 49 = x_iconst (-4) (x_ireturn P) := ((xe_iconst (-4)).trans (congrArg (x_iconst (-4)) (xe_ireturn)))
theorem bk_X10_breaks_e_49 : ck_ fX10 (some .int) cX10_breaks 49 [.aload 0, .tableswitch 0 10 2 #[], .aload 3, .iload 2] 55 = true := qck_r (nn_ _) (by decide +kernel)
theorem bs_X10_breaks_e_49 {P : Zt → Option Zv → Prop} (K : Int → Zl → List Zv → Zt → Prop) : sx_ K P [.aload 0, .tableswitch 0 10 2 #[], .aload 3, .iload 2] 55 = x_aload 0 (x_g1 110 106 (x_aload 3 (x_iload 2 (K 55)))) := ((xe_aload 0).trans (congrArg (x_aload 0) ((xe_g1 (kk := 110) rfl tl_10_2).trans (congrArg (x_g1 110 106) ((xe_aload 3).trans (congrArg (x_aload 3) ((xe_iload 2).trans (congrArg (x_iload 2) xe_nil))))))))
theorem bk_X10_breaks_e_58 : ck_ fX10 (some .int) cX10_breaks 58 [.ireturn] 59 = true := qck_r (nn_ _) (by decide +kernel)
theorem bs_X10_breaks_e_58 {P : Zt → Option Zv → Prop} (K : Int → Zl → List Zv → Zt → Prop) : sx_ K P [.ireturn] 59 = x_ireturn P := (xe_ireturn)
abbrev po_X10_breaks_e (T : Zt) (c cl : Int) : Zt → Option Zv → Prop := fun T' r => T = T' ∧ ∃ x : Int, r = some (vI x) ∧ (BH9_ T c cl x)
set_option maxHeartbeats 4000000 in
theorem ct_X10_breaks_e {T : Zt} {c cl : Int} (hka : KA_ T) (hkc : KC_ T) : Ct_ yX10_breaks zX10_breaks T [vR 110 0, vI c, vI cl] (po_X10_breaks_e T c cl) := by
  refine ct_of pn_10 rfl rfl (Nat.le_of_ble_eq_true rfl) (fun hT hav => ?_)
  have hr_c : -2147483648 ≤ c ∧ c ≤ 2147483647 := hav (vI c) (List.mem_cons_of_mem _ List.mem_cons_self)
  have hr_cl : -2147483648 ≤ cl ∧ cl ≤ 2147483647 := hav (vI cl) (List.mem_cons_of_mem _ (List.mem_cons_of_mem _ List.mem_cons_self))
  have hz : zX10_breaks.2.2.2.1 = some .boolean → ∀ (T' : Zt) (x : Int), po_X10_breaks_e T c cl T' (some (vI x)) → 0 ≤ x ∧ x ≤ 1 := fun h => by cases h
  have hb_competitionCount : 0 ≤ T 106 0 2 ∧ T 106 0 2 ≤ 4 := bd_f hT 106 2 tl_6_2 0
  have hb_clubs : 0 ≤ T 108 0 2 ∧ T 108 0 2 ≤ 12 := bd_f hT 108 2 tl_8_2 0
  have hb_matchCount : 0 ≤ T 106 0 4 ∧ T 106 0 4 ≤ 400 := bd_f hT 106 4 tl_6_4 0
  show J_ zX10_breaks T (po_X10_breaks_e T c cl) 0 0 0 [some (vR 110 0), some (vI c), some (vI cl), none] [] T
  refine j_blx (F := fX10) tb_X10 (nn_ _) bk_X10_breaks_e_0 bs_X10_breaks_e_0 hz (fun K hK => ?_)
  refine hK 2 _ [vI c, vR 110 0] T ?_
  refine j_callV (y := yX10_isCompetition) (Yc := zX10_isCompetition) (rest := []) [vI c] (ct_X10_isCompetition (T := T)) cl_X10_107 (qd_c (by decide +kernel)) (nn_ _) rfl (rf_of rfl) (Nat.le_of_ble_eq_true rfl) (Nat.le_of_ble_eq_true rfl) (Nat.le_of_ble_eq_true rfl) rfl ?_
  rintro _ _ ⟨rfl, x1, rfl, hx1⟩
  show J_ zX10_breaks T (po_X10_breaks_e T c cl) 0 0 5 _ [vI x1] T
  refine j_blx (F := fX10) tb_X10 (nn_ _) bk_X10_breaks_e_5 bs_X10_breaks_e_5 hz (fun K hK => ?_)
  refine And.intro (fun c2 => ?_) (fun c2 => ?_)
  · replace hx1 := hx1.resolve_left (fun z => absurd (c2.symm.trans z.1) (by decide))
    clear c2
    refine hK 16 _ [] T ?_
    refine j_blx (F := fX10) tb_X10 (nn_ _) bk_X10_breaks_e_16 bs_X10_breaks_e_16 hz (fun K hK => ?_)
    refine (show po_X10_breaks_e T c cl T (some (vI (-2))) from ?_)
    exact ⟨rfl, _, rfl, Or.inl ⟨rfl, by omega⟩⟩
  · replace hx1 := hx1.resolve_right (fun z => c2 z.1)
    clear c2
    refine hK 10 _ [vI cl, vR 110 0] T ?_
    refine j_callV (y := yX10_isClub) (Yc := zX10_isClub) (rest := []) [vI cl] (ct_X10_isClub (T := T)) cl_X10_137 (qd_c (by decide +kernel)) (nn_ _) rfl (rf_of rfl) (Nat.le_of_ble_eq_true rfl) (Nat.le_of_ble_eq_true rfl) (Nat.le_of_ble_eq_true rfl) rfl ?_
    rintro _ _ ⟨rfl, x3, rfl, hx3⟩
    show J_ zX10_breaks T (po_X10_breaks_e T c cl) 0 0 13 _ [vI x3] T
    refine j_blx (F := fX10) tb_X10 (nn_ _) bk_X10_breaks_e_13 bs_X10_breaks_e_13 hz (fun K hK => ?_)
    refine And.intro (fun c4 => ?_) (fun c4 => ?_)
    · replace hx3 := hx3.resolve_right (fun z => c4 z.1)
      clear c4
      refine hK 19 _ [] T ?_
      refine j_blx (F := fX10) tb_X10 (nn_ _) bk_X10_breaks_e_19 bs_X10_breaks_e_19 hz (fun K hK => ?_)
      refine ix_i (by omega) ?_
      refine And.intro (fun c5 => ?_) (fun c5 => ?_)
      · exact absurd (show T 521 0 c = 0 by omega) (hka.1 _ (by omega) (by omega))
      · refine ix_i (by omega) ?_
        intro b6 b6b
        refine And.intro (fun c7 => ?_) (fun c7 => ?_)
        · refine hK 46 [some (vR 110 0), some (vI c), some (vI cl), some (vR 100 c)] [] T ?_
          refine j_blx (F := fX10) tb_X10 (nn_ _) bk_X10_breaks_e_46 bs_X10_breaks_e_46 hz (fun K hK => ?_)
          refine (show po_X10_breaks_e T c cl T (some (vI (-4))) from ?_)
          exact ⟨rfl, _, rfl, Or.inr ⟨by omega, Or.inl ⟨rfl, by omega⟩⟩⟩
        · intro b8 b8b
          refine And.intro (fun c9 => ?_) (fun c9 => ?_)
          · refine hK 49 _ [] T ?_
            refine j_blx (F := fX10) tb_X10 (nn_ _) bk_X10_breaks_e_49 bs_X10_breaks_e_49 hz (fun K hK => ?_)
            refine hK 55 _ [vI cl, vR 100 c, vR 106 0] T ?_
            refine j_callV (y := yX6_countBreaks) (Yc := zX6_countBreaks) (rest := []) [vR 100 c, vI cl] (ct_X6_countBreaks_e (T := T) (by exact hka) (by exact hkc c (by omega) (by omega))) cl_X10_230 (qd_c (by decide +kernel)) (nn_ _) rfl (rf_of rfl) (Nat.le_of_ble_eq_true rfl) (Nat.le_of_ble_eq_true rfl) (Nat.le_of_ble_eq_true rfl) rfl ?_
            rintro _ _ ⟨rfl, x10, rfl, hx10⟩
            show J_ zX10_breaks T (po_X10_breaks_e T c cl) 0 0 58 _ [vI x10] T
            refine j_blx (F := fX10) tb_X10 (nn_ _) bk_X10_breaks_e_58 bs_X10_breaks_e_58 hz (fun K hK => ?_)
            refine (show po_X10_breaks_e T c cl T (some (vI x10)) from ?_)
            exact ⟨rfl, _, rfl, Or.inr ⟨by omega, Or.inr ⟨by omega, by omega, hx10⟩⟩⟩
          · refine (show po_X10_breaks_e T c cl T (some (vI (-4))) from ?_)
            exact ⟨rfl, _, rfl, Or.inr ⟨by omega, Or.inl ⟨rfl, by omega⟩⟩⟩
    · replace hx3 := hx3.resolve_left (fun z => absurd (c4.symm.trans z.1) (by decide))
      clear c4
      refine (show po_X10_breaks_e T c cl T (some (vI (-2))) from ?_)
      exact ⟨rfl, _, rfl, Or.inl ⟨rfl, by omega⟩⟩
theorem bk_X11_breaks_e_59 : ck_ fX11 (some .int) cX11_breaks 59 [.iload 5, .aload 0, .tableswitch 0 11 10 #[], .iload 1, .iaload, .aload 0, .tableswitch 0 11 11 #[], .iload 1, .iaload, .iadd, .if_icmp .ge 142, .aload 0, .tableswitch 0 11 32 #[], .iload 5, .iaload, .iload 2, .if_icmp .eq 99, .aload 0, .tableswitch 0 11 33 #[], .iload 5, .iaload, .iload 2, .if_icmp .ne 136, .aload 0, .tableswitch 0 11 32 #[], .iload 5, .iaload, .iload 2, .if_icmp .ne 114, .iconst 0, .goto 115] 114 = true := qck_r (nn_ _) (by decide +kernel)
theorem bs_X11_breaks_e_59 {P : Zt → Option Zv → Prop} (K : Int → Zl → List Zv → Zt → Prop) : sx_ K P [.iload 5, .aload 0, .tableswitch 0 11 10 #[], .iload 1, .iaload, .aload 0, .tableswitch 0 11 11 #[], .iload 1, .iaload, .iadd, .if_icmp .ge 142, .aload 0, .tableswitch 0 11 32 #[], .iload 5, .iaload, .iload 2, .if_icmp .eq 99, .aload 0, .tableswitch 0 11 33 #[], .iload 5, .iaload, .iload 2, .if_icmp .ne 136, .aload 0, .tableswitch 0 11 32 #[], .iload 5, .iaload, .iload 2, .if_icmp .ne 114, .iconst 0, .goto 115] 114 = x_iload 5 (x_aload 0 (x_g1 111 210 (x_iload 1 (x_iaload (x_aload 0 (x_g1 111 211 (x_iload 1 (x_iaload (x_iadd (x_if_icmp .ge 142 K (x_aload 0 (x_g1 111 232 (x_iload 5 (x_iaload (x_iload 2 (x_if_icmp .eq 99 K (x_aload 0 (x_g1 111 233 (x_iload 5 (x_iaload (x_iload 2 (x_if_icmp .ne 136 K (x_aload 0 (x_g1 111 232 (x_iload 5 (x_iaload (x_iload 2 (x_if_icmp .ne 114 K (x_iconst 0 (x_goto 115 K)))))))))))))))))))))))))))))) := ((xe_iload 5).trans (congrArg (x_iload 5) ((xe_aload 0).trans (congrArg (x_aload 0) ((xe_g1 (kk := 111) rfl tl_11_10).trans (congrArg (x_g1 111 210) ((xe_iload 1).trans (congrArg (x_iload 1) ((xe_iaload).trans (congrArg (x_iaload) ((xe_aload 0).trans (congrArg (x_aload 0) ((xe_g1 (kk := 111) rfl tl_11_11).trans (congrArg (x_g1 111 211) ((xe_iload 1).trans (congrArg (x_iload 1) ((xe_iaload).trans (congrArg (x_iaload) ((xe_iadd).trans (congrArg (x_iadd) ((xe_if_icmp .ge 142).trans (congrArg (x_if_icmp .ge 142 K) ((xe_aload 0).trans (congrArg (x_aload 0) ((xe_g1 (kk := 111) rfl tl_11_32).trans (congrArg (x_g1 111 232) ((xe_iload 5).trans (congrArg (x_iload 5) ((xe_iaload).trans (congrArg (x_iaload) ((xe_iload 2).trans (congrArg (x_iload 2) ((xe_if_icmp .eq 99).trans (congrArg (x_if_icmp .eq 99 K) ((xe_aload 0).trans (congrArg (x_aload 0) ((xe_g1 (kk := 111) rfl tl_11_33).trans (congrArg (x_g1 111 233) ((xe_iload 5).trans (congrArg (x_iload 5) ((xe_iaload).trans (congrArg (x_iaload) ((xe_iload 2).trans (congrArg (x_iload 2) ((xe_if_icmp .ne 136).trans (congrArg (x_if_icmp .ne 136 K) ((xe_aload 0).trans (congrArg (x_aload 0) ((xe_g1 (kk := 111) rfl tl_11_32).trans (congrArg (x_g1 111 232) ((xe_iload 5).trans (congrArg (x_iload 5) ((xe_iaload).trans (congrArg (x_iaload) ((xe_iload 2).trans (congrArg (x_iload 2) ((xe_if_icmp .ne 114).trans (congrArg (x_if_icmp .ne 114 K) ((xe_iconst 0).trans (congrArg (x_iconst 0) (xe_goto 115)))))))))))))))))))))))))))))))))))))))))))))))))))))))))))))
theorem bk_X11_breaks_e_142 : ck_ fX11 (some .int) cX11_breaks 142 [.iload 4, .ireturn] 145 = true := qck_r (nn_ _) (by decide +kernel)
theorem bs_X11_breaks_e_142 {P : Zt → Option Zv → Prop} (K : Int → Zl → List Zv → Zt → Prop) : sx_ K P [.iload 4, .ireturn] 145 = x_iload 4 (x_ireturn P) := ((xe_iload 4).trans (congrArg (x_iload 4) (xe_ireturn)))
theorem bk_X11_breaks_e_99 : ck_ fX11 (some .int) cX11_breaks 99 [.aload 0, .tableswitch 0 11 32 #[], .iload 5, .iaload, .iload 2, .if_icmp .ne 114, .iconst 0, .goto 115] 114 = true := qck_r (nn_ _) (by decide +kernel)
theorem bs_X11_breaks_e_99 {P : Zt → Option Zv → Prop} (K : Int → Zl → List Zv → Zt → Prop) : sx_ K P [.aload 0, .tableswitch 0 11 32 #[], .iload 5, .iaload, .iload 2, .if_icmp .ne 114, .iconst 0, .goto 115] 114 = x_aload 0 (x_g1 111 232 (x_iload 5 (x_iaload (x_iload 2 (x_if_icmp .ne 114 K (x_iconst 0 (x_goto 115 K))))))) := ((xe_aload 0).trans (congrArg (x_aload 0) ((xe_g1 (kk := 111) rfl tl_11_32).trans (congrArg (x_g1 111 232) ((xe_iload 5).trans (congrArg (x_iload 5) ((xe_iaload).trans (congrArg (x_iaload) ((xe_iload 2).trans (congrArg (x_iload 2) ((xe_if_icmp .ne 114).trans (congrArg (x_if_icmp .ne 114 K) ((xe_iconst 0).trans (congrArg (x_iconst 0) (xe_goto 115)))))))))))))))
theorem bk_X11_breaks_e_114 : ck_ fX11 (some .int) cX11_breaks 114 [.iconst 1, .istore 6, .iload 4, .iload 6, .iload 3, .if_icmp .ne 129, .iconst 1, .goto 130] 129 = true := qck_r (nn_ _) (by decide +kernel)
theorem bs_X11_breaks_e_114 {P : Zt → Option Zv → Prop} (K : Int → Zl → List Zv → Zt → Prop) : sx_ K P [.iconst 1, .istore 6, .iload 4, .iload 6, .iload 3, .if_icmp .ne 129, .iconst 1, .goto 130] 129 = x_iconst 1 (x_istore 6 (x_iload 4 (x_iload 6 (x_iload 3 (x_if_icmp .ne 129 K (x_iconst 1 (x_goto 130 K))))))) := ((xe_iconst 1).trans (congrArg (x_iconst 1) ((xe_istore 6).trans (congrArg (x_istore 6) ((xe_iload 4).trans (congrArg (x_iload 4) ((xe_iload 6).trans (congrArg (x_iload 6) ((xe_iload 3).trans (congrArg (x_iload 3) ((xe_if_icmp .ne 129).trans (congrArg (x_if_icmp .ne 129 K) ((xe_iconst 1).trans (congrArg (x_iconst 1) (xe_goto 130)))))))))))))))
theorem bk_X11_breaks_e_129 : ck_ fX11 (some .int) cX11_breaks 129 [.iconst 0, .iadd, .istore 4, .iload 6, .istore 3, .iinc 5 1, .goto 59] 142 = true := qck_r (nn_ _) (by decide +kernel)
theorem bs_X11_breaks_e_129 {P : Zt → Option Zv → Prop} (K : Int → Zl → List Zv → Zt → Prop) : sx_ K P [.iconst 0, .iadd, .istore 4, .iload 6, .istore 3, .iinc 5 1, .goto 59] 142 = x_iconst 0 (x_iadd (x_istore 4 (x_iload 6 (x_istore 3 (x_iinc 5 1 (x_goto 59 K)))))) := ((xe_iconst 0).trans (congrArg (x_iconst 0) ((xe_iadd).trans (congrArg (x_iadd) ((xe_istore 4).trans (congrArg (x_istore 4) ((xe_iload 6).trans (congrArg (x_iload 6) ((xe_istore 3).trans (congrArg (x_istore 3) ((xe_iinc 5 1).trans (congrArg (x_iinc 5 1) (xe_goto 59)))))))))))))
theorem bk_X11_breaks_e_130 : ck_ fX11 (some .int) cX11_breaks 130 [.iadd, .istore 4, .iload 6, .istore 3, .iinc 5 1, .goto 59] 142 = true := qck_r (nn_ _) (by decide +kernel)
theorem bs_X11_breaks_e_130 {P : Zt → Option Zv → Prop} (K : Int → Zl → List Zv → Zt → Prop) : sx_ K P [.iadd, .istore 4, .iload 6, .istore 3, .iinc 5 1, .goto 59] 142 = x_iadd (x_istore 4 (x_iload 6 (x_istore 3 (x_iinc 5 1 (x_goto 59 K))))) := ((xe_iadd).trans (congrArg (x_iadd) ((xe_istore 4).trans (congrArg (x_istore 4) ((xe_iload 6).trans (congrArg (x_iload 6) ((xe_istore 3).trans (congrArg (x_istore 3) ((xe_iinc 5 1).trans (congrArg (x_iinc 5 1) (xe_goto 59)))))))))))
theorem bk_X11_breaks_e_115 : ck_ fX11 (some .int) cX11_breaks 115 [.istore 6, .iload 4, .iload 6, .iload 3, .if_icmp .ne 129, .iconst 1, .goto 130] 129 = true := qck_r (nn_ _) (by decide +kernel)
theorem bs_X11_breaks_e_115 {P : Zt → Option Zv → Prop} (K : Int → Zl → List Zv → Zt → Prop) : sx_ K P [.istore 6, .iload 4, .iload 6, .iload 3, .if_icmp .ne 129, .iconst 1, .goto 130] 129 = x_istore 6 (x_iload 4 (x_iload 6 (x_iload 3 (x_if_icmp .ne 129 K (x_iconst 1 (x_goto 130 K)))))) := ((xe_istore 6).trans (congrArg (x_istore 6) ((xe_iload 4).trans (congrArg (x_iload 4) ((xe_iload 6).trans (congrArg (x_iload 6) ((xe_iload 3).trans (congrArg (x_iload 3) ((xe_if_icmp .ne 129).trans (congrArg (x_if_icmp .ne 129 K) ((xe_iconst 1).trans (congrArg (x_iconst 1) (xe_goto 130)))))))))))))
theorem bk_X11_breaks_e_136 : ck_ fX11 (some .int) cX11_breaks 136 [.iinc 5 1, .goto 59] 142 = true := qck_r (nn_ _) (by decide +kernel)
theorem bs_X11_breaks_e_136 {P : Zt → Option Zv → Prop} (K : Int → Zl → List Zv → Zt → Prop) : sx_ K P [.iinc 5 1, .goto 59] 142 = x_iinc 5 1 (x_goto 59 K) := ((xe_iinc 5 1).trans (congrArg (x_iinc 5 1) (xe_goto 59)))
theorem bk_X11_breaks_e_0 : ck_ fX11 (some .int) cX11_breaks 0 [.iload 1, .aload 0, .tableswitch 0 11 6 #[]] 5 = true := qck_r (nn_ _) (by decide +kernel)
theorem bs_X11_breaks_e_0 {P : Zt → Option Zv → Prop} (K : Int → Zl → List Zv → Zt → Prop) : sx_ K P [.iload 1, .aload 0, .tableswitch 0 11 6 #[]] 5 = x_iload 1 (x_aload 0 (x_g0 111 6 0 4 (K 5))) := ((xe_iload 1).trans (congrArg (x_iload 1) ((xe_aload 0).trans (congrArg (x_aload 0) ((xe_g0 (kk := 111) rfl tl_11_6).trans (congrArg (x_g0 111 6 0 4) xe_nil))))))
theorem bk_X11_breaks_e_8 : ck_ fX11 (some .int) cX11_breaks 8 [.ifCond .eq 22, .iload 2, .aload 0, .tableswitch 0 11 12 #[]] 16 = true := qck_r (nn_ _) (by decide +kernel)
theorem bs_X11_breaks_e_8 {P : Zt → Option Zv → Prop} (K : Int → Zl → List Zv → Zt → Prop) : sx_ K P [.ifCond .eq 22, .iload 2, .aload 0, .tableswitch 0 11 12 #[]] 16 = x_ifCond .eq 22 K (x_iload 2 (x_aload 0 (x_g0 111 12 0 12 (K 16)))) := ((xe_ifCond .eq 22).trans (congrArg (x_ifCond .eq 22 K) ((xe_iload 2).trans (congrArg (x_iload 2) ((xe_aload 0).trans (congrArg (x_aload 0) ((xe_g0 (kk := 111) rfl tl_11_12).trans (congrArg (x_g0 111 12 0 12) xe_nil))))))))
theorem bk_X11_breaks_e_22 : ck_ fX11 (some .int) cX11_breaks 22 [.iconst (-2), .ireturn] 25 = true := qck_r (nn_ _) (by decide +kernel)
theorem bs_X11_breaks_e_22 {P : Zt → Option Zv → Prop} (K : Int → Zl → List Zv → Zt → Prop) : sx_ K P [.iconst (-2), .ireturn] 25 = x_iconst (-2) (x_ireturn P) := ((xe_iconst (-2)).trans (congrArg (x_iconst (-2)) (xe_ireturn)))
theorem bk_X11_breaks_e_19 : ck_ fX11 (some .int) cX11_breaks 19 [.ifCond .ne 25, .iconst (-2), .ireturn] 25 = true := qck_r (nn_ _) (by decide +kernel)
theorem bs_X11_breaks_e_19 {P : Zt → Option Zv → Prop} (K : Int → Zl → List Zv → Zt → Prop) : sx_ K P [.ifCond .ne 25, .iconst (-2), .ireturn] 25 = x_ifCond .ne 25 K (x_iconst (-2) (x_ireturn P)) := ((xe_ifCond .ne 25).trans (congrArg (x_ifCond .ne 25 K) ((xe_iconst (-2)).trans (congrArg (x_iconst (-2)) (xe_ireturn)))))
theorem bk_X11_breaks_e_25 : ck_ fX11 (some .int) cX11_breaks 25 [.aload 0, .tableswitch 0 11 9 #[], .iload 1, .baload, .ifCond .eq 43, .aload 0, .iload 1, .iload 2] 37 = true := qck_r (nn_ _) (by decide +kernel)
theorem bs_X11_breaks_e_25 {P : Zt → Option Zv → Prop} (K : Int → Zl → List Zv → Zt → Prop) : sx_ K P [.aload 0, .tableswitch 0 11 9 #[], .iload 1, .baload, .ifCond .eq 43, .aload 0, .iload 1, .iload 2] 37 = x_aload 0 (x_g1 111 209 (x_iload 1 (x_baload (x_ifCond .eq 43 K (x_aload 0 (x_iload 1 (x_iload 2 (K 37)))))))) := ((xe_aload 0).trans (congrArg (x_aload 0) ((xe_g1 (kk := 111) rfl tl_11_9).trans (congrArg (x_g1 111 209) ((xe_iload 1).trans (congrArg (x_iload 1) ((xe_baload).trans (congrArg (x_baload) ((xe_ifCond .eq 43).trans (congrArg (x_ifCond .eq 43 K) ((xe_aload 0).trans (congrArg (x_aload 0) ((xe_iload 1).trans (congrArg (x_iload 1) ((xe_iload 2).trans (congrArg (x_iload 2) xe_nil))))))))))))))))
theorem bk_X11_breaks_e_43 : ck_ fX11 (some .int) cX11_breaks 43 [.iconst (-4), .ireturn] 46 = true := qck_r (nn_ _) (by decide +kernel)
theorem bs_X11_breaks_e_43 {P : Zt → Option Zv → Prop} (K : Int → Zl → List Zv → Zt → Prop) : sx_ K P [.iconst (-4), .ireturn] 46 = x_iconst (-4) (x_ireturn P) := ((xe_iconst (-4)).trans (congrArg (x_iconst (-4)) (xe_ireturn)))
theorem bk_X11_breaks_e_40 : ck_ fX11 (some .int) cX11_breaks 40 [.ifCond .ne 46, .iconst (-4), .ireturn] 46 = true := qck_r (nn_ _) (by decide +kernel)
theorem bs_X11_breaks_e_40 {P : Zt → Option Zv → Prop} (K : Int → Zl → List Zv → Zt → Prop) : sx_ K P [.ifCond .ne 46, .iconst (-4), .ireturn] 46 = x_ifCond .ne 46 K (x_iconst (-4) (x_ireturn P)) := ((xe_ifCond .ne 46).trans (congrArg (x_ifCond .ne 46 K) ((xe_iconst (-4)).trans (congrArg (x_iconst (-4)) (xe_ireturn)))))
theorem bk_X11_breaks_e_46 : ck_ fX11 (some .int) cX11_breaks 46 [.iconst (-1), .istore 3, .iconst 0, .istore 4, .aload 0, .tableswitch 0 11 10 #[], .iload 1, .iaload, .istore 5] 59 = true := qck_r (nn_ _) (by decide +kernel)
theorem bs_X11_breaks_e_46 {P : Zt → Option Zv → Prop} (K : Int → Zl → List Zv → Zt → Prop) : sx_ K P [.iconst (-1), .istore 3, .iconst 0, .istore 4, .aload 0, .tableswitch 0 11 10 #[], .iload 1, .iaload, .istore 5] 59 = x_iconst (-1) (x_istore 3 (x_iconst 0 (x_istore 4 (x_aload 0 (x_g1 111 210 (x_iload 1 (x_iaload (x_istore 5 (K 59))))))))) := ((xe_iconst (-1)).trans (congrArg (x_iconst (-1)) ((xe_istore 3).trans (congrArg (x_istore 3) ((xe_iconst 0).trans (congrArg (x_iconst 0) ((xe_istore 4).trans (congrArg (x_istore 4) ((xe_aload 0).trans (congrArg (x_aload 0) ((xe_g1 (kk := 111) rfl tl_11_10).trans (congrArg (x_g1 111 210) ((xe_iload 1).trans (congrArg (x_iload 1) ((xe_iaload).trans (congrArg (x_iaload) ((xe_istore 5).trans (congrArg (x_istore 5) xe_nil))))))))))))))))))
abbrev po_X11_breaks_e (T : Zt) (c cl : Int) : Zt → Option Zv → Prop := fun T' r => T = T' ∧ ∃ x : Int, r = some (vI x) ∧ (BR9_ T c cl x)
set_option maxHeartbeats 4000000 in
theorem ct_X11_breaks_e {T : Zt} {c cl : Int} (hML : ML_ T) : Ct_ yX11_breaks zX11_breaks T [vR 111 0, vI c, vI cl] (po_X11_breaks_e T c cl) := by
  refine ct_of pn_11 rfl rfl (Nat.le_of_ble_eq_true rfl) (fun hT hav => ?_)
  have hr_c : -2147483648 ≤ c ∧ c ≤ 2147483647 := hav (vI c) (List.mem_cons_of_mem _ List.mem_cons_self)
  have hr_cl : -2147483648 ≤ cl ∧ cl ≤ 2147483647 := hav (vI cl) (List.mem_cons_of_mem _ (List.mem_cons_of_mem _ List.mem_cons_self))
  have hz : zX11_breaks.2.2.2.1 = some .boolean → ∀ (T' : Zt) (x : Int), po_X11_breaks_e T c cl T' (some (vI x)) → 0 ≤ x ∧ x ≤ 1 := fun h => by cases h
  have hb_29 : 0 ≤ T 111 0 29 ∧ T 111 0 29 ≤ 400 := bd_f hT 111 29 tl_11_29 0
  have hb_6 : 0 ≤ T 111 0 6 ∧ T 111 0 6 ≤ 4 := bd_f hT 111 6 tl_11_6 0
  have hb_12 : 0 ≤ T 111 0 12 ∧ T 111 0 12 ≤ 12 := bd_f hT 111 12 tl_11_12 0
  show J_ zX11_breaks T (po_X11_breaks_e T c cl) 0 0 0 [some (vR 111 0), some (vI c), some (vI cl), none, none, none, none] [] T
  have c_59 : ∀ (nn : Nat) (la : Int) (mn : Int) (m : Int), ((400 - m).toNat) ≤ nn → ((0 ≤ c ∧ c < T 111 0 6) ∧ 0 ≤ cl ∧ cl < T 111 0 12) → (T 209 0 c ≠ 0) → (HE_ T c cl) → (T 210 0 c ≤ m ∧ m ≤ T 210 0 c + T 211 0 c ∧ 0 ≤ mn ∧ mn ≤ m - T 210 0 c ∧ 0 ≤ T 210 0 c ∧ 0 ≤ T 211 0 c ∧ T 210 0 c + T 211 0 c ≤ 400) → (mn = (bk9_ (fun m => T 232 0 m) (fun m => T 233 0 m) cl (T 210 0 c) (m - T 210 0 c).toNat).1 ∧ la = (bk9_ (fun m => T 232 0 m) (fun m => T 233 0 m) cl (T 210 0 c) (m - T 210 0 c).toNat).2) → J_ zX11_breaks T (po_X11_breaks_e T c cl) 0 0 59 [some (vR 111 0), some (vI c), some (vI cl), some (vI la), some (vI mn), some (vI m), none] [] T := by
    intro nn
    induction nn using Nat.strongRecOn with
    | _ nn ih_59 =>
      intro la mn m hm_59 c0 hpl hhe i1 ib
      replace hm_59 := fun (_ : Unit) => hm_59
      refine j_blx (F := fX11) tb_X11 (nn_ _) bk_X11_breaks_e_59 bs_X11_breaks_e_59 hz (fun K hK => ?_)
      refine ix_i (by omega) ?_
      intro b1 b1b
      refine ix_i (by omega) ?_
      intro b2 b2b
      refine rg_i (by omega) ?_
      refine And.intro (fun c3 => ?_) (fun c3 => ?_)
      · refine hK 142 _ [] T ?_
        refine j_blx (F := fX11) tb_X11 (nn_ _) bk_X11_breaks_e_142 bs_X11_breaks_e_142 hz (fun K hK => ?_)
        refine (show po_X11_breaks_e T c cl T (some (vI mn)) from ?_)
        exact ⟨rfl, _, rfl, Or.inr ⟨by omega, Or.inr ⟨hpl, hhe, by rw [show T 211 0 c = m - T 210 0 c by omega]; exact ib.1⟩⟩⟩
      · refine ix_i (by omega) ?_
        intro b4 b4b
        refine And.intro (fun c5 => ?_) (fun c5 => ?_)
        · refine hK 99 _ [] T ?_
          refine j_blx (F := fX11) tb_X11 (nn_ _) bk_X11_breaks_e_99 bs_X11_breaks_e_99 hz (fun K hK => ?_)
          refine ix_i (by omega) ?_
          intro b6 b6b
          refine And.intro (fun c7 => ?_) (fun c7 => ?_)
          · refine hK 114 _ [] T ?_
            refine j_blx (F := fX11) tb_X11 (nn_ _) bk_X11_breaks_e_114 bs_X11_breaks_e_114 hz (fun K hK => ?_)
            refine And.intro (fun c8 => ?_) (fun c8 => ?_)
            · refine hK 129 [some (vR 111 0), some (vI c), some (vI cl), some (vI la), some (vI mn), some (vI m), some (vI 1)] [vI mn] T ?_
              refine j_blx (F := fX11) tb_X11 (nn_ _) bk_X11_breaks_e_129 bs_X11_breaks_e_129 hz (fun K hK => ?_)
              refine rg_i (by omega) ?_
              refine rg_i (by omega) ?_
              refine hK 59 [some (vR 111 0), some (vI c), some (vI cl), some (vI 1), some (vI (mn + 0)), some (vI (m + 1)), some (vI 1)] [] T ?_
              refine j_drq [some (vR 111 0), some (vI c), some (vI cl), some (vI 1), some (vI (mn + 0)), some (vI (m + 1)), none] (drq_s (drq_s (drq_s (drq_s (drq_s (drq_s (drq_n drq_0))))))) ?_
              refine ih_59 _ ?_ 1 (mn + 0) (m + 1) (Nat.le_refl _) ?_ ?_ ?_ ?_ ?_
              · have hm_59 := hm_59 (); omega
              · omega
              · omega
              · exact hhe
              · first
                | omega
                | (have hml9 := hML c (by omega) (by omega); omega)
              · have em : (m + 1 - T 210 0 c).toNat = ((m - T 210 0 c) + 1).toNat := by omega
                rw [em]
                have y9 := bk9_u (H := fun m => T 232 0 m) (A := fun m => T 233 0 m) (b := cl) (f := T 210 0 c) (k := m - T 210 0 c) (by omega) (show T 232 0 (T 210 0 c + (m - T 210 0 c)) = cl ∨ T 233 0 (T 210 0 c + (m - T 210 0 c)) = cl by rw [show T 210 0 c + (m - T 210 0 c) = m by omega]; omega) (bs9_n (H := fun m => T 232 0 m) (show T 232 0 (T 210 0 c + (m - T 210 0 c)) ≠ cl by rw [show T 210 0 c + (m - T 210 0 c) = m by omega]; omega))
                omega
            · refine hK 130 [some (vR 111 0), some (vI c), some (vI cl), some (vI la), some (vI mn), some (vI m), some (vI 1)] [vI 1, vI mn] T ?_
              refine j_blx (F := fX11) tb_X11 (nn_ _) bk_X11_breaks_e_130 bs_X11_breaks_e_130 hz (fun K hK => ?_)
              refine rg_i (by omega) ?_
              refine rg_i (by omega) ?_
              refine hK 59 [some (vR 111 0), some (vI c), some (vI cl), some (vI 1), some (vI (mn + 1)), some (vI (m + 1)), some (vI 1)] [] T ?_
              refine j_drq [some (vR 111 0), some (vI c), some (vI cl), some (vI 1), some (vI (mn + 1)), some (vI (m + 1)), none] (drq_s (drq_s (drq_s (drq_s (drq_s (drq_s (drq_n drq_0))))))) ?_
              refine ih_59 _ ?_ 1 (mn + 1) (m + 1) (Nat.le_refl _) ?_ ?_ ?_ ?_ ?_
              · have hm_59 := hm_59 (); omega
              · omega
              · omega
              · exact hhe
              · first
                | omega
                | (have hml9 := hML c (by omega) (by omega); omega)
              · have em : (m + 1 - T 210 0 c).toNat = ((m - T 210 0 c) + 1).toNat := by omega
                rw [em]
                have y9 := bk9_u (H := fun m => T 232 0 m) (A := fun m => T 233 0 m) (b := cl) (f := T 210 0 c) (k := m - T 210 0 c) (by omega) (show T 232 0 (T 210 0 c + (m - T 210 0 c)) = cl ∨ T 233 0 (T 210 0 c + (m - T 210 0 c)) = cl by rw [show T 210 0 c + (m - T 210 0 c) = m by omega]; omega) (bs9_n (H := fun m => T 232 0 m) (show T 232 0 (T 210 0 c + (m - T 210 0 c)) ≠ cl by rw [show T 210 0 c + (m - T 210 0 c) = m by omega]; omega))
                omega
          · refine hK 115 _ [vI 0] T ?_
            refine j_blx (F := fX11) tb_X11 (nn_ _) bk_X11_breaks_e_115 bs_X11_breaks_e_115 hz (fun K hK => ?_)
            refine And.intro (fun c9 => ?_) (fun c9 => ?_)
            · refine hK 129 [some (vR 111 0), some (vI c), some (vI cl), some (vI la), some (vI mn), some (vI m), some (vI 0)] [vI mn] T ?_
              refine j_blx (F := fX11) tb_X11 (nn_ _) bk_X11_breaks_e_129 bs_X11_breaks_e_129 hz (fun K hK => ?_)
              refine rg_i (by omega) ?_
              refine rg_i (by omega) ?_
              refine hK 59 [some (vR 111 0), some (vI c), some (vI cl), some (vI 0), some (vI (mn + 0)), some (vI (m + 1)), some (vI 0)] [] T ?_
              refine j_drq [some (vR 111 0), some (vI c), some (vI cl), some (vI 0), some (vI (mn + 0)), some (vI (m + 1)), none] (drq_s (drq_s (drq_s (drq_s (drq_s (drq_s (drq_n drq_0))))))) ?_
              refine ih_59 _ ?_ 0 (mn + 0) (m + 1) (Nat.le_refl _) ?_ ?_ ?_ ?_ ?_
              · have hm_59 := hm_59 (); omega
              · omega
              · omega
              · exact hhe
              · first
                | omega
                | (have hml9 := hML c (by omega) (by omega); omega)
              · have em : (m + 1 - T 210 0 c).toNat = ((m - T 210 0 c) + 1).toNat := by omega
                rw [em]
                have y9 := bk9_u (H := fun m => T 232 0 m) (A := fun m => T 233 0 m) (b := cl) (f := T 210 0 c) (k := m - T 210 0 c) (by omega) (show T 232 0 (T 210 0 c + (m - T 210 0 c)) = cl ∨ T 233 0 (T 210 0 c + (m - T 210 0 c)) = cl by rw [show T 210 0 c + (m - T 210 0 c) = m by omega]; omega) (bs9_y (H := fun m => T 232 0 m) (show T 232 0 (T 210 0 c + (m - T 210 0 c)) = cl by rw [show T 210 0 c + (m - T 210 0 c) = m by omega]; omega))
                omega
            · refine hK 130 [some (vR 111 0), some (vI c), some (vI cl), some (vI la), some (vI mn), some (vI m), some (vI 0)] [vI 1, vI mn] T ?_
              refine j_blx (F := fX11) tb_X11 (nn_ _) bk_X11_breaks_e_130 bs_X11_breaks_e_130 hz (fun K hK => ?_)
              refine rg_i (by omega) ?_
              refine rg_i (by omega) ?_
              refine hK 59 [some (vR 111 0), some (vI c), some (vI cl), some (vI 0), some (vI (mn + 1)), some (vI (m + 1)), some (vI 0)] [] T ?_
              refine j_drq [some (vR 111 0), some (vI c), some (vI cl), some (vI 0), some (vI (mn + 1)), some (vI (m + 1)), none] (drq_s (drq_s (drq_s (drq_s (drq_s (drq_s (drq_n drq_0))))))) ?_
              refine ih_59 _ ?_ 0 (mn + 1) (m + 1) (Nat.le_refl _) ?_ ?_ ?_ ?_ ?_
              · have hm_59 := hm_59 (); omega
              · omega
              · omega
              · exact hhe
              · first
                | omega
                | (have hml9 := hML c (by omega) (by omega); omega)
              · have em : (m + 1 - T 210 0 c).toNat = ((m - T 210 0 c) + 1).toNat := by omega
                rw [em]
                have y9 := bk9_u (H := fun m => T 232 0 m) (A := fun m => T 233 0 m) (b := cl) (f := T 210 0 c) (k := m - T 210 0 c) (by omega) (show T 232 0 (T 210 0 c + (m - T 210 0 c)) = cl ∨ T 233 0 (T 210 0 c + (m - T 210 0 c)) = cl by rw [show T 210 0 c + (m - T 210 0 c) = m by omega]; omega) (bs9_y (H := fun m => T 232 0 m) (show T 232 0 (T 210 0 c + (m - T 210 0 c)) = cl by rw [show T 210 0 c + (m - T 210 0 c) = m by omega]; omega))
                omega
        · refine ix_i (by omega) ?_
          intro b10 b10b
          refine And.intro (fun c11 => ?_) (fun c11 => ?_)
          · refine hK 136 _ [] T ?_
            refine j_blx (F := fX11) tb_X11 (nn_ _) bk_X11_breaks_e_136 bs_X11_breaks_e_136 hz (fun K hK => ?_)
            refine rg_i (by omega) ?_
            refine hK 59 [some (vR 111 0), some (vI c), some (vI cl), some (vI la), some (vI mn), some (vI (m + 1)), none] [] T ?_
            refine ih_59 _ ?_ la mn (m + 1) (Nat.le_refl _) ?_ ?_ ?_ ?_ ?_
            · have hm_59 := hm_59 (); omega
            · omega
            · omega
            · exact hhe
            · first
              | omega
              | (have hml9 := hML c (by omega) (by omega); omega)
            · have em : (m + 1 - T 210 0 c).toNat = ((m - T 210 0 c) + 1).toNat := by omega
              rw [em]
              rw [bk9_f (H := fun m => T 232 0 m) (A := fun m => T 233 0 m) (b := cl) (f := T 210 0 c) (k := m - T 210 0 c) (by omega) (show ¬ (T 232 0 (T 210 0 c + (m - T 210 0 c)) = cl ∨ T 233 0 (T 210 0 c + (m - T 210 0 c)) = cl) by rw [show T 210 0 c + (m - T 210 0 c) = m by omega]; omega)]
              exact ib
          · refine ix_i (by omega) ?_
            intro b12 b12b
            refine And.intro (fun c13 => ?_) (fun c13 => ?_)
            · refine hK 114 [some (vR 111 0), some (vI c), some (vI cl), some (vI la), some (vI mn), some (vI m), none] [] T ?_
              refine j_blx (F := fX11) tb_X11 (nn_ _) bk_X11_breaks_e_114 bs_X11_breaks_e_114 hz (fun K hK => ?_)
              refine And.intro (fun c14 => ?_) (fun c14 => ?_)
              · refine hK 129 [some (vR 111 0), some (vI c), some (vI cl), some (vI la), some (vI mn), some (vI m), some (vI 1)] [vI mn] T ?_
                refine j_blx (F := fX11) tb_X11 (nn_ _) bk_X11_breaks_e_129 bs_X11_breaks_e_129 hz (fun K hK => ?_)
                refine rg_i (by omega) ?_
                refine rg_i (by omega) ?_
                refine hK 59 [some (vR 111 0), some (vI c), some (vI cl), some (vI 1), some (vI (mn + 0)), some (vI (m + 1)), some (vI 1)] [] T ?_
                refine j_drq [some (vR 111 0), some (vI c), some (vI cl), some (vI 1), some (vI (mn + 0)), some (vI (m + 1)), none] (drq_s (drq_s (drq_s (drq_s (drq_s (drq_s (drq_n drq_0))))))) ?_
                refine ih_59 _ ?_ 1 (mn + 0) (m + 1) (Nat.le_refl _) ?_ ?_ ?_ ?_ ?_
                · have hm_59 := hm_59 (); omega
                · omega
                · omega
                · exact hhe
                · first
                  | omega
                  | (have hml9 := hML c (by omega) (by omega); omega)
                · have em : (m + 1 - T 210 0 c).toNat = ((m - T 210 0 c) + 1).toNat := by omega
                  rw [em]
                  have y9 := bk9_u (H := fun m => T 232 0 m) (A := fun m => T 233 0 m) (b := cl) (f := T 210 0 c) (k := m - T 210 0 c) (by omega) (show T 232 0 (T 210 0 c + (m - T 210 0 c)) = cl ∨ T 233 0 (T 210 0 c + (m - T 210 0 c)) = cl by rw [show T 210 0 c + (m - T 210 0 c) = m by omega]; omega) (bs9_n (H := fun m => T 232 0 m) (show T 232 0 (T 210 0 c + (m - T 210 0 c)) ≠ cl by rw [show T 210 0 c + (m - T 210 0 c) = m by omega]; omega))
                  omega
              · refine hK 130 [some (vR 111 0), some (vI c), some (vI cl), some (vI la), some (vI mn), some (vI m), some (vI 1)] [vI 1, vI mn] T ?_
                refine j_blx (F := fX11) tb_X11 (nn_ _) bk_X11_breaks_e_130 bs_X11_breaks_e_130 hz (fun K hK => ?_)
                refine rg_i (by omega) ?_
                refine rg_i (by omega) ?_
                refine hK 59 [some (vR 111 0), some (vI c), some (vI cl), some (vI 1), some (vI (mn + 1)), some (vI (m + 1)), some (vI 1)] [] T ?_
                refine j_drq [some (vR 111 0), some (vI c), some (vI cl), some (vI 1), some (vI (mn + 1)), some (vI (m + 1)), none] (drq_s (drq_s (drq_s (drq_s (drq_s (drq_s (drq_n drq_0))))))) ?_
                refine ih_59 _ ?_ 1 (mn + 1) (m + 1) (Nat.le_refl _) ?_ ?_ ?_ ?_ ?_
                · have hm_59 := hm_59 (); omega
                · omega
                · omega
                · exact hhe
                · first
                  | omega
                  | (have hml9 := hML c (by omega) (by omega); omega)
                · have em : (m + 1 - T 210 0 c).toNat = ((m - T 210 0 c) + 1).toNat := by omega
                  rw [em]
                  have y9 := bk9_u (H := fun m => T 232 0 m) (A := fun m => T 233 0 m) (b := cl) (f := T 210 0 c) (k := m - T 210 0 c) (by omega) (show T 232 0 (T 210 0 c + (m - T 210 0 c)) = cl ∨ T 233 0 (T 210 0 c + (m - T 210 0 c)) = cl by rw [show T 210 0 c + (m - T 210 0 c) = m by omega]; omega) (bs9_n (H := fun m => T 232 0 m) (show T 232 0 (T 210 0 c + (m - T 210 0 c)) ≠ cl by rw [show T 210 0 c + (m - T 210 0 c) = m by omega]; omega))
                  omega
            · refine hK 115 _ [vI 0] T ?_
              refine j_blx (F := fX11) tb_X11 (nn_ _) bk_X11_breaks_e_115 bs_X11_breaks_e_115 hz (fun K hK => ?_)
              refine And.intro (fun c15 => ?_) (fun c15 => ?_)
              · refine hK 129 [some (vR 111 0), some (vI c), some (vI cl), some (vI la), some (vI mn), some (vI m), some (vI 0)] [vI mn] T ?_
                refine j_blx (F := fX11) tb_X11 (nn_ _) bk_X11_breaks_e_129 bs_X11_breaks_e_129 hz (fun K hK => ?_)
                refine rg_i (by omega) ?_
                refine rg_i (by omega) ?_
                refine hK 59 [some (vR 111 0), some (vI c), some (vI cl), some (vI 0), some (vI (mn + 0)), some (vI (m + 1)), some (vI 0)] [] T ?_
                refine j_drq [some (vR 111 0), some (vI c), some (vI cl), some (vI 0), some (vI (mn + 0)), some (vI (m + 1)), none] (drq_s (drq_s (drq_s (drq_s (drq_s (drq_s (drq_n drq_0))))))) ?_
                refine ih_59 _ ?_ 0 (mn + 0) (m + 1) (Nat.le_refl _) ?_ ?_ ?_ ?_ ?_
                · have hm_59 := hm_59 (); omega
                · omega
                · omega
                · exact hhe
                · first
                  | omega
                  | (have hml9 := hML c (by omega) (by omega); omega)
                · have em : (m + 1 - T 210 0 c).toNat = ((m - T 210 0 c) + 1).toNat := by omega
                  rw [em]
                  have y9 := bk9_u (H := fun m => T 232 0 m) (A := fun m => T 233 0 m) (b := cl) (f := T 210 0 c) (k := m - T 210 0 c) (by omega) (show T 232 0 (T 210 0 c + (m - T 210 0 c)) = cl ∨ T 233 0 (T 210 0 c + (m - T 210 0 c)) = cl by rw [show T 210 0 c + (m - T 210 0 c) = m by omega]; omega) (bs9_y (H := fun m => T 232 0 m) (show T 232 0 (T 210 0 c + (m - T 210 0 c)) = cl by rw [show T 210 0 c + (m - T 210 0 c) = m by omega]; omega))
                  omega
              · refine hK 130 [some (vR 111 0), some (vI c), some (vI cl), some (vI la), some (vI mn), some (vI m), some (vI 0)] [vI 1, vI mn] T ?_
                refine j_blx (F := fX11) tb_X11 (nn_ _) bk_X11_breaks_e_130 bs_X11_breaks_e_130 hz (fun K hK => ?_)
                refine rg_i (by omega) ?_
                refine rg_i (by omega) ?_
                refine hK 59 [some (vR 111 0), some (vI c), some (vI cl), some (vI 0), some (vI (mn + 1)), some (vI (m + 1)), some (vI 0)] [] T ?_
                refine j_drq [some (vR 111 0), some (vI c), some (vI cl), some (vI 0), some (vI (mn + 1)), some (vI (m + 1)), none] (drq_s (drq_s (drq_s (drq_s (drq_s (drq_s (drq_n drq_0))))))) ?_
                refine ih_59 _ ?_ 0 (mn + 1) (m + 1) (Nat.le_refl _) ?_ ?_ ?_ ?_ ?_
                · have hm_59 := hm_59 (); omega
                · omega
                · omega
                · exact hhe
                · first
                  | omega
                  | (have hml9 := hML c (by omega) (by omega); omega)
                · have em : (m + 1 - T 210 0 c).toNat = ((m - T 210 0 c) + 1).toNat := by omega
                  rw [em]
                  have y9 := bk9_u (H := fun m => T 232 0 m) (A := fun m => T 233 0 m) (b := cl) (f := T 210 0 c) (k := m - T 210 0 c) (by omega) (show T 232 0 (T 210 0 c + (m - T 210 0 c)) = cl ∨ T 233 0 (T 210 0 c + (m - T 210 0 c)) = cl by rw [show T 210 0 c + (m - T 210 0 c) = m by omega]; omega) (bs9_y (H := fun m => T 232 0 m) (show T 232 0 (T 210 0 c + (m - T 210 0 c)) = cl by rw [show T 210 0 c + (m - T 210 0 c) = m by omega]; omega))
                  omega
  refine j_blx (F := fX11) tb_X11 (nn_ _) bk_X11_breaks_e_0 bs_X11_breaks_e_0 hz (fun K hK => ?_)
  intro b16 b16b
  refine hK 5 _ [vI (T 111 0 6), vI c] T ?_
  refine j_callS (y := yX11_isOf) (Yc := zX11_isOf) (rest := []) [vI c, vI (T 111 0 6)] (ct_X11_isOf (T := T) (by omega)) cl_X11_317 (qd_c (by decide +kernel)) (nn_ _) rfl (rf_of rfl) (Nat.le_of_ble_eq_true rfl) (Nat.le_of_ble_eq_true rfl) (Nat.le_of_ble_eq_true rfl) rfl ?_
  rintro _ _ ⟨rfl, x17, rfl, hx17⟩
  show J_ zX11_breaks T (po_X11_breaks_e T c cl) 0 0 8 _ [vI x17] T
  refine j_blx (F := fX11) tb_X11 (nn_ _) bk_X11_breaks_e_8 bs_X11_breaks_e_8 hz (fun K hK => ?_)
  refine And.intro (fun c18 => ?_) (fun c18 => ?_)
  · replace hx17 := hx17.resolve_left (fun z => absurd (c18.symm.trans z.1) (by decide))
    clear c18
    refine hK 22 _ [] T ?_
    refine j_blx (F := fX11) tb_X11 (nn_ _) bk_X11_breaks_e_22 bs_X11_breaks_e_22 hz (fun K hK => ?_)
    refine (show po_X11_breaks_e T c cl T (some (vI (-2))) from ?_)
    exact ⟨rfl, _, rfl, Or.inl ⟨rfl, by omega⟩⟩
  · replace hx17 := hx17.resolve_right (fun z => c18 z.1)
    clear c18
    intro b19 b19b
    refine hK 16 _ [vI (T 111 0 12), vI cl] T ?_
    refine j_callS (y := yX11_isOf) (Yc := zX11_isOf) (rest := []) [vI cl, vI (T 111 0 12)] (ct_X11_isOf (T := T) (by omega)) cl_X11_317 (qd_c (by decide +kernel)) (nn_ _) rfl (rf_of rfl) (Nat.le_of_ble_eq_true rfl) (Nat.le_of_ble_eq_true rfl) (Nat.le_of_ble_eq_true rfl) rfl ?_
    rintro _ _ ⟨rfl, x20, rfl, hx20⟩
    show J_ zX11_breaks T (po_X11_breaks_e T c cl) 0 0 19 _ [vI x20] T
    refine j_blx (F := fX11) tb_X11 (nn_ _) bk_X11_breaks_e_19 bs_X11_breaks_e_19 hz (fun K hK => ?_)
    refine And.intro (fun c21 => ?_) (fun c21 => ?_)
    · replace hx20 := hx20.resolve_right (fun z => c21 z.1)
      clear c21
      refine hK 25 _ [] T ?_
      refine j_blx (F := fX11) tb_X11 (nn_ _) bk_X11_breaks_e_25 bs_X11_breaks_e_25 hz (fun K hK => ?_)
      refine ix_i (by omega) ?_
      intro b22 b22b
      refine And.intro (fun c23 => ?_) (fun c23 => ?_)
      · refine hK 43 _ [] T ?_
        refine j_blx (F := fX11) tb_X11 (nn_ _) bk_X11_breaks_e_43 bs_X11_breaks_e_43 hz (fun K hK => ?_)
        refine (show po_X11_breaks_e T c cl T (some (vI (-4))) from ?_)
        exact ⟨rfl, _, rfl, Or.inr ⟨by omega, Or.inl ⟨rfl, Or.inl (by omega)⟩⟩⟩
      · refine hK 37 _ [vI cl, vI c, vR 111 0] T ?_
        refine j_callV (y := yX11_hasEntered) (Yc := zX11_hasEntered) (rest := []) [vI c, vI cl] (ct_X11_hasEntered (T := T) (by omega)) cl_X11_340 (qd_c (by decide +kernel)) (nn_ _) rfl (rf_of rfl) (Nat.le_of_ble_eq_true rfl) (Nat.le_of_ble_eq_true rfl) (Nat.le_of_ble_eq_true rfl) rfl ?_
        rintro _ _ ⟨rfl, x24, rfl, hx24⟩
        show J_ zX11_breaks T (po_X11_breaks_e T c cl) 0 0 40 _ [vI x24] T
        refine j_blx (F := fX11) tb_X11 (nn_ _) bk_X11_breaks_e_40 bs_X11_breaks_e_40 hz (fun K hK => ?_)
        refine And.intro (fun c25 => ?_) (fun c25 => ?_)
        · refine hK 46 _ [] T ?_
          have hb211 : 0 ≤ T 211 0 c ∧ T 211 0 c ≤ 400 := bd_a hT 211 (by decide +kernel : ta_ 211 = some (1, some 4, 0, 400)) 0 (by omega)
          have hb210 : 0 ≤ T 210 0 c ∧ T 210 0 c ≤ 400 := bd_a hT 210 (by decide +kernel : ta_ 210 = some (1, some 4, 0, 400)) 0 (by omega)
          refine j_blx (F := fX11) tb_X11 (nn_ _) bk_X11_breaks_e_46 bs_X11_breaks_e_46 hz (fun K hK => ?_)
          refine ix_i (by omega) ?_
          intro b26 b26b
          refine hK 59 [some (vR 111 0), some (vI c), some (vI cl), some (vI (-1)), some (vI 0), some (vI (T 210 0 c)), none] [] T ?_
          refine c_59 _ (-1) 0 (T 210 0 c) (Nat.le_refl _) ?_ ?_ ?_ ?_ ?_
          · omega
          · omega
          · exact (hx24.resolve_right (fun z => by omega)).2
          · first
            | omega
            | (have hml9 := hML c (by omega) (by omega); omega)
          · rw [show (T 210 0 c - T 210 0 c).toNat = 0 by omega]
            exact ⟨rfl, rfl⟩
        · refine (show po_X11_breaks_e T c cl T (some (vI (-4))) from ?_)
          exact ⟨rfl, _, rfl, Or.inr ⟨by omega, Or.inl ⟨rfl, by first | exact Or.inl (by omega) | exact Or.inr (hx24.resolve_left (fun z => by omega)).2⟩⟩⟩
    · replace hx20 := hx20.resolve_left (fun z => absurd (c21.symm.trans z.1) (by decide))
      clear c21
      refine (show po_X11_breaks_e T c cl T (some (vI (-2))) from ?_)
      exact ⟨rfl, _, rfl, Or.inl ⟨rfl, by omega⟩⟩
-- clubs and officials: one more of two rows
def TG9_ (a : Nat) (sl mx : Int) (k1 k2 : Nat) (T T' : Zt) (s c x : Int) : Prop := (T' = T ∧ ((x = -3 ∧ ¬ (0 ≤ s ∧ s ≤ 11 ∧ 0 ≤ c ∧ c ≤ 7)) ∨ ((0 ≤ s ∧ s ≤ 11 ∧ 0 ≤ c ∧ c ≤ 7) ∧ T a 0 sl = mx ∧ x = -5))) ∨ ((0 ≤ s ∧ s ≤ 11 ∧ 0 ≤ c ∧ c ≤ 7) ∧ T a 0 sl < mx ∧ x = T a 0 sl ∧ T' a 0 sl = T a 0 sl + 1 ∧ SG9_ k1 T T' (T a 0 sl) s ∧ SG9_ k2 T T' (T a 0 sl) c)
theorem tg9_e {a1 a2 : Nat} {s1 s2 mx : Int} {k1 k2 k3 k4 : Nat} {T T1 T2 : Zt} {s c x1 x2 : Int} (h : ∀ j, 0 ≤ j → j < T a1 0 s1 → T k1 0 j = T k3 0 j ∧ T k2 0 j = T k4 0 j) (hn : T a1 0 s1 = T a2 0 s2) (d1 : TG9_ a1 s1 mx k1 k2 T T1 s c x1) (e2 : T1 a2 0 s2 = T a2 0 s2) (e3 : ∀ j, T1 k3 0 j = T k3 0 j) (e4 : ∀ j, T1 k4 0 j = T k4 0 j) (d2 : TG9_ a2 s2 mx k3 k4 T1 T2 s c x2) (g1 : T2 a1 0 s1 = T1 a1 0 s1) (g3 : ∀ j, T2 k1 0 j = T1 k1 0 j) (g4 : ∀ j, T2 k2 0 j = T1 k2 0 j) : x1 = x2 ∧ T2 a1 0 s1 = T2 a2 0 s2 ∧ ∀ j, 0 ≤ j → j < T2 a1 0 s1 → T2 k1 0 j = T2 k3 0 j ∧ T2 k2 0 j = T2 k4 0 j := by
  rcases d1 with ⟨rfl, u⟩ | ⟨u1, u2, u3, u4, u5, u6⟩
  · rcases d2 with ⟨rfl, v⟩ | ⟨v1, v2, v3, v4, v5, v6⟩
    · exact ⟨by omega, hn, h⟩
    · exfalso; omega
  · rcases d2 with ⟨rfl, v⟩ | ⟨v1, v2, v3, v4, v5, v6⟩
    · exfalso; omega
    · refine ⟨by omega, by omega, fun j p q => ?_⟩
      rw [g3, g4]
      rw [e2, ← hn] at v5 v6
      by_cases z : j = T a1 0 s1
      · rw [z, u5.1, u6.1, v5.1, v6.1]
        exact ⟨rfl, rfl⟩
      · rw [u5.2 j z, u6.2 j z, v5.2 j z, v6.2 j z, e3, e4]
        exact h j p (by omega)
/-- counters alike -/
def CNR_ (T : Zt) : Prop := T 108 0 2 = T 111 0 12 ∧ T 108 0 3 = T 111 0 15 ∧ T 108 0 12 = T 111 0 21 ∧ T 108 0 13 = T 111 0 3
/-- stadiums, countries, homes alike -/
def THR_ (T : Zt) : Prop := (∀ j, 0 ≤ j → j < T 108 0 2 → T 560 0 j = T 213 0 j ∧ T 561 0 j = T 214 0 j) ∧ ∀ j, 0 ≤ j → j < T 108 0 12 → T 570 0 j = T 222 0 j ∧ T 571 0 j = T 223 0 j
theorem bk_X10_club_e_0 : ck_ fX10 (some .int) cX10_club 0 [.iload 1, .iconst 12] 3 = true := qck_r (nn_ _) (by decide +kernel)
theorem bs_X10_club_e_0 {P : Zt → Option Zv → Prop} (K : Int → Zl → List Zv → Zt → Prop) : sx_ K P [.iload 1, .iconst 12] 3 = x_iload 1 (x_iconst 12 (K 3)) := ((xe_iload 1).trans (congrArg (x_iload 1) ((xe_iconst 12).trans (congrArg (x_iconst 12) xe_nil))))
theorem bk_X10_club_e_6 : ck_ fX10 (some .int) cX10_club 6 [.ifCond .eq 18, .iload 2, .iconst 8] 12 = true := qck_r (nn_ _) (by decide +kernel)
theorem bs_X10_club_e_6 {P : Zt → Option Zv → Prop} (K : Int → Zl → List Zv → Zt → Prop) : sx_ K P [.ifCond .eq 18, .iload 2, .iconst 8] 12 = x_ifCond .eq 18 K (x_iload 2 (x_iconst 8 (K 12))) := ((xe_ifCond .eq 18).trans (congrArg (x_ifCond .eq 18 K) ((xe_iload 2).trans (congrArg (x_iload 2) ((xe_iconst 8).trans (congrArg (x_iconst 8) xe_nil))))))
theorem bk_X10_club_e_18 : ck_ fX10 (some .int) cX10_club 18 [.iconst (-3), .ireturn] 21 = true := qck_r (nn_ _) (by decide +kernel)
theorem bs_X10_club_e_18 {P : Zt → Option Zv → Prop} (K : Int → Zl → List Zv → Zt → Prop) : sx_ K P [.iconst (-3), .ireturn] 21 = x_iconst (-3) (x_ireturn P) := ((xe_iconst (-3)).trans (congrArg (x_iconst (-3)) (xe_ireturn)))
theorem bk_X10_club_e_15 : ck_ fX10 (some .int) cX10_club 15 [.ifCond .ne 21, .iconst (-3), .ireturn] 21 = true := qck_r (nn_ _) (by decide +kernel)
theorem bs_X10_club_e_15 {P : Zt → Option Zv → Prop} (K : Int → Zl → List Zv → Zt → Prop) : sx_ K P [.ifCond .ne 21, .iconst (-3), .ireturn] 21 = x_ifCond .ne 21 K (x_iconst (-3) (x_ireturn P)) := ((xe_ifCond .ne 21).trans (congrArg (x_ifCond .ne 21 K) ((xe_iconst (-3)).trans (congrArg (x_iconst (-3)) (xe_ireturn)))))
theorem bk_X10_club_e_21 : ck_ fX10 (some .int) cX10_club 21 [.aload 0, .tableswitch 0 10 1 #[], .tableswitch 0 8 2 #[], .iconst 12, .if_icmp .lt 36, .iconst (-5), .ireturn] 36 = true := qck_r (nn_ _) (by decide +kernel)
theorem bs_X10_club_e_21 {P : Zt → Option Zv → Prop} (K : Int → Zl → List Zv → Zt → Prop) : sx_ K P [.aload 0, .tableswitch 0 10 1 #[], .tableswitch 0 8 2 #[], .iconst 12, .if_icmp .lt 36, .iconst (-5), .ireturn] 36 = x_aload 0 (x_g1 110 108 (x_g0 108 2 0 12 (x_iconst 12 (x_if_icmp .lt 36 K (x_iconst (-5) (x_ireturn P)))))) := ((xe_aload 0).trans (congrArg (x_aload 0) ((xe_g1 (kk := 110) rfl tl_10_1).trans (congrArg (x_g1 110 108) ((xe_g0 (kk := 108) rfl tl_8_2).trans (congrArg (x_g0 108 2 0 12) ((xe_iconst 12).trans (congrArg (x_iconst 12) ((xe_if_icmp .lt 36).trans (congrArg (x_if_icmp .lt 36 K) ((xe_iconst (-5)).trans (congrArg (x_iconst (-5)) (xe_ireturn)))))))))))))
theorem bk_X10_club_e_36 : ck_ fX10 (some .int) cX10_club 36 [.aload 0, .tableswitch 0 10 1 #[], .tableswitch 0 8 2 #[], .istore 3, .aload 0, .tableswitch 0 10 1 #[], .tableswitch 0 8 0 #[], .iload 3, .iload 1, .iastore, .aload 0, .tableswitch 0 10 1 #[], .tableswitch 0 8 1 #[], .iload 3, .iload 2, .iastore, .aload 0, .tableswitch 0 10 1 #[], .dup, .tableswitch 0 8 2 #[], .iconst 1, .iadd, .tableswitch 1 8 2 #[], .iload 3, .ireturn] 79 = true := qck_r (nn_ _) (by decide +kernel)
theorem bs_X10_club_e_36 {P : Zt → Option Zv → Prop} (K : Int → Zl → List Zv → Zt → Prop) : sx_ K P [.aload 0, .tableswitch 0 10 1 #[], .tableswitch 0 8 2 #[], .istore 3, .aload 0, .tableswitch 0 10 1 #[], .tableswitch 0 8 0 #[], .iload 3, .iload 1, .iastore, .aload 0, .tableswitch 0 10 1 #[], .tableswitch 0 8 1 #[], .iload 3, .iload 2, .iastore, .aload 0, .tableswitch 0 10 1 #[], .dup, .tableswitch 0 8 2 #[], .iconst 1, .iadd, .tableswitch 1 8 2 #[], .iload 3, .ireturn] 79 = x_aload 0 (x_g1 110 108 (x_g0 108 2 0 12 (x_istore 3 (x_aload 0 (x_g1 110 108 (x_g1 108 560 (x_iload 3 (x_iload 1 (x_iastore (x_aload 0 (x_g1 110 108 (x_g1 108 561 (x_iload 3 (x_iload 2 (x_iastore (x_aload 0 (x_g1 110 108 (x_dup (x_g0 108 2 0 12 (x_iconst 1 (x_iadd (x_p 108 2 0 12 (x_iload 3 (x_ireturn P)))))))))))))))))))))))) := ((xe_aload 0).trans (congrArg (x_aload 0) ((xe_g1 (kk := 110) rfl tl_10_1).trans (congrArg (x_g1 110 108) ((xe_g0 (kk := 108) rfl tl_8_2).trans (congrArg (x_g0 108 2 0 12) ((xe_istore 3).trans (congrArg (x_istore 3) ((xe_aload 0).trans (congrArg (x_aload 0) ((xe_g1 (kk := 110) rfl tl_10_1).trans (congrArg (x_g1 110 108) ((xe_g1 (kk := 108) rfl tl_8_0).trans (congrArg (x_g1 108 560) ((xe_iload 3).trans (congrArg (x_iload 3) ((xe_iload 1).trans (congrArg (x_iload 1) ((xe_iastore).trans (congrArg (x_iastore) ((xe_aload 0).trans (congrArg (x_aload 0) ((xe_g1 (kk := 110) rfl tl_10_1).trans (congrArg (x_g1 110 108) ((xe_g1 (kk := 108) rfl tl_8_1).trans (congrArg (x_g1 108 561) ((xe_iload 3).trans (congrArg (x_iload 3) ((xe_iload 2).trans (congrArg (x_iload 2) ((xe_iastore).trans (congrArg (x_iastore) ((xe_aload 0).trans (congrArg (x_aload 0) ((xe_g1 (kk := 110) rfl tl_10_1).trans (congrArg (x_g1 110 108) ((xe_dup).trans (congrArg (x_dup) ((xe_g0 (kk := 108) rfl tl_8_2).trans (congrArg (x_g0 108 2 0 12) ((xe_iconst 1).trans (congrArg (x_iconst 1) ((xe_iadd).trans (congrArg (x_iadd) ((xe_p (kk := 108) rfl tl_8_2).trans (congrArg (x_p 108 2 0 12) ((xe_iload 3).trans (congrArg (x_iload 3) (xe_ireturn)))))))))))))))))))))))))))))))))))))))))))))))))
abbrev po_X10_club_e (T : Zt) (s c : Int) : Zt → Option Zv → Prop := fun T' r => ∃ x : Int, r = some (vI x) ∧ fr_ [(108, [2]), (560, []), (561, [])] T T' ∧ (((x = -3 ∧ ¬ (0 ≤ s ∧ s ≤ 11 ∧ 0 ≤ c ∧ c ≤ 7) ∧ T' 108 0 2 = T 108 0 2) ∨ ((0 ≤ s ∧ s ≤ 11 ∧ 0 ≤ c ∧ c ≤ 7) ∧ T 108 0 2 = 12 ∧ x = -5 ∧ T' 108 0 2 = T 108 0 2) ∨ ((0 ≤ s ∧ s ≤ 11 ∧ 0 ≤ c ∧ c ≤ 7) ∧ T 108 0 2 < 12 ∧ x = T 108 0 2 ∧ T' 108 0 2 = T 108 0 2 + 1)) ∧ TG9_ 108 2 12 560 561 T T' s c x)
set_option maxHeartbeats 4000000 in
theorem ct_X10_club_e {T : Zt} {s c : Int} : Ct_ yX10_club zX10_club T [vR 110 0, vI s, vI c] (po_X10_club_e T s c) := by
  refine ct_of pn_10 rfl rfl (Nat.le_of_ble_eq_true rfl) (fun hT hav => ?_)
  have hr_s : -2147483648 ≤ s ∧ s ≤ 2147483647 := hav (vI s) (List.mem_cons_of_mem _ List.mem_cons_self)
  have hr_c : -2147483648 ≤ c ∧ c ≤ 2147483647 := hav (vI c) (List.mem_cons_of_mem _ (List.mem_cons_of_mem _ List.mem_cons_self))
  have hz : zX10_club.2.2.2.1 = some .boolean → ∀ (T' : Zt) (x : Int), po_X10_club_e T s c T' (some (vI x)) → 0 ≤ x ∧ x ≤ 1 := fun h => by cases h
  have hb_2 : 0 ≤ T 108 0 2 ∧ T 108 0 2 ≤ 12 := bd_f hT 108 2 tl_8_2 0
  show J_ zX10_club T (po_X10_club_e T s c) 0 0 0 [some (vR 110 0), some (vI s), some (vI c), none] [] T
  refine j_blx (F := fX10) tb_X10 (nn_ _) bk_X10_club_e_0 bs_X10_club_e_0 hz (fun K hK => ?_)
  refine hK 3 _ [vI 12, vI s] T ?_
  refine j_callS (y := yX10_isBelow) (Yc := zX10_isBelow) (rest := []) [vI s, vI 12] (ct_X10_isBelow (T := T)) cl_X10_115 (qd_c (by decide +kernel)) (nn_ _) rfl (rf_of rfl) (Nat.le_of_ble_eq_true rfl) (Nat.le_of_ble_eq_true rfl) (Nat.le_of_ble_eq_true rfl) rfl ?_
  rintro _ _ ⟨rfl, x1, rfl, hx1⟩
  show J_ zX10_club T (po_X10_club_e T s c) 0 0 6 _ [vI x1] T
  refine j_blx (F := fX10) tb_X10 (nn_ _) bk_X10_club_e_6 bs_X10_club_e_6 hz (fun K hK => ?_)
  refine And.intro (fun c2 => ?_) (fun c2 => ?_)
  · replace hx1 := hx1.resolve_left (fun z => absurd (c2.symm.trans z.1) (by decide))
    clear c2
    refine hK 18 _ [] T ?_
    refine j_blx (F := fX10) tb_X10 (nn_ _) bk_X10_club_e_18 bs_X10_club_e_18 hz (fun K hK => ?_)
    refine (show po_X10_club_e T s c T (some (vI (-3))) from ?_)
    exact ⟨_, rfl, fr_0 _ _, by omega, Or.inl ⟨rfl, Or.inl ⟨rfl, by omega⟩⟩⟩
  · replace hx1 := hx1.resolve_right (fun z => c2 z.1)
    clear c2
    refine hK 12 _ [vI 8, vI c] T ?_
    refine j_callS (y := yX10_isBelow) (Yc := zX10_isBelow) (rest := []) [vI c, vI 8] (ct_X10_isBelow (T := T)) cl_X10_115 (qd_c (by decide +kernel)) (nn_ _) rfl (rf_of rfl) (Nat.le_of_ble_eq_true rfl) (Nat.le_of_ble_eq_true rfl) (Nat.le_of_ble_eq_true rfl) rfl ?_
    rintro _ _ ⟨rfl, x3, rfl, hx3⟩
    show J_ zX10_club T (po_X10_club_e T s c) 0 0 15 _ [vI x3] T
    refine j_blx (F := fX10) tb_X10 (nn_ _) bk_X10_club_e_15 bs_X10_club_e_15 hz (fun K hK => ?_)
    refine And.intro (fun c4 => ?_) (fun c4 => ?_)
    · replace hx3 := hx3.resolve_right (fun z => c4 z.1)
      clear c4
      refine hK 21 _ [] T ?_
      refine j_blx (F := fX10) tb_X10 (nn_ _) bk_X10_club_e_21 bs_X10_club_e_21 hz (fun K hK => ?_)
      intro b5 b5b
      refine And.intro (fun c6 => ?_) (fun c6 => ?_)
      · refine hK 36 _ [] T ?_
        refine j_blx (F := fX10) tb_X10 (nn_ _) bk_X10_club_e_36 bs_X10_club_e_36 hz (fun K hK => ?_)
        intro b7 b7b
        refine iy_i (by omega) (by omega) ?_
        refine x_nm (fun U8 hU8 => ?_)
        have e9 := up_f hU8
        refine iy_i (by omega) (by omega) ?_
        refine x_nm (fun U10 hU10 => ?_)
        have e11 := up_f hU10
        intro b12 b12b
        have e13 : U10 108 0 2 = T 108 0 2 := (up_k hU10 (by exact Nat.ne_of_beq_eq_false rfl) 0 2).trans (up_k hU8 (by exact Nat.ne_of_beq_eq_false rfl) 0 2)
        rw [e13] at b12 b12b ⊢
        refine rg_i (by omega) ?_
        refine bd_i (by omega) ?_
        refine x_nm (fun U14 hU14 => ?_)
        have e15 := up_f hU14
        refine (show po_X10_club_e T s c U14 (some (vI (T 108 0 2))) from ?_)
        have e16 : U14 108 0 2 = (T 108 0 2) + 1 := up_f hU14
        have e17 : U14 108 0 2 = (T 108 0 2) + 1 := up_f hU14
        exact ⟨_, rfl, fr_u (fr_u (fr_u (fr_0 _ _) hU8 rfl) hU10 rfl) hU14 rfl, by omega, Or.inr ⟨by omega, by omega, by omega, by omega, ⟨(up_k hU14 (by exact Nat.ne_of_beq_eq_false rfl) 0 _).trans ((up_k hU10 (by exact Nat.ne_of_beq_eq_false rfl) 0 _).trans (up_f hU8)), fun j hj => (up_k hU14 (by exact Nat.ne_of_beq_eq_false rfl) 0 j).trans ((up_k hU10 (by exact Nat.ne_of_beq_eq_false rfl) 0 j).trans (up_g hU8 (fun z => hj z.2.2)))⟩, ⟨(up_k hU14 (by exact Nat.ne_of_beq_eq_false rfl) 0 _).trans (up_f hU10), fun j hj => (up_k hU14 (by exact Nat.ne_of_beq_eq_false rfl) 0 j).trans ((up_g hU10 (fun z => hj z.2.2)).trans (up_k hU8 (by exact Nat.ne_of_beq_eq_false rfl) 0 j))⟩⟩⟩
      · refine (show po_X10_club_e T s c T (some (vI (-5))) from ?_)
        exact ⟨_, rfl, fr_0 _ _, by omega, Or.inl ⟨rfl, Or.inr ⟨by omega, by omega, rfl⟩⟩⟩
    · replace hx3 := hx3.resolve_left (fun z => absurd (c4.symm.trans z.1) (by decide))
      clear c4
      refine (show po_X10_club_e T s c T (some (vI (-3))) from ?_)
      exact ⟨_, rfl, fr_0 _ _, by omega, Or.inl ⟨rfl, Or.inl ⟨rfl, by omega⟩⟩⟩
theorem bk_X11_club_e_0 : ck_ fX11 (some .int) cX11_club 0 [.iload 1, .iconst 0, .iconst 11] 4 = true := qck_r (nn_ _) (by decide +kernel)
theorem bs_X11_club_e_0 {P : Zt → Option Zv → Prop} (K : Int → Zl → List Zv → Zt → Prop) : sx_ K P [.iload 1, .iconst 0, .iconst 11] 4 = x_iload 1 (x_iconst 0 (x_iconst 11 (K 4))) := ((xe_iload 1).trans (congrArg (x_iload 1) ((xe_iconst 0).trans (congrArg (x_iconst 0) ((xe_iconst 11).trans (congrArg (x_iconst 11) xe_nil))))))
theorem bk_X11_club_e_7 : ck_ fX11 (some .int) cX11_club 7 [.ifCond .eq 20, .iload 2, .iconst 0, .iconst 7] 14 = true := qck_r (nn_ _) (by decide +kernel)
theorem bs_X11_club_e_7 {P : Zt → Option Zv → Prop} (K : Int → Zl → List Zv → Zt → Prop) : sx_ K P [.ifCond .eq 20, .iload 2, .iconst 0, .iconst 7] 14 = x_ifCond .eq 20 K (x_iload 2 (x_iconst 0 (x_iconst 7 (K 14)))) := ((xe_ifCond .eq 20).trans (congrArg (x_ifCond .eq 20 K) ((xe_iload 2).trans (congrArg (x_iload 2) ((xe_iconst 0).trans (congrArg (x_iconst 0) ((xe_iconst 7).trans (congrArg (x_iconst 7) xe_nil))))))))
theorem bk_X11_club_e_20 : ck_ fX11 (some .int) cX11_club 20 [.iconst (-3), .ireturn] 23 = true := qck_r (nn_ _) (by decide +kernel)
theorem bs_X11_club_e_20 {P : Zt → Option Zv → Prop} (K : Int → Zl → List Zv → Zt → Prop) : sx_ K P [.iconst (-3), .ireturn] 23 = x_iconst (-3) (x_ireturn P) := ((xe_iconst (-3)).trans (congrArg (x_iconst (-3)) (xe_ireturn)))
theorem bk_X11_club_e_17 : ck_ fX11 (some .int) cX11_club 17 [.ifCond .ne 23, .iconst (-3), .ireturn] 23 = true := qck_r (nn_ _) (by decide +kernel)
theorem bs_X11_club_e_17 {P : Zt → Option Zv → Prop} (K : Int → Zl → List Zv → Zt → Prop) : sx_ K P [.ifCond .ne 23, .iconst (-3), .ireturn] 23 = x_ifCond .ne 23 K (x_iconst (-3) (x_ireturn P)) := ((xe_ifCond .ne 23).trans (congrArg (x_ifCond .ne 23 K) ((xe_iconst (-3)).trans (congrArg (x_iconst (-3)) (xe_ireturn)))))
theorem bk_X11_club_e_23 : ck_ fX11 (some .int) cX11_club 23 [.aload 0, .tableswitch 0 11 12 #[], .iconst 12, .if_icmp .ne 35, .iconst (-5), .ireturn] 35 = true := qck_r (nn_ _) (by decide +kernel)
theorem bs_X11_club_e_23 {P : Zt → Option Zv → Prop} (K : Int → Zl → List Zv → Zt → Prop) : sx_ K P [.aload 0, .tableswitch 0 11 12 #[], .iconst 12, .if_icmp .ne 35, .iconst (-5), .ireturn] 35 = x_aload 0 (x_g0 111 12 0 12 (x_iconst 12 (x_if_icmp .ne 35 K (x_iconst (-5) (x_ireturn P))))) := ((xe_aload 0).trans (congrArg (x_aload 0) ((xe_g0 (kk := 111) rfl tl_11_12).trans (congrArg (x_g0 111 12 0 12) ((xe_iconst 12).trans (congrArg (x_iconst 12) ((xe_if_icmp .ne 35).trans (congrArg (x_if_icmp .ne 35 K) ((xe_iconst (-5)).trans (congrArg (x_iconst (-5)) (xe_ireturn)))))))))))
theorem bk_X11_club_e_35 : ck_ fX11 (some .int) cX11_club 35 [.aload 0, .tableswitch 0 11 13 #[], .aload 0, .tableswitch 0 11 12 #[], .iload 1, .iastore, .aload 0, .tableswitch 0 11 14 #[], .aload 0, .tableswitch 0 11 12 #[], .iload 2, .iastore, .aload 0, .dup, .tableswitch 0 11 12 #[], .iconst 1, .iadd, .tableswitch 1 11 12 #[], .aload 0, .tableswitch 0 11 12 #[], .iconst 1, .isub, .ireturn] 72 = true := qck_r (nn_ _) (by decide +kernel)
theorem bs_X11_club_e_35 {P : Zt → Option Zv → Prop} (K : Int → Zl → List Zv → Zt → Prop) : sx_ K P [.aload 0, .tableswitch 0 11 13 #[], .aload 0, .tableswitch 0 11 12 #[], .iload 1, .iastore, .aload 0, .tableswitch 0 11 14 #[], .aload 0, .tableswitch 0 11 12 #[], .iload 2, .iastore, .aload 0, .dup, .tableswitch 0 11 12 #[], .iconst 1, .iadd, .tableswitch 1 11 12 #[], .aload 0, .tableswitch 0 11 12 #[], .iconst 1, .isub, .ireturn] 72 = x_aload 0 (x_g1 111 213 (x_aload 0 (x_g0 111 12 0 12 (x_iload 1 (x_iastore (x_aload 0 (x_g1 111 214 (x_aload 0 (x_g0 111 12 0 12 (x_iload 2 (x_iastore (x_aload 0 (x_dup (x_g0 111 12 0 12 (x_iconst 1 (x_iadd (x_p 111 12 0 12 (x_aload 0 (x_g0 111 12 0 12 (x_iconst 1 (x_isub (x_ireturn P)))))))))))))))))))))) := ((xe_aload 0).trans (congrArg (x_aload 0) ((xe_g1 (kk := 111) rfl tl_11_13).trans (congrArg (x_g1 111 213) ((xe_aload 0).trans (congrArg (x_aload 0) ((xe_g0 (kk := 111) rfl tl_11_12).trans (congrArg (x_g0 111 12 0 12) ((xe_iload 1).trans (congrArg (x_iload 1) ((xe_iastore).trans (congrArg (x_iastore) ((xe_aload 0).trans (congrArg (x_aload 0) ((xe_g1 (kk := 111) rfl tl_11_14).trans (congrArg (x_g1 111 214) ((xe_aload 0).trans (congrArg (x_aload 0) ((xe_g0 (kk := 111) rfl tl_11_12).trans (congrArg (x_g0 111 12 0 12) ((xe_iload 2).trans (congrArg (x_iload 2) ((xe_iastore).trans (congrArg (x_iastore) ((xe_aload 0).trans (congrArg (x_aload 0) ((xe_dup).trans (congrArg (x_dup) ((xe_g0 (kk := 111) rfl tl_11_12).trans (congrArg (x_g0 111 12 0 12) ((xe_iconst 1).trans (congrArg (x_iconst 1) ((xe_iadd).trans (congrArg (x_iadd) ((xe_p (kk := 111) rfl tl_11_12).trans (congrArg (x_p 111 12 0 12) ((xe_aload 0).trans (congrArg (x_aload 0) ((xe_g0 (kk := 111) rfl tl_11_12).trans (congrArg (x_g0 111 12 0 12) ((xe_iconst 1).trans (congrArg (x_iconst 1) ((xe_isub).trans (congrArg (x_isub) (xe_ireturn)))))))))))))))))))))))))))))))))))))))))))))
abbrev po_X11_club_e (T : Zt) (s c : Int) : Zt → Option Zv → Prop := fun T' r => ∃ x : Int, r = some (vI x) ∧ fr_ [(111, [12]), (213, []), (214, [])] T T' ∧ (((x = -3 ∧ ¬ (0 ≤ s ∧ s ≤ 11 ∧ 0 ≤ c ∧ c ≤ 7) ∧ T' 111 0 12 = T 111 0 12) ∨ ((0 ≤ s ∧ s ≤ 11 ∧ 0 ≤ c ∧ c ≤ 7) ∧ T 111 0 12 = 12 ∧ x = -5 ∧ T' 111 0 12 = T 111 0 12) ∨ ((0 ≤ s ∧ s ≤ 11 ∧ 0 ≤ c ∧ c ≤ 7) ∧ T 111 0 12 < 12 ∧ x = T 111 0 12 ∧ T' 111 0 12 = T 111 0 12 + 1)) ∧ TG9_ 111 12 12 213 214 T T' s c x)
set_option maxHeartbeats 4000000 in
theorem ct_X11_club_e {T : Zt} {s c : Int} : Ct_ yX11_club zX11_club T [vR 111 0, vI s, vI c] (po_X11_club_e T s c) := by
  refine ct_of pn_11 rfl rfl (Nat.le_of_ble_eq_true rfl) (fun hT hav => ?_)
  have hr_s : -2147483648 ≤ s ∧ s ≤ 2147483647 := hav (vI s) (List.mem_cons_of_mem _ List.mem_cons_self)
  have hr_c : -2147483648 ≤ c ∧ c ≤ 2147483647 := hav (vI c) (List.mem_cons_of_mem _ (List.mem_cons_of_mem _ List.mem_cons_self))
  have hz : zX11_club.2.2.2.1 = some .boolean → ∀ (T' : Zt) (x : Int), po_X11_club_e T s c T' (some (vI x)) → 0 ≤ x ∧ x ≤ 1 := fun h => by cases h
  have hb_12 : 0 ≤ T 111 0 12 ∧ T 111 0 12 ≤ 12 := bd_f hT 111 12 tl_11_12 0
  show J_ zX11_club T (po_X11_club_e T s c) 0 0 0 [some (vR 111 0), some (vI s), some (vI c)] [] T
  refine j_blx (F := fX11) tb_X11 (nn_ _) bk_X11_club_e_0 bs_X11_club_e_0 hz (fun K hK => ?_)
  refine hK 4 _ [vI 11, vI 0, vI s] T ?_
  refine j_callS (y := yX11_in) (Yc := zX11_in) (rest := []) [vI s, vI 0, vI 11] (ct_X11_in (T := T)) cl_X11_255 (qd_c (by decide +kernel)) (nn_ _) rfl (rf_of rfl) (Nat.le_of_ble_eq_true rfl) (Nat.le_of_ble_eq_true rfl) (Nat.le_of_ble_eq_true rfl) rfl ?_
  rintro _ _ ⟨rfl, x1, rfl, hx1⟩
  show J_ zX11_club T (po_X11_club_e T s c) 0 0 7 _ [vI x1] T
  refine j_blx (F := fX11) tb_X11 (nn_ _) bk_X11_club_e_7 bs_X11_club_e_7 hz (fun K hK => ?_)
  refine And.intro (fun c2 => ?_) (fun c2 => ?_)
  · replace hx1 := hx1.resolve_left (fun z => absurd (c2.symm.trans z.1) (by decide))
    clear c2
    refine hK 20 _ [] T ?_
    refine j_blx (F := fX11) tb_X11 (nn_ _) bk_X11_club_e_20 bs_X11_club_e_20 hz (fun K hK => ?_)
    refine (show po_X11_club_e T s c T (some (vI (-3))) from ?_)
    exact ⟨_, rfl, fr_0 _ _, by omega, Or.inl ⟨rfl, Or.inl ⟨rfl, by omega⟩⟩⟩
  · replace hx1 := hx1.resolve_right (fun z => c2 z.1)
    clear c2
    refine hK 14 _ [vI 7, vI 0, vI c] T ?_
    refine j_callS (y := yX11_in) (Yc := zX11_in) (rest := []) [vI c, vI 0, vI 7] (ct_X11_in (T := T)) cl_X11_255 (qd_c (by decide +kernel)) (nn_ _) rfl (rf_of rfl) (Nat.le_of_ble_eq_true rfl) (Nat.le_of_ble_eq_true rfl) (Nat.le_of_ble_eq_true rfl) rfl ?_
    rintro _ _ ⟨rfl, x3, rfl, hx3⟩
    show J_ zX11_club T (po_X11_club_e T s c) 0 0 17 _ [vI x3] T
    refine j_blx (F := fX11) tb_X11 (nn_ _) bk_X11_club_e_17 bs_X11_club_e_17 hz (fun K hK => ?_)
    refine And.intro (fun c4 => ?_) (fun c4 => ?_)
    · replace hx3 := hx3.resolve_right (fun z => c4 z.1)
      clear c4
      refine hK 23 _ [] T ?_
      refine j_blx (F := fX11) tb_X11 (nn_ _) bk_X11_club_e_23 bs_X11_club_e_23 hz (fun K hK => ?_)
      intro b5 b5b
      refine And.intro (fun c6 => ?_) (fun c6 => ?_)
      · refine hK 35 _ [] T ?_
        refine j_blx (F := fX11) tb_X11 (nn_ _) bk_X11_club_e_35 bs_X11_club_e_35 hz (fun K hK => ?_)
        intro b7 b7b
        refine iy_i (by omega) (by omega) ?_
        refine x_nm (fun U8 hU8 => ?_)
        have e9 := up_f hU8
        intro b10 b10b
        have e11 : U8 111 0 12 = T 111 0 12 := up_k hU8 (by exact Nat.ne_of_beq_eq_false rfl) 0 12
        rw [e11] at b10 b10b ⊢
        refine iy_i (by omega) (by omega) ?_
        refine x_nm (fun U12 hU12 => ?_)
        have e13 := up_f hU12
        intro b14 b14b
        have e15 : U12 111 0 12 = T 111 0 12 := (up_k hU12 (by exact Nat.ne_of_beq_eq_false rfl) 0 12).trans (up_k hU8 (by exact Nat.ne_of_beq_eq_false rfl) 0 12)
        rw [e15] at b14 b14b ⊢
        refine rg_i (by omega) ?_
        refine bd_i (by omega) ?_
        refine x_nm (fun U16 hU16 => ?_)
        have e17 := up_f hU16
        intro b18 b18b
        have e19 : U16 111 0 12 = (T 111 0 12) + 1 := up_f hU16
        rw [e19] at b18 b18b ⊢
        refine rg_i (by omega) ?_
        refine (show po_X11_club_e T s c U16 (some (vI (((T 111 0 12) + 1) - 1))) from ?_)
        have e20 : U16 111 0 12 = (T 111 0 12) + 1 := up_f hU16
        have e21 : U16 111 0 12 = (T 111 0 12) + 1 := up_f hU16
        exact ⟨_, rfl, fr_u (fr_u (fr_u (fr_0 _ _) hU8 rfl) hU12 rfl) hU16 rfl, by omega, Or.inr ⟨by omega, by omega, by omega, by omega, ⟨(up_k hU16 (by exact Nat.ne_of_beq_eq_false rfl) 0 _).trans ((up_k hU12 (by exact Nat.ne_of_beq_eq_false rfl) 0 _).trans (up_f hU8)), fun j hj => (up_k hU16 (by exact Nat.ne_of_beq_eq_false rfl) 0 j).trans ((up_k hU12 (by exact Nat.ne_of_beq_eq_false rfl) 0 j).trans (up_g hU8 (fun z => hj z.2.2)))⟩, ⟨(up_k hU16 (by exact Nat.ne_of_beq_eq_false rfl) 0 _).trans (up_f hU12), fun j hj => (up_k hU16 (by exact Nat.ne_of_beq_eq_false rfl) 0 j).trans ((up_g hU12 (fun z => hj z.2.2)).trans (up_k hU8 (by exact Nat.ne_of_beq_eq_false rfl) 0 j))⟩⟩⟩
      · refine (show po_X11_club_e T s c T (some (vI (-5))) from ?_)
        exact ⟨_, rfl, fr_0 _ _, by omega, Or.inl ⟨rfl, Or.inr ⟨by omega, by omega, rfl⟩⟩⟩
    · replace hx3 := hx3.resolve_left (fun z => absurd (c4.symm.trans z.1) (by decide))
      clear c4
      refine (show po_X11_club_e T s c T (some (vI (-3))) from ?_)
      exact ⟨_, rfl, fr_0 _ _, by omega, Or.inl ⟨rfl, Or.inl ⟨rfl, by omega⟩⟩⟩
theorem bk_X10_official_e_0 : ck_ fX10 (some .int) cX10_official 0 [.iload 1, .iconst 12] 3 = true := qck_r (nn_ _) (by decide +kernel)
theorem bs_X10_official_e_0 {P : Zt → Option Zv → Prop} (K : Int → Zl → List Zv → Zt → Prop) : sx_ K P [.iload 1, .iconst 12] 3 = x_iload 1 (x_iconst 12 (K 3)) := ((xe_iload 1).trans (congrArg (x_iload 1) ((xe_iconst 12).trans (congrArg (x_iconst 12) xe_nil))))
theorem bk_X10_official_e_6 : ck_ fX10 (some .int) cX10_official 6 [.ifCond .eq 18, .iload 2, .iconst 8] 12 = true := qck_r (nn_ _) (by decide +kernel)
theorem bs_X10_official_e_6 {P : Zt → Option Zv → Prop} (K : Int → Zl → List Zv → Zt → Prop) : sx_ K P [.ifCond .eq 18, .iload 2, .iconst 8] 12 = x_ifCond .eq 18 K (x_iload 2 (x_iconst 8 (K 12))) := ((xe_ifCond .eq 18).trans (congrArg (x_ifCond .eq 18 K) ((xe_iload 2).trans (congrArg (x_iload 2) ((xe_iconst 8).trans (congrArg (x_iconst 8) xe_nil))))))
theorem bk_X10_official_e_18 : ck_ fX10 (some .int) cX10_official 18 [.iconst (-3), .ireturn] 21 = true := qck_r (nn_ _) (by decide +kernel)
theorem bs_X10_official_e_18 {P : Zt → Option Zv → Prop} (K : Int → Zl → List Zv → Zt → Prop) : sx_ K P [.iconst (-3), .ireturn] 21 = x_iconst (-3) (x_ireturn P) := ((xe_iconst (-3)).trans (congrArg (x_iconst (-3)) (xe_ireturn)))
theorem bk_X10_official_e_15 : ck_ fX10 (some .int) cX10_official 15 [.ifCond .ne 21, .iconst (-3), .ireturn] 21 = true := qck_r (nn_ _) (by decide +kernel)
theorem bs_X10_official_e_15 {P : Zt → Option Zv → Prop} (K : Int → Zl → List Zv → Zt → Prop) : sx_ K P [.ifCond .ne 21, .iconst (-3), .ireturn] 21 = x_ifCond .ne 21 K (x_iconst (-3) (x_ireturn P)) := ((xe_ifCond .ne 21).trans (congrArg (x_ifCond .ne 21 K) ((xe_iconst (-3)).trans (congrArg (x_iconst (-3)) (xe_ireturn)))))
theorem bk_X10_official_e_21 : ck_ fX10 (some .int) cX10_official 21 [.aload 0, .tableswitch 0 10 1 #[], .tableswitch 0 8 12 #[], .iconst 8, .if_icmp .lt 36, .iconst (-5), .ireturn] 36 = true := qck_r (nn_ _) (by decide +kernel)
theorem bs_X10_official_e_21 {P : Zt → Option Zv → Prop} (K : Int → Zl → List Zv → Zt → Prop) : sx_ K P [.aload 0, .tableswitch 0 10 1 #[], .tableswitch 0 8 12 #[], .iconst 8, .if_icmp .lt 36, .iconst (-5), .ireturn] 36 = x_aload 0 (x_g1 110 108 (x_g0 108 12 0 8 (x_iconst 8 (x_if_icmp .lt 36 K (x_iconst (-5) (x_ireturn P)))))) := ((xe_aload 0).trans (congrArg (x_aload 0) ((xe_g1 (kk := 110) rfl tl_10_1).trans (congrArg (x_g1 110 108) ((xe_g0 (kk := 108) rfl tl_8_12).trans (congrArg (x_g0 108 12 0 8) ((xe_iconst 8).trans (congrArg (x_iconst 8) ((xe_if_icmp .lt 36).trans (congrArg (x_if_icmp .lt 36 K) ((xe_iconst (-5)).trans (congrArg (x_iconst (-5)) (xe_ireturn)))))))))))))
theorem bk_X10_official_e_36 : ck_ fX10 (some .int) cX10_official 36 [.aload 0, .tableswitch 0 10 1 #[], .tableswitch 0 8 12 #[], .istore 3, .aload 0, .tableswitch 0 10 1 #[], .tableswitch 0 8 10 #[], .iload 3, .iload 1, .iastore, .aload 0, .tableswitch 0 10 1 #[], .tableswitch 0 8 11 #[], .iload 3, .iload 2, .iastore, .aload 0, .tableswitch 0 10 1 #[], .dup, .tableswitch 0 8 12 #[], .iconst 1, .iadd, .tableswitch 1 8 12 #[], .iload 3, .ireturn] 79 = true := qck_r (nn_ _) (by decide +kernel)
theorem bs_X10_official_e_36 {P : Zt → Option Zv → Prop} (K : Int → Zl → List Zv → Zt → Prop) : sx_ K P [.aload 0, .tableswitch 0 10 1 #[], .tableswitch 0 8 12 #[], .istore 3, .aload 0, .tableswitch 0 10 1 #[], .tableswitch 0 8 10 #[], .iload 3, .iload 1, .iastore, .aload 0, .tableswitch 0 10 1 #[], .tableswitch 0 8 11 #[], .iload 3, .iload 2, .iastore, .aload 0, .tableswitch 0 10 1 #[], .dup, .tableswitch 0 8 12 #[], .iconst 1, .iadd, .tableswitch 1 8 12 #[], .iload 3, .ireturn] 79 = x_aload 0 (x_g1 110 108 (x_g0 108 12 0 8 (x_istore 3 (x_aload 0 (x_g1 110 108 (x_g1 108 570 (x_iload 3 (x_iload 1 (x_iastore (x_aload 0 (x_g1 110 108 (x_g1 108 571 (x_iload 3 (x_iload 2 (x_iastore (x_aload 0 (x_g1 110 108 (x_dup (x_g0 108 12 0 8 (x_iconst 1 (x_iadd (x_p 108 12 0 8 (x_iload 3 (x_ireturn P)))))))))))))))))))))))) := ((xe_aload 0).trans (congrArg (x_aload 0) ((xe_g1 (kk := 110) rfl tl_10_1).trans (congrArg (x_g1 110 108) ((xe_g0 (kk := 108) rfl tl_8_12).trans (congrArg (x_g0 108 12 0 8) ((xe_istore 3).trans (congrArg (x_istore 3) ((xe_aload 0).trans (congrArg (x_aload 0) ((xe_g1 (kk := 110) rfl tl_10_1).trans (congrArg (x_g1 110 108) ((xe_g1 (kk := 108) rfl tl_8_10).trans (congrArg (x_g1 108 570) ((xe_iload 3).trans (congrArg (x_iload 3) ((xe_iload 1).trans (congrArg (x_iload 1) ((xe_iastore).trans (congrArg (x_iastore) ((xe_aload 0).trans (congrArg (x_aload 0) ((xe_g1 (kk := 110) rfl tl_10_1).trans (congrArg (x_g1 110 108) ((xe_g1 (kk := 108) rfl tl_8_11).trans (congrArg (x_g1 108 571) ((xe_iload 3).trans (congrArg (x_iload 3) ((xe_iload 2).trans (congrArg (x_iload 2) ((xe_iastore).trans (congrArg (x_iastore) ((xe_aload 0).trans (congrArg (x_aload 0) ((xe_g1 (kk := 110) rfl tl_10_1).trans (congrArg (x_g1 110 108) ((xe_dup).trans (congrArg (x_dup) ((xe_g0 (kk := 108) rfl tl_8_12).trans (congrArg (x_g0 108 12 0 8) ((xe_iconst 1).trans (congrArg (x_iconst 1) ((xe_iadd).trans (congrArg (x_iadd) ((xe_p (kk := 108) rfl tl_8_12).trans (congrArg (x_p 108 12 0 8) ((xe_iload 3).trans (congrArg (x_iload 3) (xe_ireturn)))))))))))))))))))))))))))))))))))))))))))))))))
abbrev po_X10_official_e (T : Zt) (s c : Int) : Zt → Option Zv → Prop := fun T' r => ∃ x : Int, r = some (vI x) ∧ fr_ [(108, [12]), (570, []), (571, [])] T T' ∧ (((x = -3 ∧ ¬ (0 ≤ s ∧ s ≤ 11 ∧ 0 ≤ c ∧ c ≤ 7) ∧ T' 108 0 12 = T 108 0 12) ∨ ((0 ≤ s ∧ s ≤ 11 ∧ 0 ≤ c ∧ c ≤ 7) ∧ T 108 0 12 = 8 ∧ x = -5 ∧ T' 108 0 12 = T 108 0 12) ∨ ((0 ≤ s ∧ s ≤ 11 ∧ 0 ≤ c ∧ c ≤ 7) ∧ T 108 0 12 < 8 ∧ x = T 108 0 12 ∧ T' 108 0 12 = T 108 0 12 + 1)) ∧ TG9_ 108 12 8 570 571 T T' s c x)
set_option maxHeartbeats 4000000 in
theorem ct_X10_official_e {T : Zt} {s c : Int} : Ct_ yX10_official zX10_official T [vR 110 0, vI s, vI c] (po_X10_official_e T s c) := by
  refine ct_of pn_10 rfl rfl (Nat.le_of_ble_eq_true rfl) (fun hT hav => ?_)
  have hr_s : -2147483648 ≤ s ∧ s ≤ 2147483647 := hav (vI s) (List.mem_cons_of_mem _ List.mem_cons_self)
  have hr_c : -2147483648 ≤ c ∧ c ≤ 2147483647 := hav (vI c) (List.mem_cons_of_mem _ (List.mem_cons_of_mem _ List.mem_cons_self))
  have hz : zX10_official.2.2.2.1 = some .boolean → ∀ (T' : Zt) (x : Int), po_X10_official_e T s c T' (some (vI x)) → 0 ≤ x ∧ x ≤ 1 := fun h => by cases h
  have hb_12 : 0 ≤ T 108 0 12 ∧ T 108 0 12 ≤ 8 := bd_f hT 108 12 tl_8_12 0
  show J_ zX10_official T (po_X10_official_e T s c) 0 0 0 [some (vR 110 0), some (vI s), some (vI c), none] [] T
  refine j_blx (F := fX10) tb_X10 (nn_ _) bk_X10_official_e_0 bs_X10_official_e_0 hz (fun K hK => ?_)
  refine hK 3 _ [vI 12, vI s] T ?_
  refine j_callS (y := yX10_isBelow) (Yc := zX10_isBelow) (rest := []) [vI s, vI 12] (ct_X10_isBelow (T := T)) cl_X10_115 (qd_c (by decide +kernel)) (nn_ _) rfl (rf_of rfl) (Nat.le_of_ble_eq_true rfl) (Nat.le_of_ble_eq_true rfl) (Nat.le_of_ble_eq_true rfl) rfl ?_
  rintro _ _ ⟨rfl, x1, rfl, hx1⟩
  show J_ zX10_official T (po_X10_official_e T s c) 0 0 6 _ [vI x1] T
  refine j_blx (F := fX10) tb_X10 (nn_ _) bk_X10_official_e_6 bs_X10_official_e_6 hz (fun K hK => ?_)
  refine And.intro (fun c2 => ?_) (fun c2 => ?_)
  · replace hx1 := hx1.resolve_left (fun z => absurd (c2.symm.trans z.1) (by decide))
    clear c2
    refine hK 18 _ [] T ?_
    refine j_blx (F := fX10) tb_X10 (nn_ _) bk_X10_official_e_18 bs_X10_official_e_18 hz (fun K hK => ?_)
    refine (show po_X10_official_e T s c T (some (vI (-3))) from ?_)
    exact ⟨_, rfl, fr_0 _ _, by omega, Or.inl ⟨rfl, Or.inl ⟨rfl, by omega⟩⟩⟩
  · replace hx1 := hx1.resolve_right (fun z => c2 z.1)
    clear c2
    refine hK 12 _ [vI 8, vI c] T ?_
    refine j_callS (y := yX10_isBelow) (Yc := zX10_isBelow) (rest := []) [vI c, vI 8] (ct_X10_isBelow (T := T)) cl_X10_115 (qd_c (by decide +kernel)) (nn_ _) rfl (rf_of rfl) (Nat.le_of_ble_eq_true rfl) (Nat.le_of_ble_eq_true rfl) (Nat.le_of_ble_eq_true rfl) rfl ?_
    rintro _ _ ⟨rfl, x3, rfl, hx3⟩
    show J_ zX10_official T (po_X10_official_e T s c) 0 0 15 _ [vI x3] T
    refine j_blx (F := fX10) tb_X10 (nn_ _) bk_X10_official_e_15 bs_X10_official_e_15 hz (fun K hK => ?_)
    refine And.intro (fun c4 => ?_) (fun c4 => ?_)
    · replace hx3 := hx3.resolve_right (fun z => c4 z.1)
      clear c4
      refine hK 21 _ [] T ?_
      refine j_blx (F := fX10) tb_X10 (nn_ _) bk_X10_official_e_21 bs_X10_official_e_21 hz (fun K hK => ?_)
      intro b5 b5b
      refine And.intro (fun c6 => ?_) (fun c6 => ?_)
      · refine hK 36 _ [] T ?_
        refine j_blx (F := fX10) tb_X10 (nn_ _) bk_X10_official_e_36 bs_X10_official_e_36 hz (fun K hK => ?_)
        intro b7 b7b
        refine iy_i (by omega) (by omega) ?_
        refine x_nm (fun U8 hU8 => ?_)
        have e9 := up_f hU8
        refine iy_i (by omega) (by omega) ?_
        refine x_nm (fun U10 hU10 => ?_)
        have e11 := up_f hU10
        intro b12 b12b
        have e13 : U10 108 0 12 = T 108 0 12 := (up_k hU10 (by exact Nat.ne_of_beq_eq_false rfl) 0 12).trans (up_k hU8 (by exact Nat.ne_of_beq_eq_false rfl) 0 12)
        rw [e13] at b12 b12b ⊢
        refine rg_i (by omega) ?_
        refine bd_i (by omega) ?_
        refine x_nm (fun U14 hU14 => ?_)
        have e15 := up_f hU14
        refine (show po_X10_official_e T s c U14 (some (vI (T 108 0 12))) from ?_)
        have e16 : U14 108 0 12 = (T 108 0 12) + 1 := up_f hU14
        have e17 : U14 108 0 12 = (T 108 0 12) + 1 := up_f hU14
        exact ⟨_, rfl, fr_u (fr_u (fr_u (fr_0 _ _) hU8 rfl) hU10 rfl) hU14 rfl, by omega, Or.inr ⟨by omega, by omega, by omega, by omega, ⟨(up_k hU14 (by exact Nat.ne_of_beq_eq_false rfl) 0 _).trans ((up_k hU10 (by exact Nat.ne_of_beq_eq_false rfl) 0 _).trans (up_f hU8)), fun j hj => (up_k hU14 (by exact Nat.ne_of_beq_eq_false rfl) 0 j).trans ((up_k hU10 (by exact Nat.ne_of_beq_eq_false rfl) 0 j).trans (up_g hU8 (fun z => hj z.2.2)))⟩, ⟨(up_k hU14 (by exact Nat.ne_of_beq_eq_false rfl) 0 _).trans (up_f hU10), fun j hj => (up_k hU14 (by exact Nat.ne_of_beq_eq_false rfl) 0 j).trans ((up_g hU10 (fun z => hj z.2.2)).trans (up_k hU8 (by exact Nat.ne_of_beq_eq_false rfl) 0 j))⟩⟩⟩
      · refine (show po_X10_official_e T s c T (some (vI (-5))) from ?_)
        exact ⟨_, rfl, fr_0 _ _, by omega, Or.inl ⟨rfl, Or.inr ⟨by omega, by omega, rfl⟩⟩⟩
    · replace hx3 := hx3.resolve_left (fun z => absurd (c4.symm.trans z.1) (by decide))
      clear c4
      refine (show po_X10_official_e T s c T (some (vI (-3))) from ?_)
      exact ⟨_, rfl, fr_0 _ _, by omega, Or.inl ⟨rfl, Or.inl ⟨rfl, by omega⟩⟩⟩
theorem bk_X11_official_e_0 : ck_ fX11 (some .int) cX11_official 0 [.iload 1, .iconst 0, .iconst 11] 4 = true := qck_r (nn_ _) (by decide +kernel)
theorem bs_X11_official_e_0 {P : Zt → Option Zv → Prop} (K : Int → Zl → List Zv → Zt → Prop) : sx_ K P [.iload 1, .iconst 0, .iconst 11] 4 = x_iload 1 (x_iconst 0 (x_iconst 11 (K 4))) := ((xe_iload 1).trans (congrArg (x_iload 1) ((xe_iconst 0).trans (congrArg (x_iconst 0) ((xe_iconst 11).trans (congrArg (x_iconst 11) xe_nil))))))
theorem bk_X11_official_e_7 : ck_ fX11 (some .int) cX11_official 7 [.ifCond .eq 20, .iload 2, .iconst 0, .iconst 7] 14 = true := qck_r (nn_ _) (by decide +kernel)
theorem bs_X11_official_e_7 {P : Zt → Option Zv → Prop} (K : Int → Zl → List Zv → Zt → Prop) : sx_ K P [.ifCond .eq 20, .iload 2, .iconst 0, .iconst 7] 14 = x_ifCond .eq 20 K (x_iload 2 (x_iconst 0 (x_iconst 7 (K 14)))) := ((xe_ifCond .eq 20).trans (congrArg (x_ifCond .eq 20 K) ((xe_iload 2).trans (congrArg (x_iload 2) ((xe_iconst 0).trans (congrArg (x_iconst 0) ((xe_iconst 7).trans (congrArg (x_iconst 7) xe_nil))))))))
theorem bk_X11_official_e_20 : ck_ fX11 (some .int) cX11_official 20 [.iconst (-3), .ireturn] 23 = true := qck_r (nn_ _) (by decide +kernel)
theorem bs_X11_official_e_20 {P : Zt → Option Zv → Prop} (K : Int → Zl → List Zv → Zt → Prop) : sx_ K P [.iconst (-3), .ireturn] 23 = x_iconst (-3) (x_ireturn P) := ((xe_iconst (-3)).trans (congrArg (x_iconst (-3)) (xe_ireturn)))
theorem bk_X11_official_e_17 : ck_ fX11 (some .int) cX11_official 17 [.ifCond .ne 23, .iconst (-3), .ireturn] 23 = true := qck_r (nn_ _) (by decide +kernel)
theorem bs_X11_official_e_17 {P : Zt → Option Zv → Prop} (K : Int → Zl → List Zv → Zt → Prop) : sx_ K P [.ifCond .ne 23, .iconst (-3), .ireturn] 23 = x_ifCond .ne 23 K (x_iconst (-3) (x_ireturn P)) := ((xe_ifCond .ne 23).trans (congrArg (x_ifCond .ne 23 K) ((xe_iconst (-3)).trans (congrArg (x_iconst (-3)) (xe_ireturn)))))
theorem bk_X11_official_e_23 : ck_ fX11 (some .int) cX11_official 23 [.aload 0, .tableswitch 0 11 21 #[], .iconst 8, .if_icmp .ne 35, .iconst (-5), .ireturn] 35 = true := qck_r (nn_ _) (by decide +kernel)
theorem bs_X11_official_e_23 {P : Zt → Option Zv → Prop} (K : Int → Zl → List Zv → Zt → Prop) : sx_ K P [.aload 0, .tableswitch 0 11 21 #[], .iconst 8, .if_icmp .ne 35, .iconst (-5), .ireturn] 35 = x_aload 0 (x_g0 111 21 0 8 (x_iconst 8 (x_if_icmp .ne 35 K (x_iconst (-5) (x_ireturn P))))) := ((xe_aload 0).trans (congrArg (x_aload 0) ((xe_g0 (kk := 111) rfl tl_11_21).trans (congrArg (x_g0 111 21 0 8) ((xe_iconst 8).trans (congrArg (x_iconst 8) ((xe_if_icmp .ne 35).trans (congrArg (x_if_icmp .ne 35 K) ((xe_iconst (-5)).trans (congrArg (x_iconst (-5)) (xe_ireturn)))))))))))
theorem bk_X11_official_e_35 : ck_ fX11 (some .int) cX11_official 35 [.aload 0, .tableswitch 0 11 22 #[], .aload 0, .tableswitch 0 11 21 #[], .iload 1, .iastore, .aload 0, .tableswitch 0 11 23 #[], .aload 0, .tableswitch 0 11 21 #[], .iload 2, .iastore, .aload 0, .dup, .tableswitch 0 11 21 #[], .iconst 1, .iadd, .tableswitch 1 11 21 #[], .aload 0, .tableswitch 0 11 21 #[], .iconst 1, .isub, .ireturn] 72 = true := qck_r (nn_ _) (by decide +kernel)
theorem bs_X11_official_e_35 {P : Zt → Option Zv → Prop} (K : Int → Zl → List Zv → Zt → Prop) : sx_ K P [.aload 0, .tableswitch 0 11 22 #[], .aload 0, .tableswitch 0 11 21 #[], .iload 1, .iastore, .aload 0, .tableswitch 0 11 23 #[], .aload 0, .tableswitch 0 11 21 #[], .iload 2, .iastore, .aload 0, .dup, .tableswitch 0 11 21 #[], .iconst 1, .iadd, .tableswitch 1 11 21 #[], .aload 0, .tableswitch 0 11 21 #[], .iconst 1, .isub, .ireturn] 72 = x_aload 0 (x_g1 111 222 (x_aload 0 (x_g0 111 21 0 8 (x_iload 1 (x_iastore (x_aload 0 (x_g1 111 223 (x_aload 0 (x_g0 111 21 0 8 (x_iload 2 (x_iastore (x_aload 0 (x_dup (x_g0 111 21 0 8 (x_iconst 1 (x_iadd (x_p 111 21 0 8 (x_aload 0 (x_g0 111 21 0 8 (x_iconst 1 (x_isub (x_ireturn P)))))))))))))))))))))) := ((xe_aload 0).trans (congrArg (x_aload 0) ((xe_g1 (kk := 111) rfl tl_11_22).trans (congrArg (x_g1 111 222) ((xe_aload 0).trans (congrArg (x_aload 0) ((xe_g0 (kk := 111) rfl tl_11_21).trans (congrArg (x_g0 111 21 0 8) ((xe_iload 1).trans (congrArg (x_iload 1) ((xe_iastore).trans (congrArg (x_iastore) ((xe_aload 0).trans (congrArg (x_aload 0) ((xe_g1 (kk := 111) rfl tl_11_23).trans (congrArg (x_g1 111 223) ((xe_aload 0).trans (congrArg (x_aload 0) ((xe_g0 (kk := 111) rfl tl_11_21).trans (congrArg (x_g0 111 21 0 8) ((xe_iload 2).trans (congrArg (x_iload 2) ((xe_iastore).trans (congrArg (x_iastore) ((xe_aload 0).trans (congrArg (x_aload 0) ((xe_dup).trans (congrArg (x_dup) ((xe_g0 (kk := 111) rfl tl_11_21).trans (congrArg (x_g0 111 21 0 8) ((xe_iconst 1).trans (congrArg (x_iconst 1) ((xe_iadd).trans (congrArg (x_iadd) ((xe_p (kk := 111) rfl tl_11_21).trans (congrArg (x_p 111 21 0 8) ((xe_aload 0).trans (congrArg (x_aload 0) ((xe_g0 (kk := 111) rfl tl_11_21).trans (congrArg (x_g0 111 21 0 8) ((xe_iconst 1).trans (congrArg (x_iconst 1) ((xe_isub).trans (congrArg (x_isub) (xe_ireturn)))))))))))))))))))))))))))))))))))))))))))))
abbrev po_X11_official_e (T : Zt) (s c : Int) : Zt → Option Zv → Prop := fun T' r => ∃ x : Int, r = some (vI x) ∧ fr_ [(111, [21]), (222, []), (223, [])] T T' ∧ (((x = -3 ∧ ¬ (0 ≤ s ∧ s ≤ 11 ∧ 0 ≤ c ∧ c ≤ 7) ∧ T' 111 0 21 = T 111 0 21) ∨ ((0 ≤ s ∧ s ≤ 11 ∧ 0 ≤ c ∧ c ≤ 7) ∧ T 111 0 21 = 8 ∧ x = -5 ∧ T' 111 0 21 = T 111 0 21) ∨ ((0 ≤ s ∧ s ≤ 11 ∧ 0 ≤ c ∧ c ≤ 7) ∧ T 111 0 21 < 8 ∧ x = T 111 0 21 ∧ T' 111 0 21 = T 111 0 21 + 1)) ∧ TG9_ 111 21 8 222 223 T T' s c x)
set_option maxHeartbeats 4000000 in
theorem ct_X11_official_e {T : Zt} {s c : Int} : Ct_ yX11_official zX11_official T [vR 111 0, vI s, vI c] (po_X11_official_e T s c) := by
  refine ct_of pn_11 rfl rfl (Nat.le_of_ble_eq_true rfl) (fun hT hav => ?_)
  have hr_s : -2147483648 ≤ s ∧ s ≤ 2147483647 := hav (vI s) (List.mem_cons_of_mem _ List.mem_cons_self)
  have hr_c : -2147483648 ≤ c ∧ c ≤ 2147483647 := hav (vI c) (List.mem_cons_of_mem _ (List.mem_cons_of_mem _ List.mem_cons_self))
  have hz : zX11_official.2.2.2.1 = some .boolean → ∀ (T' : Zt) (x : Int), po_X11_official_e T s c T' (some (vI x)) → 0 ≤ x ∧ x ≤ 1 := fun h => by cases h
  have hb_21 : 0 ≤ T 111 0 21 ∧ T 111 0 21 ≤ 8 := bd_f hT 111 21 tl_11_21 0
  show J_ zX11_official T (po_X11_official_e T s c) 0 0 0 [some (vR 111 0), some (vI s), some (vI c)] [] T
  refine j_blx (F := fX11) tb_X11 (nn_ _) bk_X11_official_e_0 bs_X11_official_e_0 hz (fun K hK => ?_)
  refine hK 4 _ [vI 11, vI 0, vI s] T ?_
  refine j_callS (y := yX11_in) (Yc := zX11_in) (rest := []) [vI s, vI 0, vI 11] (ct_X11_in (T := T)) cl_X11_255 (qd_c (by decide +kernel)) (nn_ _) rfl (rf_of rfl) (Nat.le_of_ble_eq_true rfl) (Nat.le_of_ble_eq_true rfl) (Nat.le_of_ble_eq_true rfl) rfl ?_
  rintro _ _ ⟨rfl, x1, rfl, hx1⟩
  show J_ zX11_official T (po_X11_official_e T s c) 0 0 7 _ [vI x1] T
  refine j_blx (F := fX11) tb_X11 (nn_ _) bk_X11_official_e_7 bs_X11_official_e_7 hz (fun K hK => ?_)
  refine And.intro (fun c2 => ?_) (fun c2 => ?_)
  · replace hx1 := hx1.resolve_left (fun z => absurd (c2.symm.trans z.1) (by decide))
    clear c2
    refine hK 20 _ [] T ?_
    refine j_blx (F := fX11) tb_X11 (nn_ _) bk_X11_official_e_20 bs_X11_official_e_20 hz (fun K hK => ?_)
    refine (show po_X11_official_e T s c T (some (vI (-3))) from ?_)
    exact ⟨_, rfl, fr_0 _ _, by omega, Or.inl ⟨rfl, Or.inl ⟨rfl, by omega⟩⟩⟩
  · replace hx1 := hx1.resolve_right (fun z => c2 z.1)
    clear c2
    refine hK 14 _ [vI 7, vI 0, vI c] T ?_
    refine j_callS (y := yX11_in) (Yc := zX11_in) (rest := []) [vI c, vI 0, vI 7] (ct_X11_in (T := T)) cl_X11_255 (qd_c (by decide +kernel)) (nn_ _) rfl (rf_of rfl) (Nat.le_of_ble_eq_true rfl) (Nat.le_of_ble_eq_true rfl) (Nat.le_of_ble_eq_true rfl) rfl ?_
    rintro _ _ ⟨rfl, x3, rfl, hx3⟩
    show J_ zX11_official T (po_X11_official_e T s c) 0 0 17 _ [vI x3] T
    refine j_blx (F := fX11) tb_X11 (nn_ _) bk_X11_official_e_17 bs_X11_official_e_17 hz (fun K hK => ?_)
    refine And.intro (fun c4 => ?_) (fun c4 => ?_)
    · replace hx3 := hx3.resolve_right (fun z => c4 z.1)
      clear c4
      refine hK 23 _ [] T ?_
      refine j_blx (F := fX11) tb_X11 (nn_ _) bk_X11_official_e_23 bs_X11_official_e_23 hz (fun K hK => ?_)
      intro b5 b5b
      refine And.intro (fun c6 => ?_) (fun c6 => ?_)
      · refine hK 35 _ [] T ?_
        refine j_blx (F := fX11) tb_X11 (nn_ _) bk_X11_official_e_35 bs_X11_official_e_35 hz (fun K hK => ?_)
        intro b7 b7b
        refine iy_i (by omega) (by omega) ?_
        refine x_nm (fun U8 hU8 => ?_)
        have e9 := up_f hU8
        intro b10 b10b
        have e11 : U8 111 0 21 = T 111 0 21 := up_k hU8 (by exact Nat.ne_of_beq_eq_false rfl) 0 21
        rw [e11] at b10 b10b ⊢
        refine iy_i (by omega) (by omega) ?_
        refine x_nm (fun U12 hU12 => ?_)
        have e13 := up_f hU12
        intro b14 b14b
        have e15 : U12 111 0 21 = T 111 0 21 := (up_k hU12 (by exact Nat.ne_of_beq_eq_false rfl) 0 21).trans (up_k hU8 (by exact Nat.ne_of_beq_eq_false rfl) 0 21)
        rw [e15] at b14 b14b ⊢
        refine rg_i (by omega) ?_
        refine bd_i (by omega) ?_
        refine x_nm (fun U16 hU16 => ?_)
        have e17 := up_f hU16
        intro b18 b18b
        have e19 : U16 111 0 21 = (T 111 0 21) + 1 := up_f hU16
        rw [e19] at b18 b18b ⊢
        refine rg_i (by omega) ?_
        refine (show po_X11_official_e T s c U16 (some (vI (((T 111 0 21) + 1) - 1))) from ?_)
        have e20 : U16 111 0 21 = (T 111 0 21) + 1 := up_f hU16
        have e21 : U16 111 0 21 = (T 111 0 21) + 1 := up_f hU16
        exact ⟨_, rfl, fr_u (fr_u (fr_u (fr_0 _ _) hU8 rfl) hU12 rfl) hU16 rfl, by omega, Or.inr ⟨by omega, by omega, by omega, by omega, ⟨(up_k hU16 (by exact Nat.ne_of_beq_eq_false rfl) 0 _).trans ((up_k hU12 (by exact Nat.ne_of_beq_eq_false rfl) 0 _).trans (up_f hU8)), fun j hj => (up_k hU16 (by exact Nat.ne_of_beq_eq_false rfl) 0 j).trans ((up_k hU12 (by exact Nat.ne_of_beq_eq_false rfl) 0 j).trans (up_g hU8 (fun z => hj z.2.2)))⟩, ⟨(up_k hU16 (by exact Nat.ne_of_beq_eq_false rfl) 0 _).trans (up_f hU12), fun j hj => (up_k hU16 (by exact Nat.ne_of_beq_eq_false rfl) 0 j).trans ((up_g hU12 (fun z => hj z.2.2)).trans (up_k hU8 (by exact Nat.ne_of_beq_eq_false rfl) 0 j))⟩⟩⟩
      · refine (show po_X11_official_e T s c T (some (vI (-5))) from ?_)
        exact ⟨_, rfl, fr_0 _ _, by omega, Or.inl ⟨rfl, Or.inr ⟨by omega, by omega, rfl⟩⟩⟩
    · replace hx3 := hx3.resolve_left (fun z => absurd (c4.symm.trans z.1) (by decide))
      clear c4
      refine (show po_X11_official_e T s c T (some (vI (-3))) from ?_)
      exact ⟨_, rfl, fr_0 _ _, by omega, Or.inl ⟨rfl, Or.inl ⟨rfl, by omega⟩⟩⟩
theorem wr_i {a : Int} (h : -2147483648 ≤ a ∧ a ≤ 2147483647) : wr_ a = a := by unfold wr_; omega
section DRW
variable {T : Zt}
end DRW
