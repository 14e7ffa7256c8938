-- wantNumber and readSport of the reference
theorem bk_X11_wantNumber_e_0 : ck_ fX11 none cX11_wantNumber 0 [.aload 0, .tableswitch 0 11 62 #[], .ifCond .eq 8, .return_] 8 = true := qck_r (by decide) (by decide +kernel)
theorem bs_X11_wantNumber_e_0 {P : Zt → Option Zv → Prop} (K : Int → Zl → List Zv → Zt → Prop) : sx_ K P [.aload 0, .tableswitch 0 11 62 #[], .ifCond .eq 8, .return_] 8 = x_aload 0 (x_g0 111 62 0 5 (x_ifCond .eq 8 K (x_return_ P))) := ((xe_aload 0).trans (congrArg (x_aload 0) ((xe_g0 (kk := 111) rfl tl_11_62).trans (congrArg (x_g0 111 62 0 5) ((xe_ifCond .eq 8).trans (congrArg (x_ifCond .eq 8 K) (xe_return_)))))))
theorem bk_X11_wantNumber_e_8 : ck_ fX11 none cX11_wantNumber 8 [.aload 0] 9 = true := qck_r (by decide) (by decide +kernel)
theorem bs_X11_wantNumber_e_8 {P : Zt → Option Zv → Prop} (K : Int → Zl → List Zv → Zt → Prop) : sx_ K P [.aload 0] 9 = x_aload 0 (K 9) := ((xe_aload 0).trans (congrArg (x_aload 0) xe_nil))
theorem bk_X11_wantNumber_e_12 : ck_ fX11 none cX11_wantNumber 12 [.aload 0, .tableswitch 0 11 62 #[], .ifCond .ne 36, .aload 0, .tableswitch 0 11 58 #[], .iconst 2, .if_icmp .eq 36, .aload 0, .iconst 2, .aload 0, .tableswitch 0 11 59 #[]] 33 = true := qck_r (by decide) (by decide +kernel)
theorem bs_X11_wantNumber_e_12 {P : Zt → Option Zv → Prop} (K : Int → Zl → List Zv → Zt → Prop) : sx_ K P [.aload 0, .tableswitch 0 11 62 #[], .ifCond .ne 36, .aload 0, .tableswitch 0 11 58 #[], .iconst 2, .if_icmp .eq 36, .aload 0, .iconst 2, .aload 0, .tableswitch 0 11 59 #[]] 33 = x_aload 0 (x_g0 111 62 0 5 (x_ifCond .ne 36 K (x_aload 0 (x_g0 111 58 0 4 (x_iconst 2 (x_if_icmp .eq 36 K (x_aload 0 (x_iconst 2 (x_aload 0 (x_g0 111 59 0 400 (K 33))))))))))) := ((xe_aload 0).trans (congrArg (x_aload 0) ((xe_g0 (kk := 111) rfl tl_11_62).trans (congrArg (x_g0 111 62 0 5) ((xe_ifCond .ne 36).trans (congrArg (x_ifCond .ne 36 K) ((xe_aload 0).trans (congrArg (x_aload 0) ((xe_g0 (kk := 111) rfl tl_11_58).trans (congrArg (x_g0 111 58 0 4) ((xe_iconst 2).trans (congrArg (x_iconst 2) ((xe_if_icmp .eq 36).trans (congrArg (x_if_icmp .eq 36 K) ((xe_aload 0).trans (congrArg (x_aload 0) ((xe_iconst 2).trans (congrArg (x_iconst 2) ((xe_aload 0).trans (congrArg (x_aload 0) ((xe_g0 (kk := 111) rfl tl_11_59).trans (congrArg (x_g0 111 59 0 400) xe_nil))))))))))))))))))))))
theorem bk_X11_wantNumber_e_36 : ck_ fX11 none cX11_wantNumber 36 [.aload 0, .tableswitch 0 11 62 #[], .ifCond .ne 64, .aload 0, .tableswitch 0 11 61 #[], .iload 1, .iload 2] 49 = true := qck_r (by decide) (by decide +kernel)
theorem bs_X11_wantNumber_e_36 {P : Zt → Option Zv → Prop} (K : Int → Zl → List Zv → Zt → Prop) : sx_ K P [.aload 0, .tableswitch 0 11 62 #[], .ifCond .ne 64, .aload 0, .tableswitch 0 11 61 #[], .iload 1, .iload 2] 49 = x_aload 0 (x_g0 111 62 0 5 (x_ifCond .ne 64 K (x_aload 0 (x_g0 111 61 (-2147483648) 2147483647 (x_iload 1 (x_iload 2 (K 49))))))) := ((xe_aload 0).trans (congrArg (x_aload 0) ((xe_g0 (kk := 111) rfl tl_11_62).trans (congrArg (x_g0 111 62 0 5) ((xe_ifCond .ne 64).trans (congrArg (x_ifCond .ne 64 K) ((xe_aload 0).trans (congrArg (x_aload 0) ((xe_g0 (kk := 111) rfl tl_11_61).trans (congrArg (x_g0 111 61 (-2147483648) 2147483647) ((xe_iload 1).trans (congrArg (x_iload 1) ((xe_iload 2).trans (congrArg (x_iload 2) xe_nil))))))))))))))
theorem bk_X11_wantNumber_e_64 : ck_ fX11 none cX11_wantNumber 64 [.aload 0, .tableswitch 0 11 62 #[], .ifCond .ne 81, .aload 0, .tableswitch 0 11 4 #[], .iload 3, .aload 0, .tableswitch 0 11 61 #[], .iastore, .return_] 82 = true := qck_r (by decide) (by decide +kernel)
theorem bs_X11_wantNumber_e_64 {P : Zt → Option Zv → Prop} (K : Int → Zl → List Zv → Zt → Prop) : sx_ K P [.aload 0, .tableswitch 0 11 62 #[], .ifCond .ne 81, .aload 0, .tableswitch 0 11 4 #[], .iload 3, .aload 0, .tableswitch 0 11 61 #[], .iastore, .return_] 82 = x_aload 0 (x_g0 111 62 0 5 (x_ifCond .ne 81 K (x_aload 0 (x_g1 111 204 (x_iload 3 (x_aload 0 (x_g0 111 61 (-2147483648) 2147483647 (x_iastore (x_return_ P))))))))) := ((xe_aload 0).trans (congrArg (x_aload 0) ((xe_g0 (kk := 111) rfl tl_11_62).trans (congrArg (x_g0 111 62 0 5) ((xe_ifCond .ne 81).trans (congrArg (x_ifCond .ne 81 K) ((xe_aload 0).trans (congrArg (x_aload 0) ((xe_g1 (kk := 111) rfl tl_11_4).trans (congrArg (x_g1 111 204) ((xe_iload 3).trans (congrArg (x_iload 3) ((xe_aload 0).trans (congrArg (x_aload 0) ((xe_g0 (kk := 111) rfl tl_11_61).trans (congrArg (x_g0 111 61 (-2147483648) 2147483647) ((xe_iastore).trans (congrArg (x_iastore) (xe_return_)))))))))))))))))))
theorem bk_X11_wantNumber_e_81 : ck_ fX11 none cX11_wantNumber 81 [.return_] 82 = true := qck_r (by decide) (by decide +kernel)
theorem bs_X11_wantNumber_e_81 {P : Zt → Option Zv → Prop} (K : Int → Zl → List Zv → Zt → Prop) : sx_ K P [.return_] 82 = x_return_ P := (xe_return_)
theorem bk_X11_wantNumber_e_52 : ck_ fX11 none cX11_wantNumber 52 [.ifCond .ne 64, .aload 0, .iconst 4, .aload 0, .tableswitch 0 11 59 #[]] 61 = true := qck_r (by decide) (by decide +kernel)
theorem bs_X11_wantNumber_e_52 {P : Zt → Option Zv → Prop} (K : Int → Zl → List Zv → Zt → Prop) : sx_ K P [.ifCond .ne 64, .aload 0, .iconst 4, .aload 0, .tableswitch 0 11 59 #[]] 61 = x_ifCond .ne 64 K (x_aload 0 (x_iconst 4 (x_aload 0 (x_g0 111 59 0 400 (K 61))))) := ((xe_ifCond .ne 64).trans (congrArg (x_ifCond .ne 64 K) ((xe_aload 0).trans (congrArg (x_aload 0) ((xe_iconst 4).trans (congrArg (x_iconst 4) ((xe_aload 0).trans (congrArg (x_aload 0) ((xe_g0 (kk := 111) rfl tl_11_59).trans (congrArg (x_g0 111 59 0 400) xe_nil))))))))))
abbrev po_X11_wantNumber_e (T : Zt) (least most rule : Int) : Zt → Option Zv → Prop := fun T' r => r = none ∧ fr_ [(111, [57, 58, 59, 60, 61, 62, 63]), (204, [])] T T' ∧ (((T 111 0 62 ≠ 0 ∧ T' 111 0 62 = T 111 0 62 ∧ T' 111 0 63 = T 111 0 63) ∨ (T 111 0 62 = 0 ∧ T' 111 0 62 ≠ 0 ∧ nrf9_ (cl9_ (T 111 0 1) (fun j => T 200 0 j)) (T 111 0 1) (T 111 0 57) least most = Sum.inl (T' 111 0 62, T' 111 0 63)) ∨ (T 111 0 62 = 0 ∧ T' 111 0 62 = 0 ∧ nrf9_ (cl9_ (T 111 0 1) (fun j => T 200 0 j)) (T 111 0 1) (T 111 0 57) least most = Sum.inr (T' 111 0 57, T' 204 0 rule) ∧ T' 111 0 63 = T 111 0 63 ∧ T 111 0 57 ≤ T' 111 0 57 ∧ T' 111 0 57 ≤ T 111 0 1)) ∧ ∀ j, j ≠ rule → T' 204 0 j = T 204 0 j)
set_option maxHeartbeats 4000000 in
theorem ct_X11_wantNumber_e {T : Zt} {least most rule : Int} (h1 : T 111 0 62 = 0 → T 111 0 57 ≤ T 111 0 1) (h2 : 0 ≤ rule ∧ rule < 23) (h3 : 0 ≤ least ∧ most ≤ 999) : Ct_ yX11_wantNumber zX11_wantNumber T [vR 111 0, vI least, vI most, vI rule] (po_X11_wantNumber_e T least most rule) := by
  refine ct_of (by decide) rfl rfl (Nat.le_of_ble_eq_true rfl) (fun hT hav => ?_)
  have hr_least : -2147483648 ≤ least ∧ least ≤ 2147483647 := hav (vI least) (by simp)
  have hr_most : -2147483648 ≤ most ∧ most ≤ 2147483647 := hav (vI most) (by simp)
  have hr_rule : -2147483648 ≤ rule ∧ rule ≤ 2147483647 := hav (vI rule) (by simp)
  have hz : zX11_wantNumber.2.2.2.1 = some .boolean → ∀ (T' : Zt) (x : Int), po_X11_wantNumber_e T least most rule T' (some (vI x)) → 0 ≤ x ∧ x ≤ 1 := fun h => by cases h
  have hb_1 : 0 ≤ T 111 0 1 ∧ T 111 0 1 ≤ 400 := bd_f hT 111 1 (by decide +kernel : (tf_ 111)[1]? = some (0, 0, 0, 400)) 0
  have hb_57 : 0 ≤ T 111 0 57 ∧ T 111 0 57 ≤ 400 := bd_f hT 111 57 (by decide +kernel : (tf_ 111)[57]? = some (0, 0, 0, 400)) 0
  show J_ zX11_wantNumber T (po_X11_wantNumber_e T least most rule) 0 0 0 [some (vR 111 0), some (vI least), some (vI most), some (vI rule)] [] T
  refine j_blx (F := fX11) tb_X11 (by decide) bk_X11_wantNumber_e_0 bs_X11_wantNumber_e_0 hz (fun K hK => ?_)
  intro b1 b1b
  refine And.intro (fun c2 => ?_) (fun c2 => ?_)
  · refine hK 8 [some (vR 111 0), some (vI least), some (vI most), some (vI rule)] [] T ?_
    refine j_blx (F := fX11) tb_X11 (by decide) bk_X11_wantNumber_e_8 bs_X11_wantNumber_e_8 hz (fun K hK => ?_)
    refine hK 9 [some (vR 111 0), some (vI least), some (vI most), some (vI rule)] [vR 111 0] T ?_
    refine j_callV (y := yX11_take) (Yc := zX11_take) (rest := []) [] (ct_X11_take_e (T := T) (by omega) (by omega)) cl_X11_291 (qd_c (by decide +kernel)) (by decide) rfl (by decide +kernel) (Nat.le_of_ble_eq_true rfl) (by decide) (by decide) rfl ?_
    rintro U3 _ ⟨rfl, fU3, qU3⟩
    show J_ zX11_wantNumber T (po_X11_wantNumber_e T least most rule) 0 0 12 [some (vR 111 0), some (vI least), some (vI most), some (vI rule)] [] U3
    have qka := qU3
    obtain ⟨qaa, ea, ka, hka, hqa⟩ := qka
    have tra := tk9_r hka
    refine j_blx (F := fX11) tb_X11 (by decide) bk_X11_wantNumber_e_12 bs_X11_wantNumber_e_12 hz (fun K hK => ?_)
    intro b4 b4b
    refine And.intro (fun c5 => ?_) (fun c5 => ?_)
    · refine hK 36 [some (vR 111 0), some (vI least), some (vI most), some (vI rule)] [] U3 ?_
      refine j_blx (F := fX11) tb_X11 (by decide) bk_X11_wantNumber_e_36 bs_X11_wantNumber_e_36 hz (fun K hK => ?_)
      intro b6 b6b
      refine And.intro (fun c7 => ?_) (fun c7 => ?_)
      · refine hK 64 [some (vR 111 0), some (vI least), some (vI most), some (vI rule)] [] U3 ?_
        refine j_blx (F := fX11) tb_X11 (by decide) bk_X11_wantNumber_e_64 bs_X11_wantNumber_e_64 hz (fun K hK => ?_)
        intro b8 b8b
        refine And.intro (fun c9 => ?_) (fun c9 => ?_)
        · refine hK 81 [some (vR 111 0), some (vI least), some (vI most), some (vI rule)] [] U3 ?_
          refine j_blx (F := fX11) tb_X11 (by decide) bk_X11_wantNumber_e_81 bs_X11_wantNumber_e_81 hz (fun K hK => ?_)
          refine (show po_X11_wantNumber_e T least most rule U3 (none) from ?_)
          have e10 : U3 204 0 rule = T 204 0 rule := fU3 204 0 rule rfl
          refine ⟨rfl, fr_t (fr_0 _ _) (fr_s fU3 rfl), Or.inr (Or.inl ⟨by omega, by omega, ?_⟩), fun j _ => (show fr_ [(111, [57, 58, 59, 60, 61, 62, 63])] T U3 from fr_t (fr_0 _ _) (fr_s fU3 rfl)) 204 0 j rfl⟩
          rw [show U3 111 0 62 = 1 by omega, show U3 111 0 63 = U3 111 0 59 by omega]
          exact nrf9_1 hka (by omega) (by omega)
        · exfalso; omega
      · exfalso; omega
    · intro b11 b11b
      refine And.intro (fun c12 => ?_) (fun c12 => ?_)
      · refine hK 36 [some (vR 111 0), some (vI least), some (vI most), some (vI rule)] [] U3 ?_
        refine j_blx (F := fX11) tb_X11 (by decide) bk_X11_wantNumber_e_36 bs_X11_wantNumber_e_36 hz (fun K hK => ?_)
        intro b13 b13b
        refine And.intro (fun c14 => ?_) (fun c14 => ?_)
        · exfalso; omega
        · intro b15 b15b
          refine hK 49 [some (vR 111 0), some (vI least), some (vI most), some (vI rule)] [vI most, vI least, vI (U3 111 0 61)] U3 ?_
          refine j_callS (y := yX11_in) (Yc := zX11_in) (rest := []) [vI (U3 111 0 61), vI least, vI most] (ct_X11_in (T := U3)) cl_X11_255 (qd_c (by decide +kernel)) (by decide) rfl (by decide +kernel) (Nat.le_of_ble_eq_true rfl) (by decide) (by decide) rfl ?_
          rintro _ _ ⟨rfl, x16, rfl, hx16⟩
          show J_ zX11_wantNumber T (po_X11_wantNumber_e T least most rule) 0 0 52 [some (vR 111 0), some (vI least), some (vI most), some (vI rule)] [vI x16] U3
          refine j_blx (F := fX11) tb_X11 (by decide) bk_X11_wantNumber_e_52 bs_X11_wantNumber_e_52 hz (fun K hK => ?_)
          refine And.intro (fun c17 => ?_) (fun c17 => ?_)
          · refine hK 64 [some (vR 111 0), some (vI least), some (vI most), some (vI rule)] [] U3 ?_
            refine j_blx (F := fX11) tb_X11 (by decide) bk_X11_wantNumber_e_64 bs_X11_wantNumber_e_64 hz (fun K hK => ?_)
            intro b18 b18b
            refine And.intro (fun c19 => ?_) (fun c19 => ?_)
            · exfalso; omega
            · intro b20 b20b
              refine iy_i (by omega) (by omega) ?_
              refine x_nm (fun U21 hU21 => ?_)
              have e22 := up_f hU21
              refine (show po_X11_wantNumber_e T least most rule U21 (none) from ?_)
              have e23 : U21 111 0 62 = U3 111 0 62 := up_k hU21 (by decide) 0 62
              have e24 : U21 111 0 63 = U3 111 0 63 := up_k hU21 (by decide) 0 63
              have e25 : U21 111 0 57 = U3 111 0 57 := up_k hU21 (by decide) 0 57
              have e26 : U21 204 0 rule = U3 111 0 61 := up_f hU21
              have hv := (hqa.resolve_right (fun z => by omega)).2.2.2.2.2 (by omega)
              have ee : U3 111 0 60 = ea := by omega
              refine ⟨rfl, fr_u (fr_t (fr_0 _ _) (fr_s fU3 rfl)) hU21 rfl, Or.inr (Or.inr ⟨by omega, by omega, ?_, by omega, by omega, by omega⟩), fun j hj => (up_g hU21 (fun z => hj z.2.2)).trans ((show fr_ [(111, [57, 58, 59, 60, 61, 62, 63])] T U3 from fr_t (fr_0 _ _) (fr_s fU3 rfl)) 204 0 j rfl)⟩
              rw [show U21 111 0 57 = ea by omega, up_f hU21]
              exact nrf9_0 hka (by omega) (by omega) hv (by omega)
          · intro b27 b27b
            refine hK 61 [some (vR 111 0), some (vI least), some (vI most), some (vI rule)] [vI (U3 111 0 59), vI 4, vR 111 0] U3 ?_
            refine j_callV (y := yX11_bad) (Yc := zX11_bad) (rest := []) [vI 4, vI (U3 111 0 59)] (ct_X11_bad_e (T := U3) (by omega) (by omega)) cl_X11_281 (qd_c (by decide +kernel)) (by decide) rfl (by decide +kernel) (Nat.le_of_ble_eq_true rfl) (by decide) (by decide) rfl ?_
            rintro U28 _ ⟨rfl, fU28, qU28⟩
            show J_ zX11_wantNumber T (po_X11_wantNumber_e T least most rule) 0 0 64 [some (vR 111 0), some (vI least), some (vI most), some (vI rule)] [] U28
            refine j_blx (F := fX11) tb_X11 (by decide) bk_X11_wantNumber_e_64 bs_X11_wantNumber_e_64 hz (fun K hK => ?_)
            intro b29 b29b
            refine And.intro (fun c30 => ?_) (fun c30 => ?_)
            · refine hK 81 [some (vR 111 0), some (vI least), some (vI most), some (vI rule)] [] U28 ?_
              refine j_blx (F := fX11) tb_X11 (by decide) bk_X11_wantNumber_e_81 bs_X11_wantNumber_e_81 hz (fun K hK => ?_)
              refine (show po_X11_wantNumber_e T least most rule U28 (none) from ?_)
              have e31 : U28 111 0 57 = U3 111 0 57 := fU28 111 0 57 rfl
              have e32 : U28 204 0 rule = T 204 0 rule := (fU28 204 0 rule rfl).trans (fU3 204 0 rule rfl)
              refine ⟨rfl, fr_t (fr_t (fr_0 _ _) (fr_s fU3 rfl)) (fr_s fU28 rfl), Or.inr (Or.inl ⟨by omega, by omega, ?_⟩), fun j _ => (show fr_ [(111, [62, 63, 57, 58, 59, 60, 61])] T U28 from fr_t (fr_t (fr_0 _ _) (fr_s fU3 rfl)) (fr_s fU28 rfl)) 204 0 j rfl⟩
              rw [show U28 111 0 62 = 4 by omega, show U28 111 0 63 = U3 111 0 59 by omega]
              have hv := (hqa.resolve_right (fun z => by omega)).2.2.2.2.2 (by omega)
              exact nrf9_4 hka (by omega) (by omega) hv (by omega)
            · exfalso; omega
      · intro b33 b33b
        refine hK 33 [some (vR 111 0), some (vI least), some (vI most), some (vI rule)] [vI (U3 111 0 59), vI 2, vR 111 0] U3 ?_
        refine j_callV (y := yX11_bad) (Yc := zX11_bad) (rest := []) [vI 2, vI (U3 111 0 59)] (ct_X11_bad_e (T := U3) (by omega) (by omega)) cl_X11_281 (qd_c (by decide +kernel)) (by decide) rfl (by decide +kernel) (Nat.le_of_ble_eq_true rfl) (by decide) (by decide) rfl ?_
        rintro U34 _ ⟨rfl, fU34, qU34⟩
        show J_ zX11_wantNumber T (po_X11_wantNumber_e T least most rule) 0 0 36 [some (vR 111 0), some (vI least), some (vI most), some (vI rule)] [] U34
        refine j_blx (F := fX11) tb_X11 (by decide) bk_X11_wantNumber_e_36 bs_X11_wantNumber_e_36 hz (fun K hK => ?_)
        intro b35 b35b
        refine And.intro (fun c36 => ?_) (fun c36 => ?_)
        · refine hK 64 [some (vR 111 0), some (vI least), some (vI most), some (vI rule)] [] U34 ?_
          refine j_blx (F := fX11) tb_X11 (by decide) bk_X11_wantNumber_e_64 bs_X11_wantNumber_e_64 hz (fun K hK => ?_)
          intro b37 b37b
          refine And.intro (fun c38 => ?_) (fun c38 => ?_)
          · refine hK 81 [some (vR 111 0), some (vI least), some (vI most), some (vI rule)] [] U34 ?_
            refine j_blx (F := fX11) tb_X11 (by decide) bk_X11_wantNumber_e_81 bs_X11_wantNumber_e_81 hz (fun K hK => ?_)
            refine (show po_X11_wantNumber_e T least most rule U34 (none) from ?_)
            have e39 : U34 111 0 57 = U3 111 0 57 := fU34 111 0 57 rfl
            have e40 : U34 204 0 rule = T 204 0 rule := (fU34 204 0 rule rfl).trans (fU3 204 0 rule rfl)
            refine ⟨rfl, fr_t (fr_t (fr_0 _ _) (fr_s fU3 rfl)) (fr_s fU34 rfl), Or.inr (Or.inl ⟨by omega, by omega, ?_⟩), fun j _ => (show fr_ [(111, [62, 63, 57, 58, 59, 60, 61])] T U34 from fr_t (fr_t (fr_0 _ _) (fr_s fU3 rfl)) (fr_s fU34 rfl)) 204 0 j rfl⟩
            rw [show U34 111 0 62 = 2 by omega, show U34 111 0 63 = U3 111 0 59 by omega]
            exact nrf9_2 hka (by omega) (by omega) (by omega)
          · exfalso; omega
        · exfalso; omega
  · refine (show po_X11_wantNumber_e T least most rule T (none) from ?_)
    exact ⟨rfl, fr_0 _ _, Or.inl ⟨by omega, rfl, rfl⟩, fun j _ => rfl⟩
theorem bk_X11_readSport_e_0 : ck_ fX11 none cX11_readSport 0 [.aload 0] 1 = true := qck_r (by decide) (by decide +kernel)
theorem bs_X11_readSport_e_0 {P : Zt → Option Zv → Prop} (K : Int → Zl → List Zv → Zt → Prop) : sx_ K P [.aload 0] 1 = x_aload 0 (K 1) := ((xe_aload 0).trans (congrArg (x_aload 0) xe_nil))
theorem bk_X11_readSport_e_4 : ck_ fX11 none cX11_readSport 4 [.aload 0, .tableswitch 0 11 62 #[], .ifCond .ne 28, .aload 0, .tableswitch 0 11 58 #[], .iconst 1, .if_icmp .eq 28, .aload 0, .iconst 2, .aload 0, .tableswitch 0 11 59 #[]] 25 = true := qck_r (by decide) (by decide +kernel)
theorem bs_X11_readSport_e_4 {P : Zt → Option Zv → Prop} (K : Int → Zl → List Zv → Zt → Prop) : sx_ K P [.aload 0, .tableswitch 0 11 62 #[], .ifCond .ne 28, .aload 0, .tableswitch 0 11 58 #[], .iconst 1, .if_icmp .eq 28, .aload 0, .iconst 2, .aload 0, .tableswitch 0 11 59 #[]] 25 = x_aload 0 (x_g0 111 62 0 5 (x_ifCond .ne 28 K (x_aload 0 (x_g0 111 58 0 4 (x_iconst 1 (x_if_icmp .eq 28 K (x_aload 0 (x_iconst 2 (x_aload 0 (x_g0 111 59 0 400 (K 25))))))))))) := ((xe_aload 0).trans (congrArg (x_aload 0) ((xe_g0 (kk := 111) rfl tl_11_62).trans (congrArg (x_g0 111 62 0 5) ((xe_ifCond .ne 28).trans (congrArg (x_ifCond .ne 28 K) ((xe_aload 0).trans (congrArg (x_aload 0) ((xe_g0 (kk := 111) rfl tl_11_58).trans (congrArg (x_g0 111 58 0 4) ((xe_iconst 1).trans (congrArg (x_iconst 1) ((xe_if_icmp .eq 28).trans (congrArg (x_if_icmp .eq 28 K) ((xe_aload 0).trans (congrArg (x_aload 0) ((xe_iconst 2).trans (congrArg (x_iconst 2) ((xe_aload 0).trans (congrArg (x_aload 0) ((xe_g0 (kk := 111) rfl tl_11_59).trans (congrArg (x_g0 111 59 0 400) xe_nil))))))))))))))))))))))
theorem bk_X11_readSport_e_28 : ck_ fX11 none cX11_readSport 28 [.aload 0, .tableswitch 0 11 62 #[], .ifCond .ne 46, .aload 0, .aload 0, .tableswitch 0 11 65 #[]] 40 = true := qck_r (by decide) (by decide +kernel)
theorem bs_X11_readSport_e_28 {P : Zt → Option Zv → Prop} (K : Int → Zl → List Zv → Zt → Prop) : sx_ K P [.aload 0, .tableswitch 0 11 62 #[], .ifCond .ne 46, .aload 0, .aload 0, .tableswitch 0 11 65 #[]] 40 = x_aload 0 (x_g0 111 62 0 5 (x_ifCond .ne 46 K (x_aload 0 (x_aload 0 (x_g1 111 265 (K 40)))))) := ((xe_aload 0).trans (congrArg (x_aload 0) ((xe_g0 (kk := 111) rfl tl_11_62).trans (congrArg (x_g0 111 62 0 5) ((xe_ifCond .ne 46).trans (congrArg (x_ifCond .ne 46 K) ((xe_aload 0).trans (congrArg (x_aload 0) ((xe_aload 0).trans (congrArg (x_aload 0) ((xe_g1 (kk := 111) rfl tl_11_65).trans (congrArg (x_g1 111 265) xe_nil))))))))))))
theorem bk_X11_readSport_e_46 : ck_ fX11 none cX11_readSport 46 [.iconst (-1), .istore 1, .aload 0, .tableswitch 0 11 62 #[], .ifCond .ne 69, .iload 1, .iconst (-1), .if_icmp .ne 69, .aload 0, .iconst 3, .aload 0, .tableswitch 0 11 59 #[]] 66 = true := qck_r (by decide) (by decide +kernel)
theorem bs_X11_readSport_e_46 {P : Zt → Option Zv → Prop} (K : Int → Zl → List Zv → Zt → Prop) : sx_ K P [.iconst (-1), .istore 1, .aload 0, .tableswitch 0 11 62 #[], .ifCond .ne 69, .iload 1, .iconst (-1), .if_icmp .ne 69, .aload 0, .iconst 3, .aload 0, .tableswitch 0 11 59 #[]] 66 = x_iconst (-1) (x_istore 1 (x_aload 0 (x_g0 111 62 0 5 (x_ifCond .ne 69 K (x_iload 1 (x_iconst (-1) (x_if_icmp .ne 69 K (x_aload 0 (x_iconst 3 (x_aload 0 (x_g0 111 59 0 400 (K 66)))))))))))) := ((xe_iconst (-1)).trans (congrArg (x_iconst (-1)) ((xe_istore 1).trans (congrArg (x_istore 1) ((xe_aload 0).trans (congrArg (x_aload 0) ((xe_g0 (kk := 111) rfl tl_11_62).trans (congrArg (x_g0 111 62 0 5) ((xe_ifCond .ne 69).trans (congrArg (x_ifCond .ne 69 K) ((xe_iload 1).trans (congrArg (x_iload 1) ((xe_iconst (-1)).trans (congrArg (x_iconst (-1)) ((xe_if_icmp .ne 69).trans (congrArg (x_if_icmp .ne 69 K) ((xe_aload 0).trans (congrArg (x_aload 0) ((xe_iconst 3).trans (congrArg (x_iconst 3) ((xe_aload 0).trans (congrArg (x_aload 0) ((xe_g0 (kk := 111) rfl tl_11_59).trans (congrArg (x_g0 111 59 0 400) xe_nil))))))))))))))))))))))))
theorem bk_X11_readSport_e_69 : ck_ fX11 none cX11_readSport 69 [.aload 0, .tableswitch 0 11 62 #[], .ifCond .ne 83, .aload 0, .tableswitch 0 11 4 #[], .iconst 0, .iload 1, .iastore, .return_] 84 = true := qck_r (by decide) (by decide +kernel)
theorem bs_X11_readSport_e_69 {P : Zt → Option Zv → Prop} (K : Int → Zl → List Zv → Zt → Prop) : sx_ K P [.aload 0, .tableswitch 0 11 62 #[], .ifCond .ne 83, .aload 0, .tableswitch 0 11 4 #[], .iconst 0, .iload 1, .iastore, .return_] 84 = x_aload 0 (x_g0 111 62 0 5 (x_ifCond .ne 83 K (x_aload 0 (x_g1 111 204 (x_iconst 0 (x_iload 1 (x_iastore (x_return_ P)))))))) := ((xe_aload 0).trans (congrArg (x_aload 0) ((xe_g0 (kk := 111) rfl tl_11_62).trans (congrArg (x_g0 111 62 0 5) ((xe_ifCond .ne 83).trans (congrArg (x_ifCond .ne 83 K) ((xe_aload 0).trans (congrArg (x_aload 0) ((xe_g1 (kk := 111) rfl tl_11_4).trans (congrArg (x_g1 111 204) ((xe_iconst 0).trans (congrArg (x_iconst 0) ((xe_iload 1).trans (congrArg (x_iload 1) ((xe_iastore).trans (congrArg (x_iastore) (xe_return_)))))))))))))))))
theorem bk_X11_readSport_e_83 : ck_ fX11 none cX11_readSport 83 [.return_] 84 = true := qck_r (by decide) (by decide +kernel)
theorem bs_X11_readSport_e_83 {P : Zt → Option Zv → Prop} (K : Int → Zl → List Zv → Zt → Prop) : sx_ K P [.return_] 84 = x_return_ P := (xe_return_)
theorem bk_X11_readSport_e_43 : ck_ fX11 none cX11_readSport 43 [.goto 47] 46 = true := qck_r (by decide) (by decide +kernel)
theorem bs_X11_readSport_e_43 {P : Zt → Option Zv → Prop} (K : Int → Zl → List Zv → Zt → Prop) : sx_ K P [.goto 47] 46 = x_goto 47 K := (xe_goto 47)
theorem bk_X11_readSport_e_47 : ck_ fX11 none cX11_readSport 47 [.istore 1, .aload 0, .tableswitch 0 11 62 #[], .ifCond .ne 69, .iload 1, .iconst (-1), .if_icmp .ne 69, .aload 0, .iconst 3, .aload 0, .tableswitch 0 11 59 #[]] 66 = true := qck_r (by decide) (by decide +kernel)
theorem bs_X11_readSport_e_47 {P : Zt → Option Zv → Prop} (K : Int → Zl → List Zv → Zt → Prop) : sx_ K P [.istore 1, .aload 0, .tableswitch 0 11 62 #[], .ifCond .ne 69, .iload 1, .iconst (-1), .if_icmp .ne 69, .aload 0, .iconst 3, .aload 0, .tableswitch 0 11 59 #[]] 66 = x_istore 1 (x_aload 0 (x_g0 111 62 0 5 (x_ifCond .ne 69 K (x_iload 1 (x_iconst (-1) (x_if_icmp .ne 69 K (x_aload 0 (x_iconst 3 (x_aload 0 (x_g0 111 59 0 400 (K 66))))))))))) := ((xe_istore 1).trans (congrArg (x_istore 1) ((xe_aload 0).trans (congrArg (x_aload 0) ((xe_g0 (kk := 111) rfl tl_11_62).trans (congrArg (x_g0 111 62 0 5) ((xe_ifCond .ne 69).trans (congrArg (x_ifCond .ne 69 K) ((xe_iload 1).trans (congrArg (x_iload 1) ((xe_iconst (-1)).trans (congrArg (x_iconst (-1)) ((xe_if_icmp .ne 69).trans (congrArg (x_if_icmp .ne 69 K) ((xe_aload 0).trans (congrArg (x_aload 0) ((xe_iconst 3).trans (congrArg (x_iconst 3) ((xe_aload 0).trans (congrArg (x_aload 0) ((xe_g0 (kk := 111) rfl tl_11_59).trans (congrArg (x_g0 111 59 0 400) xe_nil))))))))))))))))))))))
abbrev po_X11_readSport_e (T : Zt) : Zt → Option Zv → Prop := fun T' r => r = none ∧ fr_ [(111, [57, 58, 59, 60, 61, 62, 63]), (204, [])] T T' ∧ (((T' 111 0 62 ≠ 0 ∧ wof9_ wl_265 wt_265 (cl9_ (T 111 0 1) (fun j => T 200 0 j)) (T 111 0 1) (T 111 0 57) = Sum.inl (T' 111 0 62, T' 111 0 63)) ∨ (T' 111 0 62 = 0 ∧ wof9_ wl_265 wt_265 (cl9_ (T 111 0 1) (fun j => T 200 0 j)) (T 111 0 1) (T 111 0 57) = Sum.inr (T' 111 0 57, T' 204 0 0) ∧ T' 111 0 63 = T 111 0 63 ∧ T 111 0 57 ≤ T' 111 0 57 ∧ T' 111 0 57 ≤ T 111 0 1)) ∧ ∀ j, j ≠ 0 → T' 204 0 j = T 204 0 j)
set_option maxHeartbeats 4000000 in
theorem ct_X11_readSport_e {T : Zt} (h1 : T 111 0 57 ≤ T 111 0 1) (h62 : T 111 0 62 = 0) (hC : CW_ T) : Ct_ yX11_readSport zX11_readSport T [vR 111 0] (po_X11_readSport_e T) := by
  refine ct_of (by decide) rfl rfl (Nat.le_of_ble_eq_true rfl) (fun hT hav => ?_)
  have hz : zX11_readSport.2.2.2.1 = some .boolean → ∀ (T' : Zt) (x : Int), po_X11_readSport_e T T' (some (vI x)) → 0 ≤ x ∧ x ≤ 1 := fun h => by cases h
  have hb_1 : 0 ≤ T 111 0 1 ∧ T 111 0 1 ≤ 400 := bd_f hT 111 1 (by decide +kernel : (tf_ 111)[1]? = some (0, 0, 0, 400)) 0
  have hb_57 : 0 ≤ T 111 0 57 ∧ T 111 0 57 ≤ 400 := bd_f hT 111 57 (by decide +kernel : (tf_ 111)[57]? = some (0, 0, 0, 400)) 0
  show J_ zX11_readSport T (po_X11_readSport_e T) 0 0 0 [some (vR 111 0), none] [] T
  refine j_blx (F := fX11) tb_X11 (by decide) bk_X11_readSport_e_0 bs_X11_readSport_e_0 hz (fun K hK => ?_)
  refine hK 1 [some (vR 111 0), none] [vR 111 0] T ?_
  refine j_callV (y := yX11_take) (Yc := zX11_take) (rest := []) [] (ct_X11_take_e (T := T) (by omega) (by omega)) cl_X11_291 (qd_c (by decide +kernel)) (by decide) rfl (by decide +kernel) (Nat.le_of_ble_eq_true rfl) (by decide) (by decide) rfl ?_
  rintro U1 _ ⟨rfl, fU1, qU1⟩
  show J_ zX11_readSport T (po_X11_readSport_e T) 0 0 4 [some (vR 111 0), none] [] U1
  have qka := qU1
  obtain ⟨qaa, ea, ka, hka, hqa⟩ := qka
  have tra := tk9_r hka
  refine j_blx (F := fX11) tb_X11 (by decide) bk_X11_readSport_e_4 bs_X11_readSport_e_4 hz (fun K hK => ?_)
  intro b2 b2b
  refine And.intro (fun c3 => ?_) (fun c3 => ?_)
  · refine hK 28 [some (vR 111 0), none] [] U1 ?_
    refine j_blx (F := fX11) tb_X11 (by decide) bk_X11_readSport_e_28 bs_X11_readSport_e_28 hz (fun K hK => ?_)
    intro b4 b4b
    refine And.intro (fun c5 => ?_) (fun c5 => ?_)
    · refine hK 46 [some (vR 111 0), none] [] U1 ?_
      refine j_blx (F := fX11) tb_X11 (by decide) bk_X11_readSport_e_46 bs_X11_readSport_e_46 hz (fun K hK => ?_)
      intro b6 b6b
      refine And.intro (fun c7 => ?_) (fun c7 => ?_)
      · refine hK 69 [some (vR 111 0), some (vI (-1))] [] U1 ?_
        refine j_blx (F := fX11) tb_X11 (by decide) bk_X11_readSport_e_69 bs_X11_readSport_e_69 hz (fun K hK => ?_)
        intro b8 b8b
        refine And.intro (fun c9 => ?_) (fun c9 => ?_)
        · refine hK 83 [some (vR 111 0), some (vI (-1))] [] U1 ?_
          refine j_blx (F := fX11) tb_X11 (by decide) bk_X11_readSport_e_83 bs_X11_readSport_e_83 hz (fun K hK => ?_)
          refine (show po_X11_readSport_e T U1 (none) from ?_)
          have e10 : U1 204 0 0 = T 204 0 0 := fU1 204 0 0 rfl
          refine ⟨rfl, fr_t (fr_0 _ _) (fr_s fU1 rfl), Or.inl ⟨by omega, ?_⟩, fun j _ => (show fr_ [(111, [57, 58, 59, 60, 61, 62, 63])] T U1 from fr_t (fr_0 _ _) (fr_s fU1 rfl)) 204 0 j rfl⟩
          rw [show U1 111 0 62 = 1 by omega, show U1 111 0 63 = U1 111 0 59 by omega]
          exact wof9_1 hka (by omega) (by omega)
        · exfalso; omega
      · exfalso; omega
    · exfalso; omega
  · intro b11 b11b
    refine And.intro (fun c12 => ?_) (fun c12 => ?_)
    · refine hK 28 [some (vR 111 0), none] [] U1 ?_
      refine j_blx (F := fX11) tb_X11 (by decide) bk_X11_readSport_e_28 bs_X11_readSport_e_28 hz (fun K hK => ?_)
      intro b13 b13b
      refine And.intro (fun c14 => ?_) (fun c14 => ?_)
      · exfalso; omega
      · refine hK 40 [some (vR 111 0), none] [vR 265 0, vR 111 0] U1 ?_
        refine j_callV (y := yX11_whichOf) (Yc := zX11_whichOf) (rest := []) [vR 265 0] (ct_X11_whichOf_e1 (T := U1) (by omega) (by exact CX_f (ws := [(111, [57, 58, 59, 60, 61, 62, 63])]) hC (fr_t (fr_0 _ _) (fr_s fU1 rfl)) ⟨fun _ => rfl, fun _ => rfl, fun _ => rfl, fun _ => rfl, fun _ => rfl, trivial⟩)) cl_X11_294 (qd_c (by decide +kernel)) (by decide) rfl (by decide +kernel) (Nat.le_of_ble_eq_true rfl) (by decide) (by decide) rfl ?_
        rintro _ _ ⟨rfl, x15, rfl, hx15, wx15⟩
        have fb16 : fr_ [(111, [57, 58, 59, 60, 61, 62, 63])] T U1 := fr_t (fr_0 _ _) (fr_s fU1 rfl)
        rw [show (fun j => U1 200 0 j) = fun j => T 200 0 j from funext fun j => fb16 200 0 j rfl] at wx15
        show J_ zX11_readSport T (po_X11_readSport_e T) 0 0 43 [some (vR 111 0), none] [vI x15] U1
        refine j_blx (F := fX11) tb_X11 (by decide) bk_X11_readSport_e_43 bs_X11_readSport_e_43 hz (fun K hK => ?_)
        refine hK 47 [some (vR 111 0), none] [vI x15] U1 ?_
        refine j_blx (F := fX11) tb_X11 (by decide) bk_X11_readSport_e_47 bs_X11_readSport_e_47 hz (fun K hK => ?_)
        intro b17 b17b
        refine And.intro (fun c18 => ?_) (fun c18 => ?_)
        · exfalso; omega
        · refine And.intro (fun c19 => ?_) (fun c19 => ?_)
          · refine hK 69 [some (vR 111 0), some (vI x15)] [] U1 ?_
            refine j_blx (F := fX11) tb_X11 (by decide) bk_X11_readSport_e_69 bs_X11_readSport_e_69 hz (fun K hK => ?_)
            intro b20 b20b
            refine And.intro (fun c21 => ?_) (fun c21 => ?_)
            · exfalso; omega
            · refine iy_i (by omega) (by omega) ?_
              refine x_nm (fun U22 hU22 => ?_)
              have e23 := up_f hU22
              refine (show po_X11_readSport_e T U22 (none) from ?_)
              have e24 : U22 111 0 62 = U1 111 0 62 := up_k hU22 (by decide) 0 62
              have e25 : U22 111 0 63 = U1 111 0 63 := up_k hU22 (by decide) 0 63
              have e26 : U22 111 0 57 = U1 111 0 57 := up_k hU22 (by decide) 0 57
              have e27 : U22 204 0 0 = x15 := up_f hU22
              have ee : U1 111 0 60 = ea := by omega
              refine ⟨rfl, fr_u (fr_t (fr_0 _ _) (fr_s fU1 rfl)) hU22 rfl, Or.inr ⟨by omega, ?_, by omega, by omega, by omega⟩, fun j hj => (up_g hU22 (fun z => hj z.2.2)).trans ((show fr_ [(111, [57, 58, 59, 60, 61, 62, 63])] T U1 from fr_t (fr_0 _ _) (fr_s fU1 rfl)) 204 0 j rfl)⟩
              rw [ee] at wx15
              rw [show U22 111 0 57 = ea by omega, up_f hU22]
              exact wof9_0 ds9_1 hka (by omega) (by omega) wx15 (by omega)
          · intro b28 b28b
            refine hK 66 [some (vR 111 0), some (vI x15)] [vI (U1 111 0 59), vI 3, vR 111 0] U1 ?_
            refine j_callV (y := yX11_bad) (Yc := zX11_bad) (rest := []) [vI 3, vI (U1 111 0 59)] (ct_X11_bad_e (T := U1) (by omega) (by omega)) cl_X11_281 (qd_c (by decide +kernel)) (by decide) rfl (by decide +kernel) (Nat.le_of_ble_eq_true rfl) (by decide) (by decide) rfl ?_
            rintro U29 _ ⟨rfl, fU29, qU29⟩
            show J_ zX11_readSport T (po_X11_readSport_e T) 0 0 69 [some (vR 111 0), some (vI x15)] [] U29
            refine j_blx (F := fX11) tb_X11 (by decide) bk_X11_readSport_e_69 bs_X11_readSport_e_69 hz (fun K hK => ?_)
            intro b30 b30b
            refine And.intro (fun c31 => ?_) (fun c31 => ?_)
            · refine hK 83 [some (vR 111 0), some (vI x15)] [] U29 ?_
              refine j_blx (F := fX11) tb_X11 (by decide) bk_X11_readSport_e_83 bs_X11_readSport_e_83 hz (fun K hK => ?_)
              refine (show po_X11_readSport_e T U29 (none) from ?_)
              have e32 : U29 111 0 57 = U1 111 0 57 := fU29 111 0 57 rfl
              have e33 : U29 204 0 0 = T 204 0 0 := (fU29 204 0 0 rfl).trans (fU1 204 0 0 rfl)
              refine ⟨rfl, fr_t (fr_t (fr_0 _ _) (fr_s fU1 rfl)) (fr_s fU29 rfl), Or.inl ⟨by omega, ?_⟩, fun j _ => (show fr_ [(111, [62, 63, 57, 58, 59, 60, 61])] T U29 from fr_t (fr_t (fr_0 _ _) (fr_s fU1 rfl)) (fr_s fU29 rfl)) 204 0 j rfl⟩
              rw [show U29 111 0 62 = 3 by omega, show U29 111 0 63 = U1 111 0 59 by omega]
              have ee : U1 111 0 60 = ea := by omega
              have ew : x15 = -1 := by omega
              rw [ee, ew] at wx15
              exact wof9_3 ds9_1 hka (by omega) (by omega) wx15
            · exfalso; omega
    · intro b34 b34b
      refine hK 25 [some (vR 111 0), none] [vI (U1 111 0 59), vI 2, vR 111 0] U1 ?_
      refine j_callV (y := yX11_bad) (Yc := zX11_bad) (rest := []) [vI 2, vI (U1 111 0 59)] (ct_X11_bad_e (T := U1) (by omega) (by omega)) cl_X11_281 (qd_c (by decide +kernel)) (by decide) rfl (by decide +kernel) (Nat.le_of_ble_eq_true rfl) (by decide) (by decide) rfl ?_
      rintro U35 _ ⟨rfl, fU35, qU35⟩
      show J_ zX11_readSport T (po_X11_readSport_e T) 0 0 28 [some (vR 111 0), none] [] U35
      refine j_blx (F := fX11) tb_X11 (by decide) bk_X11_readSport_e_28 bs_X11_readSport_e_28 hz (fun K hK => ?_)
      intro b36 b36b
      refine And.intro (fun c37 => ?_) (fun c37 => ?_)
      · refine hK 46 [some (vR 111 0), none] [] U35 ?_
        refine j_blx (F := fX11) tb_X11 (by decide) bk_X11_readSport_e_46 bs_X11_readSport_e_46 hz (fun K hK => ?_)
        intro b38 b38b
        refine And.intro (fun c39 => ?_) (fun c39 => ?_)
        · refine hK 69 [some (vR 111 0), some (vI (-1))] [] U35 ?_
          refine j_blx (F := fX11) tb_X11 (by decide) bk_X11_readSport_e_69 bs_X11_readSport_e_69 hz (fun K hK => ?_)
          intro b40 b40b
          refine And.intro (fun c41 => ?_) (fun c41 => ?_)
          · refine hK 83 [some (vR 111 0), some (vI (-1))] [] U35 ?_
            refine j_blx (F := fX11) tb_X11 (by decide) bk_X11_readSport_e_83 bs_X11_readSport_e_83 hz (fun K hK => ?_)
            refine (show po_X11_readSport_e T U35 (none) from ?_)
            have e42 : U35 111 0 57 = U1 111 0 57 := fU35 111 0 57 rfl
            have e43 : U35 204 0 0 = T 204 0 0 := (fU35 204 0 0 rfl).trans (fU1 204 0 0 rfl)
            refine ⟨rfl, fr_t (fr_t (fr_0 _ _) (fr_s fU1 rfl)) (fr_s fU35 rfl), Or.inl ⟨by omega, ?_⟩, fun j _ => (show fr_ [(111, [62, 63, 57, 58, 59, 60, 61])] T U35 from fr_t (fr_t (fr_0 _ _) (fr_s fU1 rfl)) (fr_s fU35 rfl)) 204 0 j rfl⟩
            rw [show U35 111 0 62 = 2 by omega, show U35 111 0 63 = U1 111 0 59 by omega]
            exact wof9_2 hka (by omega) (by omega) (by omega)
          · exfalso; omega
        · exfalso; omega
      · exfalso; omega

