-- wantNumber and readSport of the reference
theorem bk_X11_wantNumber_e_0 : ck_ fX11 none cX11_wantNumber 0 [.aload 0, .tableswitch 0 11 62 #[], .ifCond .eq 8, .return_] 8 = true := qck_r (nn_ _) (by decide +kernel)
theorem bs_X11_wantNumber_e_0 {P : Zt → Option Zv → Prop} (K : Int → Zl → List Zv → Zt → Prop) : sx_ K P [.aload 0, .tableswitch 0 11 62 #[], .ifCond .eq 8, .return_] 8 = x_aload 0 (x_g0 111 62 0 5 (x_ifCond .eq 8 K (x_return_ P))) := ((xe_aload 0).trans (congrArg (x_aload 0) ((xe_g0 (kk := 111) rfl tl_11_62).trans (congrArg (x_g0 111 62 0 5) ((xe_ifCond .eq 8).trans (congrArg (x_ifCond .eq 8 K) (xe_return_)))))))
theorem bk_X11_wantNumber_e_8 : ck_ fX11 none cX11_wantNumber 8 [.aload 0] 9 = true := qck_r (nn_ _) (by decide +kernel)
theorem bs_X11_wantNumber_e_8 {P : Zt → Option Zv → Prop} (K : Int → Zl → List Zv → Zt → Prop) : sx_ K P [.aload 0] 9 = x_aload 0 (K 9) := ((xe_aload 0).trans (congrArg (x_aload 0) xe_nil))
theorem bk_X11_wantNumber_e_12 : ck_ fX11 none cX11_wantNumber 12 [.aload 0, .tableswitch 0 11 62 #[], .ifCond .ne 36, .aload 0, .tableswitch 0 11 58 #[], .iconst 2, .if_icmp .eq 36, .aload 0, .iconst 2, .aload 0, .tableswitch 0 11 59 #[]] 33 = true := qck_r (nn_ _) (by decide +kernel)
theorem bs_X11_wantNumber_e_12 {P : Zt → Option Zv → Prop} (K : Int → Zl → List Zv → Zt → Prop) : sx_ K P [.aload 0, .tableswitch 0 11 62 #[], .ifCond .ne 36, .aload 0, .tableswitch 0 11 58 #[], .iconst 2, .if_icmp .eq 36, .aload 0, .iconst 2, .aload 0, .tableswitch 0 11 59 #[]] 33 = x_aload 0 (x_g0 111 62 0 5 (x_ifCond .ne 36 K (x_aload 0 (x_g0 111 58 0 4 (x_iconst 2 (x_if_icmp .eq 36 K (x_aload 0 (x_iconst 2 (x_aload 0 (x_g0 111 59 0 400 (K 33))))))))))) := ((xe_aload 0).trans (congrArg (x_aload 0) ((xe_g0 (kk := 111) rfl tl_11_62).trans (congrArg (x_g0 111 62 0 5) ((xe_ifCond .ne 36).trans (congrArg (x_ifCond .ne 36 K) ((xe_aload 0).trans (congrArg (x_aload 0) ((xe_g0 (kk := 111) rfl tl_11_58).trans (congrArg (x_g0 111 58 0 4) ((xe_iconst 2).trans (congrArg (x_iconst 2) ((xe_if_icmp .eq 36).trans (congrArg (x_if_icmp .eq 36 K) ((xe_aload 0).trans (congrArg (x_aload 0) ((xe_iconst 2).trans (congrArg (x_iconst 2) ((xe_aload 0).trans (congrArg (x_aload 0) ((xe_g0 (kk := 111) rfl tl_11_59).trans (congrArg (x_g0 111 59 0 400) xe_nil))))))))))))))))))))))
theorem bk_X11_wantNumber_e_36 : ck_ fX11 none cX11_wantNumber 36 [.aload 0, .tableswitch 0 11 62 #[], .ifCond .ne 64, .aload 0, .tableswitch 0 11 61 #[], .iload 1, .iload 2] 49 = true := qck_r (nn_ _) (by decide +kernel)
theorem bs_X11_wantNumber_e_36 {P : Zt → Option Zv → Prop} (K : Int → Zl → List Zv → Zt → Prop) : sx_ K P [.aload 0, .tableswitch 0 11 62 #[], .ifCond .ne 64, .aload 0, .tableswitch 0 11 61 #[], .iload 1, .iload 2] 49 = x_aload 0 (x_g0 111 62 0 5 (x_ifCond .ne 64 K (x_aload 0 (x_g0 111 61 (-2147483648) 2147483647 (x_iload 1 (x_iload 2 (K 49))))))) := ((xe_aload 0).trans (congrArg (x_aload 0) ((xe_g0 (kk := 111) rfl tl_11_62).trans (congrArg (x_g0 111 62 0 5) ((xe_ifCond .ne 64).trans (congrArg (x_ifCond .ne 64 K) ((xe_aload 0).trans (congrArg (x_aload 0) ((xe_g0 (kk := 111) rfl tl_11_61).trans (congrArg (x_g0 111 61 (-2147483648) 2147483647) ((xe_iload 1).trans (congrArg (x_iload 1) ((xe_iload 2).trans (congrArg (x_iload 2) xe_nil))))))))))))))
theorem bk_X11_wantNumber_e_64 : ck_ fX11 none cX11_wantNumber 64 [.aload 0, .tableswitch 0 11 62 #[], .ifCond .ne 81, .aload 0, .tableswitch 0 11 4 #[], .iload 3, .aload 0, .tableswitch 0 11 61 #[], .iastore, .return_] 82 = true := qck_r (nn_ _) (by decide +kernel)
theorem bs_X11_wantNumber_e_64 {P : Zt → Option Zv → Prop} (K : Int → Zl → List Zv → Zt → Prop) : sx_ K P [.aload 0, .tableswitch 0 11 62 #[], .ifCond .ne 81, .aload 0, .tableswitch 0 11 4 #[], .iload 3, .aload 0, .tableswitch 0 11 61 #[], .iastore, .return_] 82 = x_aload 0 (x_g0 111 62 0 5 (x_ifCond .ne 81 K (x_aload 0 (x_g1 111 204 (x_iload 3 (x_aload 0 (x_g0 111 61 (-2147483648) 2147483647 (x_iastore (x_return_ P))))))))) := ((xe_aload 0).trans (congrArg (x_aload 0) ((xe_g0 (kk := 111) rfl tl_11_62).trans (congrArg (x_g0 111 62 0 5) ((xe_ifCond .ne 81).trans (congrArg (x_ifCond .ne 81 K) ((xe_aload 0).trans (congrArg (x_aload 0) ((xe_g1 (kk := 111) rfl tl_11_4).trans (congrArg (x_g1 111 204) ((xe_iload 3).trans (congrArg (x_iload 3) ((xe_aload 0).trans (congrArg (x_aload 0) ((xe_g0 (kk := 111) rfl tl_11_61).trans (congrArg (x_g0 111 61 (-2147483648) 2147483647) ((xe_iastore).trans (congrArg (x_iastore) (xe_return_)))))))))))))))))))
theorem bk_X11_wantNumber_e_81 : ck_ fX11 none cX11_wantNumber 81 [.return_] 82 = true := qck_r (nn_ _) (by decide +kernel)
theorem bs_X11_wantNumber_e_81 {P : Zt → Option Zv → Prop} (K : Int → Zl → List Zv → Zt → Prop) : sx_ K P [.return_] 82 = x_return_ P := (xe_return_)
theorem bk_X11_wantNumber_e_52 : ck_ fX11 none cX11_wantNumber 52 [.ifCond .ne 64, .aload 0, .iconst 4, .aload 0, .tableswitch 0 11 59 #[]] 61 = true := qck_r (nn_ _) (by decide +kernel)
theorem bs_X11_wantNumber_e_52 {P : Zt → Option Zv → Prop} (K : Int → Zl → List Zv → Zt → Prop) : sx_ K P [.ifCond .ne 64, .aload 0, .iconst 4, .aload 0, .tableswitch 0 11 59 #[]] 61 = x_ifCond .ne 64 K (x_aload 0 (x_iconst 4 (x_aload 0 (x_g0 111 59 0 400 (K 61))))) := ((xe_ifCond .ne 64).trans (congrArg (x_ifCond .ne 64 K) ((xe_aload 0).trans (congrArg (x_aload 0) ((xe_iconst 4).trans (congrArg (x_iconst 4) ((xe_aload 0).trans (congrArg (x_aload 0) ((xe_g0 (kk := 111) rfl tl_11_59).trans (congrArg (x_g0 111 59 0 400) xe_nil))))))))))
abbrev po_X11_wantNumber_e (T : Zt) (least most rule : Int) : Zt → Option Zv → Prop := fun T' r => r = none ∧ fr_ [(111, [57, 58, 59, 60, 61, 62, 63]), (204, [])] T T' ∧ (((T 111 0 62 ≠ 0 ∧ T' 111 0 62 = T 111 0 62 ∧ T' 111 0 63 = T 111 0 63) ∨ (T 111 0 62 = 0 ∧ T' 111 0 62 ≠ 0 ∧ nrf9_ (cl9_ (T 111 0 1) (fun j => T 200 0 j)) (T 111 0 1) (T 111 0 57) least most = Sum.inl (T' 111 0 62, T' 111 0 63)) ∨ (T 111 0 62 = 0 ∧ T' 111 0 62 = 0 ∧ nrf9_ (cl9_ (T 111 0 1) (fun j => T 200 0 j)) (T 111 0 1) (T 111 0 57) least most = Sum.inr (T' 111 0 57, T' 204 0 rule) ∧ T' 111 0 63 = T 111 0 63 ∧ T 111 0 57 ≤ T' 111 0 57 ∧ T' 111 0 57 ≤ T 111 0 1)) ∧ ∀ j, j ≠ rule → T' 204 0 j = T 204 0 j)
set_option maxHeartbeats 4000000 in
theorem ct_X11_wantNumber_e {T : Zt} {least most rule : Int} (h1 : T 111 0 62 = 0 → T 111 0 57 ≤ T 111 0 1) (h2 : 0 ≤ rule ∧ rule < 23) (h3 : 0 ≤ least ∧ most ≤ 999) : Ct_ yX11_wantNumber zX11_wantNumber T [vR 111 0, vI least, vI most, vI rule] (po_X11_wantNumber_e T least most rule) := by
  refine ct_of pn_11 rfl rfl (Nat.le_of_ble_eq_true rfl) (fun hT hav => ?_)
  have hr_least : -2147483648 ≤ least ∧ least ≤ 2147483647 := hav (vI least) (List.mem_cons_of_mem _ List.mem_cons_self)
  have hr_most : -2147483648 ≤ most ∧ most ≤ 2147483647 := hav (vI most) (List.mem_cons_of_mem _ (List.mem_cons_of_mem _ List.mem_cons_self))
  have hr_rule : -2147483648 ≤ rule ∧ rule ≤ 2147483647 := hav (vI rule) (List.mem_cons_of_mem _ (List.mem_cons_of_mem _ (List.mem_cons_of_mem _ List.mem_cons_self)))
  have hz : zX11_wantNumber.2.2.2.1 = some .boolean → ∀ (T' : Zt) (x : Int), po_X11_wantNumber_e T least most rule T' (some (vI x)) → 0 ≤ x ∧ x ≤ 1 := fun h => by cases h
  have hb_1 : 0 ≤ T 111 0 1 ∧ T 111 0 1 ≤ 400 := bd_f hT 111 1 tl_11_1 0
  have hb_57 : 0 ≤ T 111 0 57 ∧ T 111 0 57 ≤ 400 := bd_f hT 111 57 tl_11_57 0
  show J_ zX11_wantNumber T (po_X11_wantNumber_e T least most rule) 0 0 0 [some (vR 111 0), some (vI least), some (vI most), some (vI rule)] [] T
  refine j_blx (F := fX11) tb_X11 (nn_ _) bk_X11_wantNumber_e_0 bs_X11_wantNumber_e_0 hz (fun K hK => ?_)
  intro b1 b1b
  refine And.intro (fun c2 => ?_) (fun c2 => ?_)
  · refine hK 8 _ [] T ?_
    refine j_blx (F := fX11) tb_X11 (nn_ _) bk_X11_wantNumber_e_8 bs_X11_wantNumber_e_8 hz (fun K hK => ?_)
    refine hK 9 _ [vR 111 0] T ?_
    refine j_callV (y := yX11_take) (Yc := zX11_take) (rest := []) [] (ct_X11_take_e (T := T) (by omega) (by omega)) cl_X11_291 (qd_c (by decide +kernel)) (nn_ _) rfl (rf_of rfl) (Nat.le_of_ble_eq_true rfl) (Nat.le_of_ble_eq_true rfl) (Nat.le_of_ble_eq_true rfl) rfl ?_
    rintro U3 _ ⟨rfl, fU3, qU3⟩
    show J_ zX11_wantNumber T (po_X11_wantNumber_e T least most rule) 0 0 12 _ [] U3
    have qka := qU3
    obtain ⟨qaa, ea, ka, hka, hqa⟩ := qka
    have tra := tk9_r hka
    refine j_blx (F := fX11) tb_X11 (nn_ _) bk_X11_wantNumber_e_12 bs_X11_wantNumber_e_12 hz (fun K hK => ?_)
    intro b4 b4b
    refine And.intro (fun c5 => ?_) (fun c5 => ?_)
    · refine hK 36 _ [] U3 ?_
      refine j_blx (F := fX11) tb_X11 (nn_ _) bk_X11_wantNumber_e_36 bs_X11_wantNumber_e_36 hz (fun K hK => ?_)
      intro b6 b6b
      refine And.intro (fun c7 => ?_) (fun c7 => ?_)
      · refine hK 64 _ [] U3 ?_
        refine j_blx (F := fX11) tb_X11 (nn_ _) bk_X11_wantNumber_e_64 bs_X11_wantNumber_e_64 hz (fun K hK => ?_)
        intro b8 b8b
        refine And.intro (fun c9 => ?_) (fun c9 => ?_)
        · refine hK 81 _ [] U3 ?_
          refine j_blx (F := fX11) tb_X11 (nn_ _) bk_X11_wantNumber_e_81 bs_X11_wantNumber_e_81 hz (fun K hK => ?_)
          refine (show po_X11_wantNumber_e T least most rule U3 (none) from ?_)
          have e10 : U3 204 0 rule = T 204 0 rule := fU3 204 0 rule rfl
          refine ⟨rfl, fr_t (fr_0 _ _) (fr_s fU3 rfl), Or.inr (Or.inl ⟨by omega, by omega, ?_⟩), fun j _ => (show fr_ [(111, [57, 58, 59, 60, 61, 62, 63])] T U3 from fr_t (fr_0 _ _) (fr_s fU3 rfl)) 204 0 j rfl⟩
          rw [show U3 111 0 62 = 1 by omega, show U3 111 0 63 = U3 111 0 59 by omega]
          exact nrf9_1 hka (by omega) (by omega)
        · exfalso; omega
      · exfalso; omega
    · intro b11 b11b
      refine And.intro (fun c12 => ?_) (fun c12 => ?_)
      · refine hK 36 _ [] U3 ?_
        refine j_blx (F := fX11) tb_X11 (nn_ _) bk_X11_wantNumber_e_36 bs_X11_wantNumber_e_36 hz (fun K hK => ?_)
        intro b13 b13b
        refine And.intro (fun c14 => ?_) (fun c14 => ?_)
        · exfalso; omega
        · intro b15 b15b
          refine hK 49 _ [vI most, vI least, vI (U3 111 0 61)] U3 ?_
          refine j_callS (y := yX11_in) (Yc := zX11_in) (rest := []) [vI (U3 111 0 61), vI least, vI most] (ct_X11_in (T := U3)) cl_X11_255 (qd_c (by decide +kernel)) (nn_ _) rfl (rf_of rfl) (Nat.le_of_ble_eq_true rfl) (Nat.le_of_ble_eq_true rfl) (Nat.le_of_ble_eq_true rfl) rfl ?_
          rintro _ _ ⟨rfl, x16, rfl, hx16⟩
          show J_ zX11_wantNumber T (po_X11_wantNumber_e T least most rule) 0 0 52 _ [vI x16] U3
          refine j_blx (F := fX11) tb_X11 (nn_ _) bk_X11_wantNumber_e_52 bs_X11_wantNumber_e_52 hz (fun K hK => ?_)
          refine And.intro (fun c17 => ?_) (fun c17 => ?_)
          · replace hx16 := hx16.resolve_right (fun z => c17 z.1)
            clear c17
            refine hK 64 _ [] U3 ?_
            refine j_blx (F := fX11) tb_X11 (nn_ _) bk_X11_wantNumber_e_64 bs_X11_wantNumber_e_64 hz (fun K hK => ?_)
            intro b18 b18b
            refine And.intro (fun c19 => ?_) (fun c19 => ?_)
            · exfalso; omega
            · intro b20 b20b
              refine iy_i (by omega) (by omega) ?_
              refine x_nm (fun U21 hU21 => ?_)
              have e22 := up_f hU21
              refine (show po_X11_wantNumber_e T least most rule U21 (none) from ?_)
              have e23 : U21 111 0 62 = U3 111 0 62 := up_k hU21 (by exact Nat.ne_of_beq_eq_false rfl) 0 62
              have e24 : U21 111 0 63 = U3 111 0 63 := up_k hU21 (by exact Nat.ne_of_beq_eq_false rfl) 0 63
              have e25 : U21 111 0 57 = U3 111 0 57 := up_k hU21 (by exact Nat.ne_of_beq_eq_false rfl) 0 57
              have e26 : U21 204 0 rule = U3 111 0 61 := up_f hU21
              have hv := (hqa.resolve_right (fun z => by omega)).2.2.2.2.2 (by omega)
              have ee : U3 111 0 60 = ea := by omega
              refine ⟨rfl, fr_u (fr_t (fr_0 _ _) (fr_s fU3 rfl)) hU21 rfl, Or.inr (Or.inr ⟨by omega, by omega, ?_, by omega, by omega, by omega⟩), fun j hj => (up_g hU21 (fun z => hj z.2.2)).trans ((show fr_ [(111, [57, 58, 59, 60, 61, 62, 63])] T U3 from fr_t (fr_0 _ _) (fr_s fU3 rfl)) 204 0 j rfl)⟩
              rw [show U21 111 0 57 = ea by omega, up_f hU21]
              exact nrf9_0 hka (by omega) (by omega) hv (by omega)
          · replace hx16 := hx16.resolve_left (fun z => absurd (c17.symm.trans z.1) (by decide))
            clear c17
            intro b27 b27b
            refine hK 61 _ [vI (U3 111 0 59), vI 4, vR 111 0] U3 ?_
            refine j_callV (y := yX11_bad) (Yc := zX11_bad) (rest := []) [vI 4, vI (U3 111 0 59)] (ct_X11_bad_e (T := U3) (by omega) (by omega)) cl_X11_281 (qd_c (by decide +kernel)) (nn_ _) rfl (rf_of rfl) (Nat.le_of_ble_eq_true rfl) (Nat.le_of_ble_eq_true rfl) (Nat.le_of_ble_eq_true rfl) rfl ?_
            rintro U28 _ ⟨rfl, fU28, qU28⟩
            show J_ zX11_wantNumber T (po_X11_wantNumber_e T least most rule) 0 0 64 _ [] U28
            refine j_blx (F := fX11) tb_X11 (nn_ _) bk_X11_wantNumber_e_64 bs_X11_wantNumber_e_64 hz (fun K hK => ?_)
            intro b29 b29b
            refine And.intro (fun c30 => ?_) (fun c30 => ?_)
            · refine hK 81 _ [] U28 ?_
              refine j_blx (F := fX11) tb_X11 (nn_ _) bk_X11_wantNumber_e_81 bs_X11_wantNumber_e_81 hz (fun K hK => ?_)
              refine (show po_X11_wantNumber_e T least most rule U28 (none) from ?_)
              have e31 : U28 111 0 57 = U3 111 0 57 := fU28 111 0 57 rfl
              have e32 : U28 204 0 rule = T 204 0 rule := (fU28 204 0 rule rfl).trans (fU3 204 0 rule rfl)
              refine ⟨rfl, fr_t (fr_t (fr_0 _ _) (fr_s fU3 rfl)) (fr_s fU28 rfl), Or.inr (Or.inl ⟨by omega, by omega, ?_⟩), fun j _ => (show fr_ [(111, [62, 63, 57, 58, 59, 60, 61])] T U28 from fr_t (fr_t (fr_0 _ _) (fr_s fU3 rfl)) (fr_s fU28 rfl)) 204 0 j rfl⟩
              rw [show U28 111 0 62 = 4 by omega, show U28 111 0 63 = U3 111 0 59 by omega]
              have hv := (hqa.resolve_right (fun z => by omega)).2.2.2.2.2 (by omega)
              exact nrf9_4 hka (by omega) (by omega) hv (by omega)
            · exfalso; omega
      · intro b33 b33b
        refine hK 33 _ [vI (U3 111 0 59), vI 2, vR 111 0] U3 ?_
        refine j_callV (y := yX11_bad) (Yc := zX11_bad) (rest := []) [vI 2, vI (U3 111 0 59)] (ct_X11_bad_e (T := U3) (by omega) (by omega)) cl_X11_281 (qd_c (by decide +kernel)) (nn_ _) rfl (rf_of rfl) (Nat.le_of_ble_eq_true rfl) (Nat.le_of_ble_eq_true rfl) (Nat.le_of_ble_eq_true rfl) rfl ?_
        rintro U34 _ ⟨rfl, fU34, qU34⟩
        show J_ zX11_wantNumber T (po_X11_wantNumber_e T least most rule) 0 0 36 _ [] U34
        refine j_blx (F := fX11) tb_X11 (nn_ _) bk_X11_wantNumber_e_36 bs_X11_wantNumber_e_36 hz (fun K hK => ?_)
        intro b35 b35b
        refine And.intro (fun c36 => ?_) (fun c36 => ?_)
        · refine hK 64 _ [] U34 ?_
          refine j_blx (F := fX11) tb_X11 (nn_ _) bk_X11_wantNumber_e_64 bs_X11_wantNumber_e_64 hz (fun K hK => ?_)
          intro b37 b37b
          refine And.intro (fun c38 => ?_) (fun c38 => ?_)
          · refine hK 81 _ [] U34 ?_
            refine j_blx (F := fX11) tb_X11 (nn_ _) bk_X11_wantNumber_e_81 bs_X11_wantNumber_e_81 hz (fun K hK => ?_)
            refine (show po_X11_wantNumber_e T least most rule U34 (none) from ?_)
            have e39 : U34 111 0 57 = U3 111 0 57 := fU34 111 0 57 rfl
            have e40 : U34 204 0 rule = T 204 0 rule := (fU34 204 0 rule rfl).trans (fU3 204 0 rule rfl)
            refine ⟨rfl, fr_t (fr_t (fr_0 _ _) (fr_s fU3 rfl)) (fr_s fU34 rfl), Or.inr (Or.inl ⟨by omega, by omega, ?_⟩), fun j _ => (show fr_ [(111, [62, 63, 57, 58, 59, 60, 61])] T U34 from fr_t (fr_t (fr_0 _ _) (fr_s fU3 rfl)) (fr_s fU34 rfl)) 204 0 j rfl⟩
            rw [show U34 111 0 62 = 2 by omega, show U34 111 0 63 = U3 111 0 59 by omega]
            exact nrf9_2 hka (by omega) (by omega) (by omega)
          · exfalso; omega
        · exfalso; omega
  · refine (show po_X11_wantNumber_e T least most rule T (none) from ?_)
    exact ⟨rfl, fr_0 _ _, Or.inl ⟨by omega, rfl, rfl⟩, fun j _ => rfl⟩
theorem bk_X11_readSport_e_0 : ck_ fX11 none cX11_readSport 0 [.aload 0] 1 = true := qck_r (nn_ _) (by decide +kernel)
theorem bs_X11_readSport_e_0 {P : Zt → Option Zv → Prop} (K : Int → Zl → List Zv → Zt → Prop) : sx_ K P [.aload 0] 1 = x_aload 0 (K 1) := ((xe_aload 0).trans (congrArg (x_aload 0) xe_nil))
theorem bk_X11_readSport_e_4 : ck_ fX11 none cX11_readSport 4 [.aload 0, .tableswitch 0 11 62 #[], .ifCond .ne 28, .aload 0, .tableswitch 0 11 58 #[], .iconst 1, .if_icmp .eq 28, .aload 0, .iconst 2, .aload 0, .tableswitch 0 11 59 #[]] 25 = true := qck_r (nn_ _) (by decide +kernel)
theorem bs_X11_readSport_e_4 {P : Zt → Option Zv → Prop} (K : Int → Zl → List Zv → Zt → Prop) : sx_ K P [.aload 0, .tableswitch 0 11 62 #[], .ifCond .ne 28, .aload 0, .tableswitch 0 11 58 #[], .iconst 1, .if_icmp .eq 28, .aload 0, .iconst 2, .aload 0, .tableswitch 0 11 59 #[]] 25 = x_aload 0 (x_g0 111 62 0 5 (x_ifCond .ne 28 K (x_aload 0 (x_g0 111 58 0 4 (x_iconst 1 (x_if_icmp .eq 28 K (x_aload 0 (x_iconst 2 (x_aload 0 (x_g0 111 59 0 400 (K 25))))))))))) := ((xe_aload 0).trans (congrArg (x_aload 0) ((xe_g0 (kk := 111) rfl tl_11_62).trans (congrArg (x_g0 111 62 0 5) ((xe_ifCond .ne 28).trans (congrArg (x_ifCond .ne 28 K) ((xe_aload 0).trans (congrArg (x_aload 0) ((xe_g0 (kk := 111) rfl tl_11_58).trans (congrArg (x_g0 111 58 0 4) ((xe_iconst 1).trans (congrArg (x_iconst 1) ((xe_if_icmp .eq 28).trans (congrArg (x_if_icmp .eq 28 K) ((xe_aload 0).trans (congrArg (x_aload 0) ((xe_iconst 2).trans (congrArg (x_iconst 2) ((xe_aload 0).trans (congrArg (x_aload 0) ((xe_g0 (kk := 111) rfl tl_11_59).trans (congrArg (x_g0 111 59 0 400) xe_nil))))))))))))))))))))))
theorem bk_X11_readSport_e_28 : ck_ fX11 none cX11_readSport 28 [.aload 0, .tableswitch 0 11 62 #[], .ifCond .ne 46, .aload 0, .aload 0, .tableswitch 0 11 65 #[]] 40 = true := qck_r (nn_ _) (by decide +kernel)
theorem bs_X11_readSport_e_28 {P : Zt → Option Zv → Prop} (K : Int → Zl → List Zv → Zt → Prop) : sx_ K P [.aload 0, .tableswitch 0 11 62 #[], .ifCond .ne 46, .aload 0, .aload 0, .tableswitch 0 11 65 #[]] 40 = x_aload 0 (x_g0 111 62 0 5 (x_ifCond .ne 46 K (x_aload 0 (x_aload 0 (x_g1 111 265 (K 40)))))) := ((xe_aload 0).trans (congrArg (x_aload 0) ((xe_g0 (kk := 111) rfl tl_11_62).trans (congrArg (x_g0 111 62 0 5) ((xe_ifCond .ne 46).trans (congrArg (x_ifCond .ne 46 K) ((xe_aload 0).trans (congrArg (x_aload 0) ((xe_aload 0).trans (congrArg (x_aload 0) ((xe_g1 (kk := 111) rfl tl_11_65).trans (congrArg (x_g1 111 265) xe_nil))))))))))))
theorem bk_X11_readSport_e_46 : ck_ fX11 none cX11_readSport 46 [.iconst (-1), .istore 1, .aload 0, .tableswitch 0 11 62 #[], .ifCond .ne 69, .iload 1, .iconst (-1), .if_icmp .ne 69, .aload 0, .iconst 3, .aload 0, .tableswitch 0 11 59 #[]] 66 = true := qck_r (nn_ _) (by decide +kernel)
theorem bs_X11_readSport_e_46 {P : Zt → Option Zv → Prop} (K : Int → Zl → List Zv → Zt → Prop) : sx_ K P [.iconst (-1), .istore 1, .aload 0, .tableswitch 0 11 62 #[], .ifCond .ne 69, .iload 1, .iconst (-1), .if_icmp .ne 69, .aload 0, .iconst 3, .aload 0, .tableswitch 0 11 59 #[]] 66 = x_iconst (-1) (x_istore 1 (x_aload 0 (x_g0 111 62 0 5 (x_ifCond .ne 69 K (x_iload 1 (x_iconst (-1) (x_if_icmp .ne 69 K (x_aload 0 (x_iconst 3 (x_aload 0 (x_g0 111 59 0 400 (K 66)))))))))))) := ((xe_iconst (-1)).trans (congrArg (x_iconst (-1)) ((xe_istore 1).trans (congrArg (x_istore 1) ((xe_aload 0).trans (congrArg (x_aload 0) ((xe_g0 (kk := 111) rfl tl_11_62).trans (congrArg (x_g0 111 62 0 5) ((xe_ifCond .ne 69).trans (congrArg (x_ifCond .ne 69 K) ((xe_iload 1).trans (congrArg (x_iload 1) ((xe_iconst (-1)).trans (congrArg (x_iconst (-1)) ((xe_if_icmp .ne 69).trans (congrArg (x_if_icmp .ne 69 K) ((xe_aload 0).trans (congrArg (x_aload 0) ((xe_iconst 3).trans (congrArg (x_iconst 3) ((xe_aload 0).trans (congrArg (x_aload 0) ((xe_g0 (kk := 111) rfl tl_11_59).trans (congrArg (x_g0 111 59 0 400) xe_nil))))))))))))))))))))))))
theorem bk_X11_readSport_e_69 : ck_ fX11 none cX11_readSport 69 [.aload 0, .tableswitch 0 11 62 #[], .ifCond .ne 83, .aload 0, .tableswitch 0 11 4 #[], .iconst 0, .iload 1, .iastore, .return_] 84 = true := qck_r (nn_ _) (by decide +kernel)
theorem bs_X11_readSport_e_69 {P : Zt → Option Zv → Prop} (K : Int → Zl → List Zv → Zt → Prop) : sx_ K P [.aload 0, .tableswitch 0 11 62 #[], .ifCond .ne 83, .aload 0, .tableswitch 0 11 4 #[], .iconst 0, .iload 1, .iastore, .return_] 84 = x_aload 0 (x_g0 111 62 0 5 (x_ifCond .ne 83 K (x_aload 0 (x_g1 111 204 (x_iconst 0 (x_iload 1 (x_iastore (x_return_ P)))))))) := ((xe_aload 0).trans (congrArg (x_aload 0) ((xe_g0 (kk := 111) rfl tl_11_62).trans (congrArg (x_g0 111 62 0 5) ((xe_ifCond .ne 83).trans (congrArg (x_ifCond .ne 83 K) ((xe_aload 0).trans (congrArg (x_aload 0) ((xe_g1 (kk := 111) rfl tl_11_4).trans (congrArg (x_g1 111 204) ((xe_iconst 0).trans (congrArg (x_iconst 0) ((xe_iload 1).trans (congrArg (x_iload 1) ((xe_iastore).trans (congrArg (x_iastore) (xe_return_)))))))))))))))))
theorem bk_X11_readSport_e_83 : ck_ fX11 none cX11_readSport 83 [.return_] 84 = true := qck_r (nn_ _) (by decide +kernel)
theorem bs_X11_readSport_e_83 {P : Zt → Option Zv → Prop} (K : Int → Zl → List Zv → Zt → Prop) : sx_ K P [.return_] 84 = x_return_ P := (xe_return_)
theorem bk_X11_readSport_e_43 : ck_ fX11 none cX11_readSport 43 [.goto 47] 46 = true := qck_r (nn_ _) (by decide +kernel)
theorem bs_X11_readSport_e_43 {P : Zt → Option Zv → Prop} (K : Int → Zl → List Zv → Zt → Prop) : sx_ K P [.goto 47] 46 = x_goto 47 K := (xe_goto 47)
theorem bk_X11_readSport_e_47 : ck_ fX11 none cX11_readSport 47 [.istore 1, .aload 0, .tableswitch 0 11 62 #[], .ifCond .ne 69, .iload 1, .iconst (-1), .if_icmp .ne 69, .aload 0, .iconst 3, .aload 0, .tableswitch 0 11 59 #[]] 66 = true := qck_r (nn_ _) (by decide +kernel)
theorem bs_X11_readSport_e_47 {P : Zt → Option Zv → Prop} (K : Int → Zl → List Zv → Zt → Prop) : sx_ K P [.istore 1, .aload 0, .tableswitch 0 11 62 #[], .ifCond .ne 69, .iload 1, .iconst (-1), .if_icmp .ne 69, .aload 0, .iconst 3, .aload 0, .tableswitch 0 11 59 #[]] 66 = x_istore 1 (x_aload 0 (x_g0 111 62 0 5 (x_ifCond .ne 69 K (x_iload 1 (x_iconst (-1) (x_if_icmp .ne 69 K (x_aload 0 (x_iconst 3 (x_aload 0 (x_g0 111 59 0 400 (K 66))))))))))) := ((xe_istore 1).trans (congrArg (x_istore 1) ((xe_aload 0).trans (congrArg (x_aload 0) ((xe_g0 (kk := 111) rfl tl_11_62).trans (congrArg (x_g0 111 62 0 5) ((xe_ifCond .ne 69).trans (congrArg (x_ifCond .ne 69 K) ((xe_iload 1).trans (congrArg (x_iload 1) ((xe_iconst (-1)).trans (congrArg (x_iconst (-1)) ((xe_if_icmp .ne 69).trans (congrArg (x_if_icmp .ne 69 K) ((xe_aload 0).trans (congrArg (x_aload 0) ((xe_iconst 3).trans (congrArg (x_iconst 3) ((xe_aload 0).trans (congrArg (x_aload 0) ((xe_g0 (kk := 111) rfl tl_11_59).trans (congrArg (x_g0 111 59 0 400) xe_nil))))))))))))))))))))))
abbrev po_X11_readSport_e (T : Zt) : Zt → Option Zv → Prop := fun T' r => r = none ∧ fr_ [(111, [57, 58, 59, 60, 61, 62, 63]), (204, [])] T T' ∧ (((T' 111 0 62 ≠ 0 ∧ wof9_ wl_265 wt_265 (cl9_ (T 111 0 1) (fun j => T 200 0 j)) (T 111 0 1) (T 111 0 57) = Sum.inl (T' 111 0 62, T' 111 0 63)) ∨ (T' 111 0 62 = 0 ∧ wof9_ wl_265 wt_265 (cl9_ (T 111 0 1) (fun j => T 200 0 j)) (T 111 0 1) (T 111 0 57) = Sum.inr (T' 111 0 57, T' 204 0 0) ∧ T' 111 0 63 = T 111 0 63 ∧ T 111 0 57 ≤ T' 111 0 57 ∧ T' 111 0 57 ≤ T 111 0 1)) ∧ ∀ j, j ≠ 0 → T' 204 0 j = T 204 0 j)
set_option maxHeartbeats 4000000 in
theorem ct_X11_readSport_e {T : Zt} (h1 : T 111 0 57 ≤ T 111 0 1) (h62 : T 111 0 62 = 0) (hC : CW_ T) : Ct_ yX11_readSport zX11_readSport T [vR 111 0] (po_X11_readSport_e T) := by
  refine ct_of pn_11 rfl rfl (Nat.le_of_ble_eq_true rfl) (fun hT hav => ?_)
  have hz : zX11_readSport.2.2.2.1 = some .boolean → ∀ (T' : Zt) (x : Int), po_X11_readSport_e T T' (some (vI x)) → 0 ≤ x ∧ x ≤ 1 := fun h => by cases h
  have hb_1 : 0 ≤ T 111 0 1 ∧ T 111 0 1 ≤ 400 := bd_f hT 111 1 tl_11_1 0
  have hb_57 : 0 ≤ T 111 0 57 ∧ T 111 0 57 ≤ 400 := bd_f hT 111 57 tl_11_57 0
  show J_ zX11_readSport T (po_X11_readSport_e T) 0 0 0 [some (vR 111 0), none] [] T
  refine j_blx (F := fX11) tb_X11 (nn_ _) bk_X11_readSport_e_0 bs_X11_readSport_e_0 hz (fun K hK => ?_)
  refine hK 1 _ [vR 111 0] T ?_
  refine j_callV (y := yX11_take) (Yc := zX11_take) (rest := []) [] (ct_X11_take_e (T := T) (by omega) (by omega)) cl_X11_291 (qd_c (by decide +kernel)) (nn_ _) rfl (rf_of rfl) (Nat.le_of_ble_eq_true rfl) (Nat.le_of_ble_eq_true rfl) (Nat.le_of_ble_eq_true rfl) rfl ?_
  rintro U1 _ ⟨rfl, fU1, qU1⟩
  show J_ zX11_readSport T (po_X11_readSport_e T) 0 0 4 _ [] U1
  have qka := qU1
  obtain ⟨qaa, ea, ka, hka, hqa⟩ := qka
  have tra := tk9_r hka
  refine j_blx (F := fX11) tb_X11 (nn_ _) bk_X11_readSport_e_4 bs_X11_readSport_e_4 hz (fun K hK => ?_)
  intro b2 b2b
  refine And.intro (fun c3 => ?_) (fun c3 => ?_)
  · refine hK 28 _ [] U1 ?_
    refine j_blx (F := fX11) tb_X11 (nn_ _) bk_X11_readSport_e_28 bs_X11_readSport_e_28 hz (fun K hK => ?_)
    intro b4 b4b
    refine And.intro (fun c5 => ?_) (fun c5 => ?_)
    · refine hK 46 _ [] U1 ?_
      refine j_blx (F := fX11) tb_X11 (nn_ _) bk_X11_readSport_e_46 bs_X11_readSport_e_46 hz (fun K hK => ?_)
      intro b6 b6b
      refine And.intro (fun c7 => ?_) (fun c7 => ?_)
      · refine hK 69 [some (vR 111 0), some (vI (-1))] [] U1 ?_
        refine j_blx (F := fX11) tb_X11 (nn_ _) bk_X11_readSport_e_69 bs_X11_readSport_e_69 hz (fun K hK => ?_)
        intro b8 b8b
        refine And.intro (fun c9 => ?_) (fun c9 => ?_)
        · refine hK 83 _ [] U1 ?_
          refine j_blx (F := fX11) tb_X11 (nn_ _) bk_X11_readSport_e_83 bs_X11_readSport_e_83 hz (fun K hK => ?_)
          refine (show po_X11_readSport_e T U1 (none) from ?_)
          have e10 : U1 204 0 0 = T 204 0 0 := fU1 204 0 0 rfl
          refine ⟨rfl, fr_t (fr_0 _ _) (fr_s fU1 rfl), Or.inl ⟨by omega, ?_⟩, fun j _ => (show fr_ [(111, [57, 58, 59, 60, 61, 62, 63])] T U1 from fr_t (fr_0 _ _) (fr_s fU1 rfl)) 204 0 j rfl⟩
          rw [show U1 111 0 62 = 1 by omega, show U1 111 0 63 = U1 111 0 59 by omega]
          exact wof9_1 hka (by omega) (by omega)
        · exfalso; omega
      · exfalso; omega
    · exfalso; omega
  · intro b11 b11b
    refine And.intro (fun c12 => ?_) (fun c12 => ?_)
    · refine hK 28 _ [] U1 ?_
      refine j_blx (F := fX11) tb_X11 (nn_ _) bk_X11_readSport_e_28 bs_X11_readSport_e_28 hz (fun K hK => ?_)
      intro b13 b13b
      refine And.intro (fun c14 => ?_) (fun c14 => ?_)
      · exfalso; omega
      · refine hK 40 _ [vR 265 0, vR 111 0] U1 ?_
        refine j_callV (y := yX11_whichOf) (Yc := zX11_whichOf) (rest := []) [vR 265 0] (ct_X11_whichOf_e1 (T := U1) (by omega) (by exact CX_f (ws := [(111, [57, 58, 59, 60, 61, 62, 63])]) hC (fr_t (fr_0 _ _) (fr_s fU1 rfl)) ⟨fun _ => rfl, fun _ => rfl, fun _ => rfl, fun _ => rfl, fun _ => rfl, trivial⟩)) cl_X11_294 (qd_c (by decide +kernel)) (nn_ _) rfl (rf_of rfl) (Nat.le_of_ble_eq_true rfl) (Nat.le_of_ble_eq_true rfl) (Nat.le_of_ble_eq_true rfl) rfl ?_
        rintro _ _ ⟨rfl, x15, rfl, hx15, wx15⟩
        have fb16 : fr_ [(111, [57, 58, 59, 60, 61, 62, 63])] T U1 := fr_t (fr_0 _ _) (fr_s fU1 rfl)
        rw [show (fun j => U1 200 0 j) = fun j => T 200 0 j from funext fun j => fb16 200 0 j rfl] at wx15
        show J_ zX11_readSport T (po_X11_readSport_e T) 0 0 43 _ [vI x15] U1
        refine j_blx (F := fX11) tb_X11 (nn_ _) bk_X11_readSport_e_43 bs_X11_readSport_e_43 hz (fun K hK => ?_)
        refine hK 47 _ [vI x15] U1 ?_
        refine j_blx (F := fX11) tb_X11 (nn_ _) bk_X11_readSport_e_47 bs_X11_readSport_e_47 hz (fun K hK => ?_)
        intro b17 b17b
        refine And.intro (fun c18 => ?_) (fun c18 => ?_)
        · exfalso; omega
        · refine And.intro (fun c19 => ?_) (fun c19 => ?_)
          · refine hK 69 [some (vR 111 0), some (vI x15)] [] U1 ?_
            refine j_blx (F := fX11) tb_X11 (nn_ _) bk_X11_readSport_e_69 bs_X11_readSport_e_69 hz (fun K hK => ?_)
            intro b20 b20b
            refine And.intro (fun c21 => ?_) (fun c21 => ?_)
            · exfalso; omega
            · refine iy_i (by omega) (by omega) ?_
              refine x_nm (fun U22 hU22 => ?_)
              have e23 := up_f hU22
              refine (show po_X11_readSport_e T U22 (none) from ?_)
              have e24 : U22 111 0 62 = U1 111 0 62 := up_k hU22 (by exact Nat.ne_of_beq_eq_false rfl) 0 62
              have e25 : U22 111 0 63 = U1 111 0 63 := up_k hU22 (by exact Nat.ne_of_beq_eq_false rfl) 0 63
              have e26 : U22 111 0 57 = U1 111 0 57 := up_k hU22 (by exact Nat.ne_of_beq_eq_false rfl) 0 57
              have e27 : U22 204 0 0 = x15 := up_f hU22
              have ee : U1 111 0 60 = ea := by omega
              refine ⟨rfl, fr_u (fr_t (fr_0 _ _) (fr_s fU1 rfl)) hU22 rfl, Or.inr ⟨by omega, ?_, by omega, by omega, by omega⟩, fun j hj => (up_g hU22 (fun z => hj z.2.2)).trans ((show fr_ [(111, [57, 58, 59, 60, 61, 62, 63])] T U1 from fr_t (fr_0 _ _) (fr_s fU1 rfl)) 204 0 j rfl)⟩
              rw [ee] at wx15
              rw [show U22 111 0 57 = ea by omega, up_f hU22]
              exact wof9_0 ds9_1 hka (by omega) (by omega) wx15 (by omega)
          · intro b28 b28b
            refine hK 66 _ [vI (U1 111 0 59), vI 3, vR 111 0] U1 ?_
            refine j_callV (y := yX11_bad) (Yc := zX11_bad) (rest := []) [vI 3, vI (U1 111 0 59)] (ct_X11_bad_e (T := U1) (by omega) (by omega)) cl_X11_281 (qd_c (by decide +kernel)) (nn_ _) rfl (rf_of rfl) (Nat.le_of_ble_eq_true rfl) (Nat.le_of_ble_eq_true rfl) (Nat.le_of_ble_eq_true rfl) rfl ?_
            rintro U29 _ ⟨rfl, fU29, qU29⟩
            show J_ zX11_readSport T (po_X11_readSport_e T) 0 0 69 _ [] U29
            refine j_blx (F := fX11) tb_X11 (nn_ _) bk_X11_readSport_e_69 bs_X11_readSport_e_69 hz (fun K hK => ?_)
            intro b30 b30b
            refine And.intro (fun c31 => ?_) (fun c31 => ?_)
            · refine hK 83 _ [] U29 ?_
              refine j_blx (F := fX11) tb_X11 (nn_ _) bk_X11_readSport_e_83 bs_X11_readSport_e_83 hz (fun K hK => ?_)
              refine (show po_X11_readSport_e T U29 (none) from ?_)
              have e32 : U29 111 0 57 = U1 111 0 57 := fU29 111 0 57 rfl
              have e33 : U29 204 0 0 = T 204 0 0 := (fU29 204 0 0 rfl).trans (fU1 204 0 0 rfl)
              refine ⟨rfl, fr_t (fr_t (fr_0 _ _) (fr_s fU1 rfl)) (fr_s fU29 rfl), Or.inl ⟨by omega, ?_⟩, fun j _ => (show fr_ [(111, [62, 63, 57, 58, 59, 60, 61])] T U29 from fr_t (fr_t (fr_0 _ _) (fr_s fU1 rfl)) (fr_s fU29 rfl)) 204 0 j rfl⟩
              rw [show U29 111 0 62 = 3 by omega, show U29 111 0 63 = U1 111 0 59 by omega]
              have ee : U1 111 0 60 = ea := by omega
              have ew : x15 = -1 := by omega
              rw [ee, ew] at wx15
              exact wof9_3 ds9_1 hka (by omega) (by omega) wx15
            · exfalso; omega
    · intro b34 b34b
      refine hK 25 _ [vI (U1 111 0 59), vI 2, vR 111 0] U1 ?_
      refine j_callV (y := yX11_bad) (Yc := zX11_bad) (rest := []) [vI 2, vI (U1 111 0 59)] (ct_X11_bad_e (T := U1) (by omega) (by omega)) cl_X11_281 (qd_c (by decide +kernel)) (nn_ _) rfl (rf_of rfl) (Nat.le_of_ble_eq_true rfl) (Nat.le_of_ble_eq_true rfl) (Nat.le_of_ble_eq_true rfl) rfl ?_
      rintro U35 _ ⟨rfl, fU35, qU35⟩
      show J_ zX11_readSport T (po_X11_readSport_e T) 0 0 28 _ [] U35
      refine j_blx (F := fX11) tb_X11 (nn_ _) bk_X11_readSport_e_28 bs_X11_readSport_e_28 hz (fun K hK => ?_)
      intro b36 b36b
      refine And.intro (fun c37 => ?_) (fun c37 => ?_)
      · refine hK 46 _ [] U35 ?_
        refine j_blx (F := fX11) tb_X11 (nn_ _) bk_X11_readSport_e_46 bs_X11_readSport_e_46 hz (fun K hK => ?_)
        intro b38 b38b
        refine And.intro (fun c39 => ?_) (fun c39 => ?_)
        · refine hK 69 [some (vR 111 0), some (vI (-1))] [] U35 ?_
          refine j_blx (F := fX11) tb_X11 (nn_ _) bk_X11_readSport_e_69 bs_X11_readSport_e_69 hz (fun K hK => ?_)
          intro b40 b40b
          refine And.intro (fun c41 => ?_) (fun c41 => ?_)
          · refine hK 83 _ [] U35 ?_
            refine j_blx (F := fX11) tb_X11 (nn_ _) bk_X11_readSport_e_83 bs_X11_readSport_e_83 hz (fun K hK => ?_)
            refine (show po_X11_readSport_e T U35 (none) from ?_)
            have e42 : U35 111 0 57 = U1 111 0 57 := fU35 111 0 57 rfl
            have e43 : U35 204 0 0 = T 204 0 0 := (fU35 204 0 0 rfl).trans (fU1 204 0 0 rfl)
            refine ⟨rfl, fr_t (fr_t (fr_0 _ _) (fr_s fU1 rfl)) (fr_s fU35 rfl), Or.inl ⟨by omega, ?_⟩, fun j _ => (show fr_ [(111, [62, 63, 57, 58, 59, 60, 61])] T U35 from fr_t (fr_t (fr_0 _ _) (fr_s fU1 rfl)) (fr_s fU35 rfl)) 204 0 j rfl⟩
            rw [show U35 111 0 62 = 2 by omega, show U35 111 0 63 = U1 111 0 59 by omega]
            exact wof9_2 hka (by omega) (by omega) (by omega)
          · exfalso; omega
        · exfalso; omega
      · exfalso; omega
-- readOrder of the reference
def MO9_ (r : Qr9_ (Int × (Int → Int))) (T : Zt) : Prop := ∃ v, r = Sum.inr (T 111 0 57, v) ∧ VR9_ T v
/-- the keys told so far, as the row has them -/
def KT9_ (T : Zt) (t : Int → Int) : Prop := ∀ j, 0 ≤ j → j < 7 → T 270 0 j = t j
/-- the fresh rules while k of the keys are wiped -/
def VW9_ (T : Zt) (v : Int → Int) (k : Int) : Prop := ∀ j, 0 ≤ j → j < 23 → (16 ≤ j ∧ j < 16 + k → T 204 0 j = -1) ∧ (¬ (16 ≤ j ∧ j < 16 + k) → T 204 0 j = v j)
theorem vw9_0 {T : Zt} {v : Int → Int} (h : VR9_ T v) : VW9_ T v 0 := fun j a b => ⟨fun z => by omega, fun _ => h j a b⟩
theorem vw9_s {T T' : Zt} {v : Int → Int} {k : Int} (h : VW9_ T v k) (h0 : 0 ≤ k) (ho : ∀ j, j ≠ 16 + k → T' 204 0 j = T 204 0 j) (hx : T' 204 0 (16 + k) = -1) : VW9_ T' v (k + 1) := fun j a b => by
  have hj := h j a b
  by_cases z : j = 16 + k
  · subst z
    exact ⟨fun _ => hx, fun y => absurd (by omega) y⟩
  · rw [ho j z]
    exact ⟨fun y => hj.1 (by omega), fun y => hj.2 (by omega)⟩
theorem vw9_e {T T' : Zt} {v : Int → Int} (h : VW9_ T v 7) (ho : ∀ j, j ≠ 4 → T' 204 0 j = T 204 0 j) (hx : T' 204 0 4 = 0) : VR9_ T' (ov9_ v) := fun j a b => by
  have hj := h j a b
  by_cases z : j = 4
  · rw [z, ov9_4]
    exact hx
  · rw [ho j z]
    by_cases y : 16 ≤ j
    · rw [ov9_k y]
      exact hj.1 (by omega)
    · rw [ov9_i z (by omega)]
      exact hj.2 (by omega)
theorem kt9_s {T T' : Zt} {t : Int → Int} {x : Int} (h : KT9_ T t) (ho : ∀ j, j ≠ x → T' 270 0 j = T 270 0 j) (hx : T' 270 0 x = 1) : KT9_ T' (u9_ t x 1) := fun j a b => by
  by_cases z : j = x
  · rw [z, u9_e]
    exact hx
  · rw [u9_n z, ho j z]
    exact h j a b
theorem bk_X11_readOrder_e_40 : ck_ fX11 none cX11_readOrder 40 [.iload 1, .ifCond .eq 237, .aload 0, .tableswitch 0 11 62 #[], .ifCond .ne 237, .aload 0] 52 = true := qck_r (nn_ _) (by decide +kernel)
theorem bs_X11_readOrder_e_40 {P : Zt → Option Zv → Prop} (K : Int → Zl → List Zv → Zt → Prop) : sx_ K P [.iload 1, .ifCond .eq 237, .aload 0, .tableswitch 0 11 62 #[], .ifCond .ne 237, .aload 0] 52 = x_iload 1 (x_ifCond .eq 237 K (x_aload 0 (x_g0 111 62 0 5 (x_ifCond .ne 237 K (x_aload 0 (K 52)))))) := ((xe_iload 1).trans (congrArg (x_iload 1) ((xe_ifCond .eq 237).trans (congrArg (x_ifCond .eq 237 K) ((xe_aload 0).trans (congrArg (x_aload 0) ((xe_g0 (kk := 111) rfl tl_11_62).trans (congrArg (x_g0 111 62 0 5) ((xe_ifCond .ne 237).trans (congrArg (x_ifCond .ne 237 K) ((xe_aload 0).trans (congrArg (x_aload 0) xe_nil))))))))))))
theorem bk_X11_readOrder_e_237 : ck_ fX11 none cX11_readOrder 237 [.return_] 238 = true := qck_r (nn_ _) (by decide +kernel)
theorem bs_X11_readOrder_e_237 {P : Zt → Option Zv → Prop} (K : Int → Zl → List Zv → Zt → Prop) : sx_ K P [.return_] 238 = x_return_ P := (xe_return_)
theorem bk_X11_readOrder_e_55 : ck_ fX11 none cX11_readOrder 55 [.aload 0, .tableswitch 0 11 62 #[], .ifCond .ne 79, .aload 0, .tableswitch 0 11 58 #[], .iconst 1, .if_icmp .eq 79, .aload 0, .iconst 2, .aload 0, .tableswitch 0 11 59 #[]] 76 = true := qck_r (nn_ _) (by decide +kernel)
theorem bs_X11_readOrder_e_55 {P : Zt → Option Zv → Prop} (K : Int → Zl → List Zv → Zt → Prop) : sx_ K P [.aload 0, .tableswitch 0 11 62 #[], .ifCond .ne 79, .aload 0, .tableswitch 0 11 58 #[], .iconst 1, .if_icmp .eq 79, .aload 0, .iconst 2, .aload 0, .tableswitch 0 11 59 #[]] 76 = x_aload 0 (x_g0 111 62 0 5 (x_ifCond .ne 79 K (x_aload 0 (x_g0 111 58 0 4 (x_iconst 1 (x_if_icmp .eq 79 K (x_aload 0 (x_iconst 2 (x_aload 0 (x_g0 111 59 0 400 (K 76))))))))))) := ((xe_aload 0).trans (congrArg (x_aload 0) ((xe_g0 (kk := 111) rfl tl_11_62).trans (congrArg (x_g0 111 62 0 5) ((xe_ifCond .ne 79).trans (congrArg (x_ifCond .ne 79 K) ((xe_aload 0).trans (congrArg (x_aload 0) ((xe_g0 (kk := 111) rfl tl_11_58).trans (congrArg (x_g0 111 58 0 4) ((xe_iconst 1).trans (congrArg (x_iconst 1) ((xe_if_icmp .eq 79).trans (congrArg (x_if_icmp .eq 79 K) ((xe_aload 0).trans (congrArg (x_aload 0) ((xe_iconst 2).trans (congrArg (x_iconst 2) ((xe_aload 0).trans (congrArg (x_aload 0) ((xe_g0 (kk := 111) rfl tl_11_59).trans (congrArg (x_g0 111 59 0 400) xe_nil))))))))))))))))))))))
theorem bk_X11_readOrder_e_79 : ck_ fX11 none cX11_readOrder 79 [.aload 0, .tableswitch 0 11 62 #[], .ifCond .ne 97, .aload 0, .aload 0, .tableswitch 0 11 66 #[]] 91 = true := qck_r (nn_ _) (by decide +kernel)
theorem bs_X11_readOrder_e_79 {P : Zt → Option Zv → Prop} (K : Int → Zl → List Zv → Zt → Prop) : sx_ K P [.aload 0, .tableswitch 0 11 62 #[], .ifCond .ne 97, .aload 0, .aload 0, .tableswitch 0 11 66 #[]] 91 = x_aload 0 (x_g0 111 62 0 5 (x_ifCond .ne 97 K (x_aload 0 (x_aload 0 (x_g1 111 266 (K 91)))))) := ((xe_aload 0).trans (congrArg (x_aload 0) ((xe_g0 (kk := 111) rfl tl_11_62).trans (congrArg (x_g0 111 62 0 5) ((xe_ifCond .ne 97).trans (congrArg (x_ifCond .ne 97 K) ((xe_aload 0).trans (congrArg (x_aload 0) ((xe_aload 0).trans (congrArg (x_aload 0) ((xe_g1 (kk := 111) rfl tl_11_66).trans (congrArg (x_g1 111 266) xe_nil))))))))))))
theorem bk_X11_readOrder_e_97 : ck_ fX11 none cX11_readOrder 97 [.iconst (-1), .istore 2, .aload 0, .tableswitch 0 11 62 #[], .ifCond .ne 120, .iload 2, .iconst (-1), .if_icmp .ne 120, .aload 0, .iconst 3, .aload 0, .tableswitch 0 11 59 #[]] 117 = true := qck_r (nn_ _) (by decide +kernel)
theorem bs_X11_readOrder_e_97 {P : Zt → Option Zv → Prop} (K : Int → Zl → List Zv → Zt → Prop) : sx_ K P [.iconst (-1), .istore 2, .aload 0, .tableswitch 0 11 62 #[], .ifCond .ne 120, .iload 2, .iconst (-1), .if_icmp .ne 120, .aload 0, .iconst 3, .aload 0, .tableswitch 0 11 59 #[]] 117 = x_iconst (-1) (x_istore 2 (x_aload 0 (x_g0 111 62 0 5 (x_ifCond .ne 120 K (x_iload 2 (x_iconst (-1) (x_if_icmp .ne 120 K (x_aload 0 (x_iconst 3 (x_aload 0 (x_g0 111 59 0 400 (K 117)))))))))))) := ((xe_iconst (-1)).trans (congrArg (x_iconst (-1)) ((xe_istore 2).trans (congrArg (x_istore 2) ((xe_aload 0).trans (congrArg (x_aload 0) ((xe_g0 (kk := 111) rfl tl_11_62).trans (congrArg (x_g0 111 62 0 5) ((xe_ifCond .ne 120).trans (congrArg (x_ifCond .ne 120 K) ((xe_iload 2).trans (congrArg (x_iload 2) ((xe_iconst (-1)).trans (congrArg (x_iconst (-1)) ((xe_if_icmp .ne 120).trans (congrArg (x_if_icmp .ne 120 K) ((xe_aload 0).trans (congrArg (x_aload 0) ((xe_iconst 3).trans (congrArg (x_iconst 3) ((xe_aload 0).trans (congrArg (x_aload 0) ((xe_g0 (kk := 111) rfl tl_11_59).trans (congrArg (x_g0 111 59 0 400) xe_nil))))))))))))))))))))))))
theorem bk_X11_readOrder_e_120 : ck_ fX11 none cX11_readOrder 120 [.aload 0, .tableswitch 0 11 62 #[], .ifCond .ne 145, .aload 0, .tableswitch 0 11 70 #[], .iload 2, .baload, .ifCond .eq 145, .aload 0, .iconst 5, .aload 0, .tableswitch 0 11 59 #[]] 142 = true := qck_r (nn_ _) (by decide +kernel)
theorem bs_X11_readOrder_e_120 {P : Zt → Option Zv → Prop} (K : Int → Zl → List Zv → Zt → Prop) : sx_ K P [.aload 0, .tableswitch 0 11 62 #[], .ifCond .ne 145, .aload 0, .tableswitch 0 11 70 #[], .iload 2, .baload, .ifCond .eq 145, .aload 0, .iconst 5, .aload 0, .tableswitch 0 11 59 #[]] 142 = x_aload 0 (x_g0 111 62 0 5 (x_ifCond .ne 145 K (x_aload 0 (x_g1 111 270 (x_iload 2 (x_baload (x_ifCond .eq 145 K (x_aload 0 (x_iconst 5 (x_aload 0 (x_g0 111 59 0 400 (K 142)))))))))))) := ((xe_aload 0).trans (congrArg (x_aload 0) ((xe_g0 (kk := 111) rfl tl_11_62).trans (congrArg (x_g0 111 62 0 5) ((xe_ifCond .ne 145).trans (congrArg (x_ifCond .ne 145 K) ((xe_aload 0).trans (congrArg (x_aload 0) ((xe_g1 (kk := 111) rfl tl_11_70).trans (congrArg (x_g1 111 270) ((xe_iload 2).trans (congrArg (x_iload 2) ((xe_baload).trans (congrArg (x_baload) ((xe_ifCond .eq 145).trans (congrArg (x_ifCond .eq 145 K) ((xe_aload 0).trans (congrArg (x_aload 0) ((xe_iconst 5).trans (congrArg (x_iconst 5) ((xe_aload 0).trans (congrArg (x_aload 0) ((xe_g0 (kk := 111) rfl tl_11_59).trans (congrArg (x_g0 111 59 0 400) xe_nil))))))))))))))))))))))))
theorem bk_X11_readOrder_e_145 : ck_ fX11 none cX11_readOrder 145 [.aload 0, .tableswitch 0 11 62 #[], .ifCond .ne 234, .aload 0, .tableswitch 0 11 70 #[], .iload 2, .iconst 1, .bastore, .aload 0, .tableswitch 0 11 4 #[], .iconst 16, .aload 0, .tableswitch 0 11 4 #[], .iconst 4, .iaload, .iadd, .iload 2, .iastore, .aload 0, .tableswitch 0 11 4 #[], .iconst 4, .dup2, .iaload, .iconst 1, .iadd, .iastore, .aload 0] 185 = true := qck_r (nn_ _) (by decide +kernel)
theorem bs_X11_readOrder_e_145 {P : Zt → Option Zv → Prop} (K : Int → Zl → List Zv → Zt → Prop) : sx_ K P [.aload 0, .tableswitch 0 11 62 #[], .ifCond .ne 234, .aload 0, .tableswitch 0 11 70 #[], .iload 2, .iconst 1, .bastore, .aload 0, .tableswitch 0 11 4 #[], .iconst 16, .aload 0, .tableswitch 0 11 4 #[], .iconst 4, .iaload, .iadd, .iload 2, .iastore, .aload 0, .tableswitch 0 11 4 #[], .iconst 4, .dup2, .iaload, .iconst 1, .iadd, .iastore, .aload 0] 185 = x_aload 0 (x_g0 111 62 0 5 (x_ifCond .ne 234 K (x_aload 0 (x_g1 111 270 (x_iload 2 (x_iconst 1 (x_bastore (x_aload 0 (x_g1 111 204 (x_iconst 16 (x_aload 0 (x_g1 111 204 (x_iconst 4 (x_iaload (x_iadd (x_iload 2 (x_iastore (x_aload 0 (x_g1 111 204 (x_iconst 4 (x_dup2 (x_iaload (x_iconst 1 (x_iadd (x_iastore (x_aload 0 (K 185))))))))))))))))))))))))))) := ((xe_aload 0).trans (congrArg (x_aload 0) ((xe_g0 (kk := 111) rfl tl_11_62).trans (congrArg (x_g0 111 62 0 5) ((xe_ifCond .ne 234).trans (congrArg (x_ifCond .ne 234 K) ((xe_aload 0).trans (congrArg (x_aload 0) ((xe_g1 (kk := 111) rfl tl_11_70).trans (congrArg (x_g1 111 270) ((xe_iload 2).trans (congrArg (x_iload 2) ((xe_iconst 1).trans (congrArg (x_iconst 1) ((xe_bastore).trans (congrArg (x_bastore) ((xe_aload 0).trans (congrArg (x_aload 0) ((xe_g1 (kk := 111) rfl tl_11_4).trans (congrArg (x_g1 111 204) ((xe_iconst 16).trans (congrArg (x_iconst 16) ((xe_aload 0).trans (congrArg (x_aload 0) ((xe_g1 (kk := 111) rfl tl_11_4).trans (congrArg (x_g1 111 204) ((xe_iconst 4).trans (congrArg (x_iconst 4) ((xe_iaload).trans (congrArg (x_iaload) ((xe_iadd).trans (congrArg (x_iadd) ((xe_iload 2).trans (congrArg (x_iload 2) ((xe_iastore).trans (congrArg (x_iastore) ((xe_aload 0).trans (congrArg (x_aload 0) ((xe_g1 (kk := 111) rfl tl_11_4).trans (congrArg (x_g1 111 204) ((xe_iconst 4).trans (congrArg (x_iconst 4) ((xe_dup2).trans (congrArg (x_dup2) ((xe_iaload).trans (congrArg (x_iaload) ((xe_iconst 1).trans (congrArg (x_iconst 1) ((xe_iadd).trans (congrArg (x_iadd) ((xe_iastore).trans (congrArg (x_iastore) ((xe_aload 0).trans (congrArg (x_aload 0) xe_nil))))))))))))))))))))))))))))))))))))))))))))))))))))))
theorem bk_X11_readOrder_e_234 : ck_ fX11 none cX11_readOrder 234 [.goto 40] 237 = true := qck_r (nn_ _) (by decide +kernel)
theorem bs_X11_readOrder_e_234 {P : Zt → Option Zv → Prop} (K : Int → Zl → List Zv → Zt → Prop) : sx_ K P [.goto 40] 237 = x_goto 40 K := (xe_goto 40)
theorem bk_X11_readOrder_e_94 : ck_ fX11 none cX11_readOrder 94 [.goto 98] 97 = true := qck_r (nn_ _) (by decide +kernel)
theorem bs_X11_readOrder_e_94 {P : Zt → Option Zv → Prop} (K : Int → Zl → List Zv → Zt → Prop) : sx_ K P [.goto 98] 97 = x_goto 98 K := (xe_goto 98)
theorem bk_X11_readOrder_e_98 : ck_ fX11 none cX11_readOrder 98 [.istore 2, .aload 0, .tableswitch 0 11 62 #[], .ifCond .ne 120, .iload 2, .iconst (-1), .if_icmp .ne 120, .aload 0, .iconst 3, .aload 0, .tableswitch 0 11 59 #[]] 117 = true := qck_r (nn_ _) (by decide +kernel)
theorem bs_X11_readOrder_e_98 {P : Zt → Option Zv → Prop} (K : Int → Zl → List Zv → Zt → Prop) : sx_ K P [.istore 2, .aload 0, .tableswitch 0 11 62 #[], .ifCond .ne 120, .iload 2, .iconst (-1), .if_icmp .ne 120, .aload 0, .iconst 3, .aload 0, .tableswitch 0 11 59 #[]] 117 = x_istore 2 (x_aload 0 (x_g0 111 62 0 5 (x_ifCond .ne 120 K (x_iload 2 (x_iconst (-1) (x_if_icmp .ne 120 K (x_aload 0 (x_iconst 3 (x_aload 0 (x_g0 111 59 0 400 (K 117))))))))))) := ((xe_istore 2).trans (congrArg (x_istore 2) ((xe_aload 0).trans (congrArg (x_aload 0) ((xe_g0 (kk := 111) rfl tl_11_62).trans (congrArg (x_g0 111 62 0 5) ((xe_ifCond .ne 120).trans (congrArg (x_ifCond .ne 120 K) ((xe_iload 2).trans (congrArg (x_iload 2) ((xe_iconst (-1)).trans (congrArg (x_iconst (-1)) ((xe_if_icmp .ne 120).trans (congrArg (x_if_icmp .ne 120 K) ((xe_aload 0).trans (congrArg (x_aload 0) ((xe_iconst 3).trans (congrArg (x_iconst 3) ((xe_aload 0).trans (congrArg (x_aload 0) ((xe_g0 (kk := 111) rfl tl_11_59).trans (congrArg (x_g0 111 59 0 400) xe_nil))))))))))))))))))))))
theorem bk_X11_readOrder_e_188 : ck_ fX11 none cX11_readOrder 188 [.aload 0, .tableswitch 0 11 62 #[], .ifCond .ne 220, .aload 0, .tableswitch 0 11 58 #[], .iconst 3, .if_icmp .eq 220, .aload 0, .tableswitch 0 11 58 #[], .iconst 4, .if_icmp .eq 220, .aload 0, .iconst 2, .aload 0, .tableswitch 0 11 59 #[]] 217 = true := qck_r (nn_ _) (by decide +kernel)
theorem bs_X11_readOrder_e_188 {P : Zt → Option Zv → Prop} (K : Int → Zl → List Zv → Zt → Prop) : sx_ K P [.aload 0, .tableswitch 0 11 62 #[], .ifCond .ne 220, .aload 0, .tableswitch 0 11 58 #[], .iconst 3, .if_icmp .eq 220, .aload 0, .tableswitch 0 11 58 #[], .iconst 4, .if_icmp .eq 220, .aload 0, .iconst 2, .aload 0, .tableswitch 0 11 59 #[]] 217 = x_aload 0 (x_g0 111 62 0 5 (x_ifCond .ne 220 K (x_aload 0 (x_g0 111 58 0 4 (x_iconst 3 (x_if_icmp .eq 220 K (x_aload 0 (x_g0 111 58 0 4 (x_iconst 4 (x_if_icmp .eq 220 K (x_aload 0 (x_iconst 2 (x_aload 0 (x_g0 111 59 0 400 (K 217))))))))))))))) := ((xe_aload 0).trans (congrArg (x_aload 0) ((xe_g0 (kk := 111) rfl tl_11_62).trans (congrArg (x_g0 111 62 0 5) ((xe_ifCond .ne 220).trans (congrArg (x_ifCond .ne 220 K) ((xe_aload 0).trans (congrArg (x_aload 0) ((xe_g0 (kk := 111) rfl tl_11_58).trans (congrArg (x_g0 111 58 0 4) ((xe_iconst 3).trans (congrArg (x_iconst 3) ((xe_if_icmp .eq 220).trans (congrArg (x_if_icmp .eq 220 K) ((xe_aload 0).trans (congrArg (x_aload 0) ((xe_g0 (kk := 111) rfl tl_11_58).trans (congrArg (x_g0 111 58 0 4) ((xe_iconst 4).trans (congrArg (x_iconst 4) ((xe_if_icmp .eq 220).trans (congrArg (x_if_icmp .eq 220 K) ((xe_aload 0).trans (congrArg (x_aload 0) ((xe_iconst 2).trans (congrArg (x_iconst 2) ((xe_aload 0).trans (congrArg (x_aload 0) ((xe_g0 (kk := 111) rfl tl_11_59).trans (congrArg (x_g0 111 59 0 400) xe_nil))))))))))))))))))))))))))))))
theorem bk_X11_readOrder_e_220 : ck_ fX11 none cX11_readOrder 220 [.aload 0, .tableswitch 0 11 58 #[], .iconst 4, .if_icmp .ne 232, .iconst 1, .goto 233] 232 = true := qck_r (nn_ _) (by decide +kernel)
theorem bs_X11_readOrder_e_220 {P : Zt → Option Zv → Prop} (K : Int → Zl → List Zv → Zt → Prop) : sx_ K P [.aload 0, .tableswitch 0 11 58 #[], .iconst 4, .if_icmp .ne 232, .iconst 1, .goto 233] 232 = x_aload 0 (x_g0 111 58 0 4 (x_iconst 4 (x_if_icmp .ne 232 K (x_iconst 1 (x_goto 233 K))))) := ((xe_aload 0).trans (congrArg (x_aload 0) ((xe_g0 (kk := 111) rfl tl_11_58).trans (congrArg (x_g0 111 58 0 4) ((xe_iconst 4).trans (congrArg (x_iconst 4) ((xe_if_icmp .ne 232).trans (congrArg (x_if_icmp .ne 232 K) ((xe_iconst 1).trans (congrArg (x_iconst 1) (xe_goto 233)))))))))))
theorem bk_X11_readOrder_e_232 : ck_ fX11 none cX11_readOrder 232 [.iconst 0, .istore 1, .goto 40] 237 = true := qck_r (nn_ _) (by decide +kernel)
theorem bs_X11_readOrder_e_232 {P : Zt → Option Zv → Prop} (K : Int → Zl → List Zv → Zt → Prop) : sx_ K P [.iconst 0, .istore 1, .goto 40] 237 = x_iconst 0 (x_istore 1 (x_goto 40 K)) := ((xe_iconst 0).trans (congrArg (x_iconst 0) ((xe_istore 1).trans (congrArg (x_istore 1) (xe_goto 40)))))
theorem bk_X11_readOrder_e_233 : ck_ fX11 none cX11_readOrder 233 [.istore 1, .goto 40] 237 = true := qck_r (nn_ _) (by decide +kernel)
theorem bs_X11_readOrder_e_233 {P : Zt → Option Zv → Prop} (K : Int → Zl → List Zv → Zt → Prop) : sx_ K P [.istore 1, .goto 40] 237 = x_istore 1 (x_goto 40 K) := ((xe_istore 1).trans (congrArg (x_istore 1) (xe_goto 40)))
theorem bk_X11_readOrder_e_2 : ck_ fX11 none cX11_readOrder 2 [.iload 1, .iconst 7, .if_icmp .ge 31, .aload 0, .tableswitch 0 11 70 #[], .iload 1, .iconst 0, .bastore, .aload 0, .tableswitch 0 11 4 #[], .iconst 16, .iload 1, .iadd, .iconst (-1), .iastore, .iinc 1 1, .goto 2] 31 = true := qck_r (nn_ _) (by decide +kernel)
theorem bs_X11_readOrder_e_2 {P : Zt → Option Zv → Prop} (K : Int → Zl → List Zv → Zt → Prop) : sx_ K P [.iload 1, .iconst 7, .if_icmp .ge 31, .aload 0, .tableswitch 0 11 70 #[], .iload 1, .iconst 0, .bastore, .aload 0, .tableswitch 0 11 4 #[], .iconst 16, .iload 1, .iadd, .iconst (-1), .iastore, .iinc 1 1, .goto 2] 31 = x_iload 1 (x_iconst 7 (x_if_icmp .ge 31 K (x_aload 0 (x_g1 111 270 (x_iload 1 (x_iconst 0 (x_bastore (x_aload 0 (x_g1 111 204 (x_iconst 16 (x_iload 1 (x_iadd (x_iconst (-1) (x_iastore (x_iinc 1 1 (x_goto 2 K)))))))))))))))) := ((xe_iload 1).trans (congrArg (x_iload 1) ((xe_iconst 7).trans (congrArg (x_iconst 7) ((xe_if_icmp .ge 31).trans (congrArg (x_if_icmp .ge 31 K) ((xe_aload 0).trans (congrArg (x_aload 0) ((xe_g1 (kk := 111) rfl tl_11_70).trans (congrArg (x_g1 111 270) ((xe_iload 1).trans (congrArg (x_iload 1) ((xe_iconst 0).trans (congrArg (x_iconst 0) ((xe_bastore).trans (congrArg (x_bastore) ((xe_aload 0).trans (congrArg (x_aload 0) ((xe_g1 (kk := 111) rfl tl_11_4).trans (congrArg (x_g1 111 204) ((xe_iconst 16).trans (congrArg (x_iconst 16) ((xe_iload 1).trans (congrArg (x_iload 1) ((xe_iadd).trans (congrArg (x_iadd) ((xe_iconst (-1)).trans (congrArg (x_iconst (-1)) ((xe_iastore).trans (congrArg (x_iastore) ((xe_iinc 1 1).trans (congrArg (x_iinc 1 1) (xe_goto 2)))))))))))))))))))))))))))))))))
theorem bk_X11_readOrder_e_31 : ck_ fX11 none cX11_readOrder 31 [.aload 0, .tableswitch 0 11 4 #[], .iconst 4, .iconst 0, .iastore, .iconst 1, .istore 1] 40 = true := qck_r (nn_ _) (by decide +kernel)
theorem bs_X11_readOrder_e_31 {P : Zt → Option Zv → Prop} (K : Int → Zl → List Zv → Zt → Prop) : sx_ K P [.aload 0, .tableswitch 0 11 4 #[], .iconst 4, .iconst 0, .iastore, .iconst 1, .istore 1] 40 = x_aload 0 (x_g1 111 204 (x_iconst 4 (x_iconst 0 (x_iastore (x_iconst 1 (x_istore 1 (K 40))))))) := ((xe_aload 0).trans (congrArg (x_aload 0) ((xe_g1 (kk := 111) rfl tl_11_4).trans (congrArg (x_g1 111 204) ((xe_iconst 4).trans (congrArg (x_iconst 4) ((xe_iconst 0).trans (congrArg (x_iconst 0) ((xe_iastore).trans (congrArg (x_iastore) ((xe_iconst 1).trans (congrArg (x_iconst 1) ((xe_istore 1).trans (congrArg (x_istore 1) xe_nil))))))))))))))
theorem bk_X11_readOrder_e_0 : ck_ fX11 none cX11_readOrder 0 [.iconst 0, .istore 1] 2 = true := qck_r (nn_ _) (by decide +kernel)
theorem bs_X11_readOrder_e_0 {P : Zt → Option Zv → Prop} (K : Int → Zl → List Zv → Zt → Prop) : sx_ K P [.iconst 0, .istore 1] 2 = x_iconst 0 (x_istore 1 (K 2)) := ((xe_iconst 0).trans (congrArg (x_iconst 0) ((xe_istore 1).trans (congrArg (x_istore 1) xe_nil))))
abbrev po_X11_readOrder_e (T : Zt) (v : Int → Int) : Zt → Option Zv → Prop := fun T' r => r = none ∧ fr_ [(111, [57, 58, 59, 60, 61, 62, 63]), (204, []), (270, [])] T T' ∧ ((T' 111 0 62 ≠ 0 ∧ orf9_ 9 (cl9_ (T 111 0 1) (fun j => T 200 0 j)) (T 111 0 1) (T 111 0 57) (fun _ => 0) 0 (ov9_ v) = Sum.inl (T' 111 0 62, T' 111 0 63)) ∨ (T' 111 0 62 = 0 ∧ MO9_ (orf9_ 9 (cl9_ (T 111 0 1) (fun j => T 200 0 j)) (T 111 0 1) (T 111 0 57) (fun _ => 0) 0 (ov9_ v)) T' ∧ T' 111 0 63 = T 111 0 63 ∧ T 111 0 57 ≤ T' 111 0 57 ∧ T' 111 0 57 ≤ T 111 0 1))
set_option maxHeartbeats 4000000 in
theorem ct_X11_readOrder_e {T : Zt} {v : Int → Int} (h1 : T 111 0 57 ≤ T 111 0 1) (h62 : T 111 0 62 = 0) (hC : CW_ T) (hv : VR9_ T v) : Ct_ yX11_readOrder zX11_readOrder T [vR 111 0] (po_X11_readOrder_e T v) := by
  refine ct_of pn_11 rfl rfl (Nat.le_of_ble_eq_true rfl) (fun hT hav => ?_)
  have hz : zX11_readOrder.2.2.2.1 = some .boolean → ∀ (T' : Zt) (x : Int), po_X11_readOrder_e T v T' (some (vI x)) → 0 ≤ x ∧ x ≤ 1 := fun h => by cases h
  have hb_1 : 0 ≤ T 111 0 1 ∧ T 111 0 1 ≤ 400 := bd_f hT 111 1 tl_11_1 0
  have hb_57 : 0 ≤ T 111 0 57 ∧ T 111 0 57 ≤ 400 := bd_f hT 111 57 tl_11_57 0
  show J_ zX11_readOrder T (po_X11_readOrder_e T v) 0 0 0 [some (vR 111 0), none, none] [] T
  have c_2 : ∀ (nn : Nat) (k : Int) (T1 : Zt), ((7 - k).toNat) ≤ nn → (fr_ [(204, []), (270, [])] T T1) → (0 ≤ k ∧ k ≤ 7) → (∀ j : Int, 0 ≤ j → j < k → T1 270 0 j = 0) → (VW9_ T1 v k) → J_ zX11_readOrder T (po_X11_readOrder_e T v) 0 0 2 [some (vR 111 0), some (vI k), none] [] T1 := by
    intro nn
    induction nn using Nat.strongRecOn with
    | _ nn ih_2 =>
      intro k T1 hm_2 hf_2 k1 l1 l2
      replace hm_2 := fun (_ : Unit) => hm_2
      have c_40 : ∀ (nn : Nat) (mo : Int) (c : Int) (t : Int → Int) (u : Int → Int) (T2 : Zt), ((9 - c).toNat) ≤ nn → (fr_ [(111, [57, 58, 59, 60, 61, 62, 63]), (204, []), (270, [])] T T2) → (0 ≤ c ∧ c ≤ 8) → ((T2 111 0 62 ≠ 0 ∧ orf9_ 9 (cl9_ (T 111 0 1) (fun j => T 200 0 j)) (T 111 0 1) (T 111 0 57) (fun _ => 0) 0 (ov9_ v) = Sum.inl (T2 111 0 62, T2 111 0 63)) ∨ (T2 111 0 62 = 0 ∧ mo = 0 ∧ orf9_ 9 (cl9_ (T 111 0 1) (fun j => T 200 0 j)) (T 111 0 1) (T 111 0 57) (fun _ => 0) 0 (ov9_ v) = Sum.inr (T2 111 0 57, u)) ∨ (T2 111 0 62 = 0 ∧ mo = 1 ∧ orf9_ 9 (cl9_ (T 111 0 1) (fun j => T 200 0 j)) (T 111 0 1) (T 111 0 57) (fun _ => 0) 0 (ov9_ v) = orf9_ ((8 - c).toNat + 1) (cl9_ (T 111 0 1) (fun j => T 200 0 j)) (T 111 0 1) (T2 111 0 57) t c u)) → (T2 111 0 62 = 0 → VR9_ T2 u) → (T2 111 0 62 = 0 → mo = 1 → c = T2 204 0 4 ∧ KS9_ t c ∧ KT9_ T2 t) → (T2 111 0 62 = 0 → T2 111 0 63 = T 111 0 63 ∧ T 111 0 57 ≤ T2 111 0 57 ∧ T2 111 0 57 ≤ T 111 0 1) → J_ zX11_readOrder T (po_X11_readOrder_e T v) 0 0 40 [some (vR 111 0), some (vI mo), none] [] T2 := by
        intro nn
        induction nn using Nat.strongRecOn with
        | _ nn ih_40 =>
          intro mo c t u T2 hm_40 hf_40 i1 jr jv jk jb
          replace hm_40 := fun (_ : Unit) => hm_40
          refine j_blx (F := fX11) tb_X11 (nn_ _) bk_X11_readOrder_e_40 bs_X11_readOrder_e_40 hz (fun K hK => ?_)
          refine And.intro (fun c1 => ?_) (fun c1 => ?_)
          · refine hK 237 _ [] T2 ?_
            refine j_blx (F := fX11) tb_X11 (nn_ _) bk_X11_readOrder_e_237 bs_X11_readOrder_e_237 hz (fun K hK => ?_)
            refine (show po_X11_readOrder_e T v T2 (none) from ?_)
            rcases jr with ⟨z1, z2⟩ | ⟨z1, z2, z3⟩ | ⟨z1, z2, z3⟩
            · exact ⟨rfl, fr_t (fr_0 _ _) (fr_s hf_40 rfl), Or.inl ⟨z1, z2⟩⟩
            · have jb1 := jb z1
              exact ⟨rfl, fr_t (fr_0 _ _) (fr_s hf_40 rfl), Or.inr ⟨z1, ⟨u, z3, jv z1⟩, by omega, by omega, by omega⟩⟩
            · exfalso; omega
          · intro b2 b2b
            refine And.intro (fun c3 => ?_) (fun c3 => ?_)
            · refine hK 237 _ [] T2 ?_
              refine j_blx (F := fX11) tb_X11 (nn_ _) bk_X11_readOrder_e_237 bs_X11_readOrder_e_237 hz (fun K hK => ?_)
              refine (show po_X11_readOrder_e T v T2 (none) from ?_)
              rcases jr with ⟨z1, z2⟩ | ⟨z1, z2, z3⟩ | ⟨z1, z2, z3⟩
              · exact ⟨rfl, fr_t (fr_0 _ _) (fr_s hf_40 rfl), Or.inl ⟨z1, z2⟩⟩
              · have jb1 := jb z1
                exact ⟨rfl, fr_t (fr_0 _ _) (fr_s hf_40 rfl), Or.inr ⟨z1, ⟨u, z3, jv z1⟩, by omega, by omega, by omega⟩⟩
              · exfalso; omega
            · have hj3 : T2 111 0 62 = 0 ∧ mo = 1 := by omega
              obtain ⟨hc, ik, ikt⟩ := jk hj3.1 hj3.2
              subst hc
              have ir := ((jr.resolve_left (fun z => by omega)).resolve_left (fun z => by omega)).2.2
              have ks := ks9_b ik
              have jb1 := jb hj3.1
              refine hK 52 _ [vR 111 0] T2 ?_
              have e4 : T2 111 0 1 = T 111 0 1 := hf_40 111 0 1 rfl
              refine j_callV (y := yX11_take) (Yc := zX11_take) (rest := []) [] (ct_X11_take_e (T := T2) (by omega) (by omega)) cl_X11_291 (qd_c (by decide +kernel)) (nn_ _) rfl (rf_of rfl) (Nat.le_of_ble_eq_true rfl) (Nat.le_of_ble_eq_true rfl) (Nat.le_of_ble_eq_true rfl) rfl ?_
              rintro U5 _ ⟨rfl, fU5, qU5⟩
              show J_ zX11_readOrder T (po_X11_readOrder_e T v) 0 0 55 _ [] U5
              have qka := qU5
              have fb6 : fr_ [(111, [57, 58, 59, 60, 61, 62, 63]), (204, []), (270, [])] T T2 := fr_t (fr_0 _ _) (fr_s hf_40 rfl)
              rw [show (fun j => T2 200 0 j) = fun j => T 200 0 j from funext fun j => fb6 200 0 j rfl, show T2 111 0 1 = T 111 0 1 from fb6 111 0 1 rfl] at qka
              obtain ⟨qaa, ea, ka, hka, hqa⟩ := qka
              have tra := tk9_r hka
              refine j_blx (F := fX11) tb_X11 (nn_ _) bk_X11_readOrder_e_55 bs_X11_readOrder_e_55 hz (fun K hK => ?_)
              intro b7 b7b
              refine And.intro (fun c8 => ?_) (fun c8 => ?_)
              · refine hK 79 _ [] U5 ?_
                refine j_blx (F := fX11) tb_X11 (nn_ _) bk_X11_readOrder_e_79 bs_X11_readOrder_e_79 hz (fun K hK => ?_)
                intro b9 b9b
                refine And.intro (fun c10 => ?_) (fun c10 => ?_)
                · refine hK 97 _ [] U5 ?_
                  refine j_blx (F := fX11) tb_X11 (nn_ _) bk_X11_readOrder_e_97 bs_X11_readOrder_e_97 hz (fun K hK => ?_)
                  intro b11 b11b
                  refine And.intro (fun c12 => ?_) (fun c12 => ?_)
                  · refine hK 120 [some (vR 111 0), some (vI mo), some (vI (-1))] [] U5 ?_
                    refine j_blx (F := fX11) tb_X11 (nn_ _) bk_X11_readOrder_e_120 bs_X11_readOrder_e_120 hz (fun K hK => ?_)
                    intro b13 b13b
                    refine And.intro (fun c14 => ?_) (fun c14 => ?_)
                    · refine hK 145 _ [] U5 ?_
                      refine j_blx (F := fX11) tb_X11 (nn_ _) bk_X11_readOrder_e_145 bs_X11_readOrder_e_145 hz (fun K hK => ?_)
                      intro b15 b15b
                      refine And.intro (fun c16 => ?_) (fun c16 => ?_)
                      · refine hK 234 _ [] U5 ?_
                        refine j_blx (F := fX11) tb_X11 (nn_ _) bk_X11_readOrder_e_234 bs_X11_readOrder_e_234 hz (fun K hK => ?_)
                        refine hK 40 _ [] U5 ?_
                        refine j_drop [some (vR 111 0), some (vI mo), none] (fun k v hk => ?_) rfl ?_
                        · match k, hk with
                          | 0, hk => exact hk
                          | 1, hk => exact hk
                          | 2, hk => cases hk
                          | k + 3, hk => cases hk
                        have e17 : U5 204 0 4 = T2 204 0 4 := fU5 204 0 4 rfl
                        refine ih_40 _ ?_ mo (T2 204 0 4 + 1) t u U5 (Nat.le_refl _) ?_ ?_ ?_ ?_ ?_ ?_
                        · have hm_40 := hm_40 (); omega
                        · exact fr_t (fr_t (fr_0 _ _) (fr_s hf_40 rfl)) (fr_s fU5 rfl)
                        · omega
                        · refine Or.inl ⟨by omega, ir.trans ?_⟩
                          rw [show U5 111 0 62 = 1 by omega, show U5 111 0 63 = U5 111 0 59 by omega]
                          exact orf9_w (wof9_1 hka (by omega) (by omega))
                        · exact fun z => absurd z (by omega)
                        · exact fun z => absurd z (by omega)
                        · exact fun z => absurd z (by omega)
                      · exfalso; omega
                    · exfalso; omega
                  · exfalso; omega
                · exfalso; omega
              · intro b18 b18b
                refine And.intro (fun c19 => ?_) (fun c19 => ?_)
                · refine hK 79 _ [] U5 ?_
                  refine j_blx (F := fX11) tb_X11 (nn_ _) bk_X11_readOrder_e_79 bs_X11_readOrder_e_79 hz (fun K hK => ?_)
                  intro b20 b20b
                  refine And.intro (fun c21 => ?_) (fun c21 => ?_)
                  · exfalso; omega
                  · refine hK 91 _ [vR 266 0, vR 111 0] U5 ?_
                    refine j_callV (y := yX11_whichOf) (Yc := zX11_whichOf) (rest := []) [vR 266 0] (ct_X11_whichOf_e2 (T := U5) (by omega) (by exact CX_f (ws := [(111, [57, 58, 59, 60, 61, 62, 63]), (204, []), (270, [])]) hC (fr_t (fr_t (fr_0 _ _) (fr_s hf_40 rfl)) (fr_s fU5 rfl)) ⟨fun _ => rfl, fun _ => rfl, fun _ => rfl, fun _ => rfl, fun _ => rfl, trivial⟩)) cl_X11_294 (qd_c (by decide +kernel)) (nn_ _) rfl (rf_of rfl) (Nat.le_of_ble_eq_true rfl) (Nat.le_of_ble_eq_true rfl) (Nat.le_of_ble_eq_true rfl) rfl ?_
                    rintro _ _ ⟨rfl, x22, rfl, hx22, wx22⟩
                    have fb23 : fr_ [(111, [57, 58, 59, 60, 61, 62, 63]), (204, []), (270, [])] T U5 := fr_t (fr_t (fr_0 _ _) (fr_s hf_40 rfl)) (fr_s fU5 rfl)
                    rw [show (fun j => U5 200 0 j) = fun j => T 200 0 j from funext fun j => fb23 200 0 j rfl] at wx22
                    show J_ zX11_readOrder T (po_X11_readOrder_e T v) 0 0 94 _ [vI x22] U5
                    refine j_blx (F := fX11) tb_X11 (nn_ _) bk_X11_readOrder_e_94 bs_X11_readOrder_e_94 hz (fun K hK => ?_)
                    refine hK 98 _ [vI x22] U5 ?_
                    refine j_blx (F := fX11) tb_X11 (nn_ _) bk_X11_readOrder_e_98 bs_X11_readOrder_e_98 hz (fun K hK => ?_)
                    intro b24 b24b
                    refine And.intro (fun c25 => ?_) (fun c25 => ?_)
                    · exfalso; omega
                    · refine And.intro (fun c26 => ?_) (fun c26 => ?_)
                      · have ee : U5 111 0 60 = ea := by omega
                        have hw1 := wx22
                        rw [ee] at hw1
                        have hwi := wof9_0 ds9_2 hka (by omega) (by omega) hw1 (by omega)
                        have hkx := ikt x22 (by omega) (by omega)
                        refine hK 120 [some (vR 111 0), some (vI mo), some (vI x22)] [] U5 ?_
                        refine j_blx (F := fX11) tb_X11 (nn_ _) bk_X11_readOrder_e_120 bs_X11_readOrder_e_120 hz (fun K hK => ?_)
                        intro b27 b27b
                        refine And.intro (fun c28 => ?_) (fun c28 => ?_)
                        · exfalso; omega
                        · refine ix_i (by omega) ?_
                          intro b29 b29b
                          have e30 : U5 270 0 x22 = T2 270 0 x22 := fU5 270 0 x22 rfl
                          rw [e30] at b29 b29b ⊢
                          refine And.intro (fun c31 => ?_) (fun c31 => ?_)
                          · have hx0 : t x22 = 0 := by omega
                            have hlt : T2 204 0 4 < 7 := Classical.byContradiction fun z => ks9_7 ik (by omega) (by omega) (by omega) hx0
                            refine hK 145 _ [] U5 ?_
                            refine j_blx (F := fX11) tb_X11 (nn_ _) bk_X11_readOrder_e_145 bs_X11_readOrder_e_145 hz (fun K hK => ?_)
                            intro b32 b32b
                            refine And.intro (fun c33 => ?_) (fun c33 => ?_)
                            · exfalso; omega
                            · refine iy_i (by omega) (by omega) ?_
                              refine x_nm (fun U34 hU34 => ?_)
                              have e35 := up_f hU34
                              refine ix_i (by omega) ?_
                              intro b36 b36b
                              have e37 : U34 204 0 4 = T2 204 0 4 := (up_k hU34 (by exact Nat.ne_of_beq_eq_false rfl) 0 4).trans (fU5 204 0 4 rfl)
                              rw [e37] at b36 b36b ⊢
                              refine rg_i (by omega) ?_
                              refine iy_i (by omega) (by omega) ?_
                              refine x_nm (fun U38 hU38 => ?_)
                              have e39 := up_f hU38
                              have ek4 : U38 204 0 4 = U34 204 0 4 := up_g hU38 (by omega)
                              refine ix_i (by omega) ?_
                              intro b40 b40b
                              refine rg_i (by omega) ?_
                              refine iy_i (by omega) (by omega) ?_
                              refine x_nm (fun U41 hU41 => ?_)
                              have e42 := up_f hU41
                              refine hK 185 _ [vR 111 0] U41 ?_
                              have v4 : U41 204 0 4 = T2 204 0 4 + 1 := by omega
                              have vr0 : VR9_ U34 u := VR9_f (jv hj3.1) (show fr_ [(270, []), (111, [57, 58, 59, 60, 61, 62, 63])] T2 U34 from fr_u (fr_t (fr_0 _ _) (fr_s fU5 rfl)) hU34 rfl) (fun _ => rfl)
                              have vr1 := VR9_u vr0 (T' := U38) (s := 16 + T2 204 0 4) (x := x22) (fun j hj => up_g hU38 (fun z => hj z.2.2)) (up_f hU38)
                              have vr := VR9_u vr1 (T' := U41) (s := 4) (x := T2 204 0 4 + 1) (fun j hj => up_g hU41 (fun z => hj z.2.2)) v4
                              have kt0 : KT9_ U5 t := fun j a b => ((show fr_ [(111, [57, 58, 59, 60, 61, 62, 63])] T2 U5 from fr_t (fr_0 _ _) (fr_s fU5 rfl)) 270 0 j rfl).trans (ikt j a b)
                              have kt1 := kt9_s kt0 (T' := U34) (x := x22) (fun j hj => up_g hU34 (fun z => hj z.2.2)) (up_f hU34)
                              have kt : KT9_ U41 (u9_ t x22 1) := fun j a b => (up_k hU41 (by exact Nat.ne_of_beq_eq_false rfl) 0 j).trans ((up_k hU38 (by exact Nat.ne_of_beq_eq_false rfl) 0 j).trans (kt1 j a b))
                              have e43 : U41 111 0 57 = U5 111 0 57 := (up_k hU41 (by exact Nat.ne_of_beq_eq_false rfl) 0 57).trans ((up_k hU38 (by exact Nat.ne_of_beq_eq_false rfl) 0 57).trans (up_k hU34 (by exact Nat.ne_of_beq_eq_false rfl) 0 57))
                              have e44 : U41 111 0 1 = T 111 0 1 := (up_k hU41 (by exact Nat.ne_of_beq_eq_false rfl) 0 1).trans ((up_k hU38 (by exact Nat.ne_of_beq_eq_false rfl) 0 1).trans ((up_k hU34 (by exact Nat.ne_of_beq_eq_false rfl) 0 1).trans ((fU5 111 0 1 rfl).trans (hf_40 111 0 1 rfl))))
                              have e45 : U41 111 0 62 = U5 111 0 62 := (up_k hU41 (by exact Nat.ne_of_beq_eq_false rfl) 0 62).trans ((up_k hU38 (by exact Nat.ne_of_beq_eq_false rfl) 0 62).trans (up_k hU34 (by exact Nat.ne_of_beq_eq_false rfl) 0 62))
                              refine j_callV (y := yX11_take) (Yc := zX11_take) (rest := []) [] (ct_X11_take_e (T := U41) (by omega) (by omega)) cl_X11_291 (qd_c (by decide +kernel)) (nn_ _) rfl (rf_of rfl) (Nat.le_of_ble_eq_true rfl) (Nat.le_of_ble_eq_true rfl) (Nat.le_of_ble_eq_true rfl) rfl ?_
                              rintro U46 _ ⟨rfl, fU46, qU46⟩
                              show J_ zX11_readOrder T (po_X11_readOrder_e T v) 0 0 188 _ [] U46
                              have qkb := qU46
                              have fb47 : fr_ [(204, []), (270, []), (111, [57, 58, 59, 60, 61, 62, 63])] T U41 := fr_u (fr_u (fr_u (fr_t (fr_t (fr_0 _ _) (fr_s hf_40 rfl)) (fr_s fU5 rfl)) hU34 rfl) hU38 rfl) hU41 rfl
                              rw [show (fun j => U41 200 0 j) = fun j => T 200 0 j from funext fun j => fb47 200 0 j rfl, show U41 111 0 1 = T 111 0 1 from fb47 111 0 1 rfl] at qkb
                              obtain ⟨qab, eb, kb, hkb, hqb⟩ := qkb
                              have trb := tk9_r hkb
                              have e48 : U41 111 0 57 = U5 111 0 57 := (up_k hU41 (by exact Nat.ne_of_beq_eq_false rfl) 0 57).trans ((up_k hU38 (by exact Nat.ne_of_beq_eq_false rfl) 0 57).trans (up_k hU34 (by exact Nat.ne_of_beq_eq_false rfl) 0 57))
                              have e57 : U41 111 0 57 = ea := by omega
                              rw [e57] at hkb
                              have w4 : U46 204 0 4 = T2 204 0 4 + 1 := (fU46 204 0 4 rfl).trans v4
                              have e49 : U41 111 0 63 = U5 111 0 63 := (up_k hU41 (by exact Nat.ne_of_beq_eq_false rfl) 0 63).trans ((up_k hU38 (by exact Nat.ne_of_beq_eq_false rfl) 0 63).trans (up_k hU34 (by exact Nat.ne_of_beq_eq_false rfl) 0 63))
                              refine j_blx (F := fX11) tb_X11 (nn_ _) bk_X11_readOrder_e_188 bs_X11_readOrder_e_188 hz (fun K hK => ?_)
                              intro b50 b50b
                              refine And.intro (fun c51 => ?_) (fun c51 => ?_)
                              · refine hK 220 _ [] U46 ?_
                                refine j_blx (F := fX11) tb_X11 (nn_ _) bk_X11_readOrder_e_220 bs_X11_readOrder_e_220 hz (fun K hK => ?_)
                                intro b52 b52b
                                refine And.intro (fun c53 => ?_) (fun c53 => ?_)
                                · refine hK 232 _ [] U46 ?_
                                  refine j_blx (F := fX11) tb_X11 (nn_ _) bk_X11_readOrder_e_232 bs_X11_readOrder_e_232 hz (fun K hK => ?_)
                                  refine hK 40 [some (vR 111 0), some (vI 0), some (vI x22)] [] U46 ?_
                                  refine j_drop [some (vR 111 0), some (vI 0), none] (fun k v hk => ?_) rfl ?_
                                  · match k, hk with
                                    | 0, hk => exact hk
                                    | 1, hk => exact hk
                                    | 2, hk => cases hk
                                    | k + 3, hk => cases hk
                                  have e54 : U46 204 0 4 = (U38 204 0 4) + 1 := (fU46 204 0 4 rfl).trans (up_f hU41)
                                  refine ih_40 _ ?_ 0 (T2 204 0 4 + 1) (u9_ t x22 1) (u9_ (u9_ u (16 + T2 204 0 4) x22) 4 (T2 204 0 4 + 1)) U46 (Nat.le_refl _) ?_ ?_ ?_ ?_ ?_ ?_
                                  · have hm_40 := hm_40 (); omega
                                  · exact fr_t (fr_u (fr_u (fr_u (fr_t (fr_t (fr_0 _ _) (fr_s hf_40 rfl)) (fr_s fU5 rfl)) hU34 rfl) hU38 rfl) hU41 rfl) (fr_s fU46 rfl)
                                  · omega
                                  · refine Or.inl ⟨by omega, ir.trans ?_⟩
                                    rw [show U46 111 0 62 = 1 by omega, show U46 111 0 63 = U46 111 0 59 by omega]
                                    exact (orf9_s hwi hx0 hkb (by omega) (by omega)).trans (bn9_l (smf9_1 hkb (by omega) (by omega)))
                                  · exact fun z => absurd z (by omega)
                                  · exact fun z => absurd z (by omega)
                                  · exact fun z => absurd z (by omega)
                                · refine hK 233 [some (vR 111 0), some (vI mo), some (vI x22)] [vI 1] U46 ?_
                                  refine j_blx (F := fX11) tb_X11 (nn_ _) bk_X11_readOrder_e_233 bs_X11_readOrder_e_233 hz (fun K hK => ?_)
                                  refine hK 40 [some (vR 111 0), some (vI 1), some (vI x22)] [] U46 ?_
                                  refine j_drop [some (vR 111 0), some (vI 1), none] (fun k v hk => ?_) rfl ?_
                                  · match k, hk with
                                    | 0, hk => exact hk
                                    | 1, hk => exact hk
                                    | 2, hk => cases hk
                                    | k + 3, hk => cases hk
                                  have e55 : U46 204 0 4 = (U38 204 0 4) + 1 := (fU46 204 0 4 rfl).trans (up_f hU41)
                                  refine ih_40 _ ?_ 1 (T2 204 0 4 + 1) (u9_ t x22 1) (u9_ (u9_ u (16 + T2 204 0 4) x22) 4 (T2 204 0 4 + 1)) U46 (Nat.le_refl _) ?_ ?_ ?_ ?_ ?_ ?_
                                  · have hm_40 := hm_40 (); omega
                                  · exact fr_t (fr_u (fr_u (fr_u (fr_t (fr_t (fr_0 _ _) (fr_s hf_40 rfl)) (fr_s fU5 rfl)) hU34 rfl) hU38 rfl) hU41 rfl) (fr_s fU46 rfl)
                                  · omega
                                  · refine Or.inl ⟨by omega, ir.trans ?_⟩
                                    rw [show U46 111 0 62 = 1 by omega, show U46 111 0 63 = U46 111 0 59 by omega]
                                    exact (orf9_s hwi hx0 hkb (by omega) (by omega)).trans (bn9_l (smf9_1 hkb (by omega) (by omega)))
                                  · exact fun z => absurd z (by omega)
                                  · exact fun z => absurd z (by omega)
                                  · exact fun z => absurd z (by omega)
                              · intro b56 b56b
                                refine And.intro (fun c57 => ?_) (fun c57 => ?_)
                                · refine hK 220 _ [] U46 ?_
                                  refine j_blx (F := fX11) tb_X11 (nn_ _) bk_X11_readOrder_e_220 bs_X11_readOrder_e_220 hz (fun K hK => ?_)
                                  intro b58 b58b
                                  refine And.intro (fun c59 => ?_) (fun c59 => ?_)
                                  · refine hK 232 _ [] U46 ?_
                                    refine j_blx (F := fX11) tb_X11 (nn_ _) bk_X11_readOrder_e_232 bs_X11_readOrder_e_232 hz (fun K hK => ?_)
                                    refine hK 40 [some (vR 111 0), some (vI 0), some (vI x22)] [] U46 ?_
                                    refine j_drop [some (vR 111 0), some (vI 0), none] (fun k v hk => ?_) rfl ?_
                                    · match k, hk with
                                      | 0, hk => exact hk
                                      | 1, hk => exact hk
                                      | 2, hk => cases hk
                                      | k + 3, hk => cases hk
                                    have e60 : U46 204 0 4 = (U38 204 0 4) + 1 := (fU46 204 0 4 rfl).trans (up_f hU41)
                                    refine ih_40 _ ?_ 0 (T2 204 0 4 + 1) (u9_ t x22 1) (u9_ (u9_ u (16 + T2 204 0 4) x22) 4 (T2 204 0 4 + 1)) U46 (Nat.le_refl _) ?_ ?_ ?_ ?_ ?_ ?_
                                    · have hm_40 := hm_40 (); omega
                                    · exact fr_t (fr_u (fr_u (fr_u (fr_t (fr_t (fr_0 _ _) (fr_s hf_40 rfl)) (fr_s fU5 rfl)) hU34 rfl) hU38 rfl) hU41 rfl) (fr_s fU46 rfl)
                                    · omega
                                    · refine Or.inr (Or.inl ⟨by omega, rfl, ir.trans ?_⟩)
                                      rw [show U46 111 0 57 = eb by omega]
                                      exact (orf9_s hwi hx0 hkb (by omega) (by omega)).trans (bn9_r (smf9_0 hkb (by omega) (by omega)))
                                    · exact fun _ => VR9_f vr (show fr_ [(111, [57, 58, 59, 60, 61, 62, 63])] U41 U46 from fr_t (fr_0 _ _) (fr_s fU46 rfl)) (fun _ => rfl)
                                    · exact fun _ z => absurd z (by decide)
                                    · omega
                                  · exfalso; omega
                                · intro b61 b61b
                                  refine And.intro (fun c62 => ?_) (fun c62 => ?_)
                                  · refine hK 220 _ [] U46 ?_
                                    refine j_blx (F := fX11) tb_X11 (nn_ _) bk_X11_readOrder_e_220 bs_X11_readOrder_e_220 hz (fun K hK => ?_)
                                    intro b63 b63b
                                    refine And.intro (fun c64 => ?_) (fun c64 => ?_)
                                    · exfalso; omega
                                    · refine hK 233 _ [vI 1] U46 ?_
                                      refine j_blx (F := fX11) tb_X11 (nn_ _) bk_X11_readOrder_e_233 bs_X11_readOrder_e_233 hz (fun K hK => ?_)
                                      refine hK 40 [some (vR 111 0), some (vI 1), some (vI x22)] [] U46 ?_
                                      refine j_drop [some (vR 111 0), some (vI 1), none] (fun k v hk => ?_) rfl ?_
                                      · match k, hk with
                                        | 0, hk => exact hk
                                        | 1, hk => exact hk
                                        | 2, hk => cases hk
                                        | k + 3, hk => cases hk
                                      have e65 : U46 204 0 4 = (U38 204 0 4) + 1 := (fU46 204 0 4 rfl).trans (up_f hU41)
                                      refine ih_40 _ ?_ 1 (T2 204 0 4 + 1) (u9_ t x22 1) (u9_ (u9_ u (16 + T2 204 0 4) x22) 4 (T2 204 0 4 + 1)) U46 (Nat.le_refl _) ?_ ?_ ?_ ?_ ?_ ?_
                                      · have hm_40 := hm_40 (); omega
                                      · exact fr_t (fr_u (fr_u (fr_u (fr_t (fr_t (fr_0 _ _) (fr_s hf_40 rfl)) (fr_s fU5 rfl)) hU34 rfl) hU38 rfl) hU41 rfl) (fr_s fU46 rfl)
                                      · omega
                                      · refine Or.inr (Or.inr ⟨by omega, rfl, ir.trans ?_⟩)
                                        rw [show U46 111 0 57 = eb by omega, orf9_k hwi hx0 hkb (by omega) (by omega), show (8 - T2 204 0 4).toNat = (8 - (T2 204 0 4 + 1)).toNat + 1 by omega]
                                      · exact fun _ => VR9_f vr (show fr_ [(111, [57, 58, 59, 60, 61, 62, 63])] U41 U46 from fr_t (fr_0 _ _) (fr_s fU46 rfl)) (fun _ => rfl)
                                      · exact fun _ _ => ⟨by omega, ks9_s ik (by omega) (by omega) hx0, fun j a b => ((show fr_ [(111, [57, 58, 59, 60, 61, 62, 63])] U41 U46 from fr_t (fr_0 _ _) (fr_s fU46 rfl)) 270 0 j rfl).trans (kt j a b)⟩
                                      · omega
                                  · intro b66 b66b
                                    refine hK 217 _ [vI (U46 111 0 59), vI 2, vR 111 0] U46 ?_
                                    refine j_callV (y := yX11_bad) (Yc := zX11_bad) (rest := []) [vI 2, vI (U46 111 0 59)] (ct_X11_bad_e (T := U46) (by omega) (by omega)) cl_X11_281 (qd_c (by decide +kernel)) (nn_ _) rfl (rf_of rfl) (Nat.le_of_ble_eq_true rfl) (Nat.le_of_ble_eq_true rfl) (Nat.le_of_ble_eq_true rfl) rfl ?_
                                    rintro U67 _ ⟨rfl, fU67, qU67⟩
                                    show J_ zX11_readOrder T (po_X11_readOrder_e T v) 0 0 220 _ [] U67
                                    refine j_blx (F := fX11) tb_X11 (nn_ _) bk_X11_readOrder_e_220 bs_X11_readOrder_e_220 hz (fun K hK => ?_)
                                    intro b68 b68b
                                    have e69 : U67 111 0 58 = U46 111 0 58 := fU67 111 0 58 rfl
                                    rw [e69] at b68 b68b ⊢
                                    refine And.intro (fun c70 => ?_) (fun c70 => ?_)
                                    · refine hK 232 _ [] U67 ?_
                                      refine j_blx (F := fX11) tb_X11 (nn_ _) bk_X11_readOrder_e_232 bs_X11_readOrder_e_232 hz (fun K hK => ?_)
                                      refine hK 40 [some (vR 111 0), some (vI 0), some (vI x22)] [] U67 ?_
                                      refine j_drop [some (vR 111 0), some (vI 0), none] (fun k v hk => ?_) rfl ?_
                                      · match k, hk with
                                        | 0, hk => exact hk
                                        | 1, hk => exact hk
                                        | 2, hk => cases hk
                                        | k + 3, hk => cases hk
                                      have e71 : U67 111 0 57 = U46 111 0 57 := fU67 111 0 57 rfl
                                      have e72 : U67 204 0 4 = (U38 204 0 4) + 1 := (fU67 204 0 4 rfl).trans ((fU46 204 0 4 rfl).trans (up_f hU41))
                                      refine ih_40 _ ?_ 0 (T2 204 0 4 + 1) (u9_ t x22 1) (u9_ (u9_ u (16 + T2 204 0 4) x22) 4 (T2 204 0 4 + 1)) U67 (Nat.le_refl _) ?_ ?_ ?_ ?_ ?_ ?_
                                      · have hm_40 := hm_40 (); omega
                                      · exact fr_t (fr_t (fr_u (fr_u (fr_u (fr_t (fr_t (fr_0 _ _) (fr_s hf_40 rfl)) (fr_s fU5 rfl)) hU34 rfl) hU38 rfl) hU41 rfl) (fr_s fU46 rfl)) (fr_s fU67 rfl)
                                      · omega
                                      · refine Or.inl ⟨by omega, ir.trans ?_⟩
                                        rw [show U67 111 0 62 = 2 by omega, show U67 111 0 63 = U46 111 0 59 by omega]
                                        exact (orf9_s hwi hx0 hkb (by omega) (by omega)).trans (bn9_l (smf9_2 hkb (by omega) (by omega) (by omega)))
                                      · exact fun z => absurd z (by omega)
                                      · exact fun z => absurd z (by omega)
                                      · exact fun z => absurd z (by omega)
                                    · exfalso; omega
                          · have hx1 : t x22 ≠ 0 := by omega
                            intro b73 b73b
                            refine hK 142 _ [vI (U5 111 0 59), vI 5, vR 111 0] U5 ?_
                            refine j_callV (y := yX11_bad) (Yc := zX11_bad) (rest := []) [vI 5, vI (U5 111 0 59)] (ct_X11_bad_e (T := U5) (by omega) (by omega)) cl_X11_281 (qd_c (by decide +kernel)) (nn_ _) rfl (rf_of rfl) (Nat.le_of_ble_eq_true rfl) (Nat.le_of_ble_eq_true rfl) (Nat.le_of_ble_eq_true rfl) rfl ?_
                            rintro U74 _ ⟨rfl, fU74, qU74⟩
                            show J_ zX11_readOrder T (po_X11_readOrder_e T v) 0 0 145 _ [] U74
                            refine j_blx (F := fX11) tb_X11 (nn_ _) bk_X11_readOrder_e_145 bs_X11_readOrder_e_145 hz (fun K hK => ?_)
                            intro b75 b75b
                            refine And.intro (fun c76 => ?_) (fun c76 => ?_)
                            · refine hK 234 _ [] U74 ?_
                              refine j_blx (F := fX11) tb_X11 (nn_ _) bk_X11_readOrder_e_234 bs_X11_readOrder_e_234 hz (fun K hK => ?_)
                              refine hK 40 _ [] U74 ?_
                              refine j_drop [some (vR 111 0), some (vI mo), none] (fun k v hk => ?_) rfl ?_
                              · match k, hk with
                                | 0, hk => exact hk
                                | 1, hk => exact hk
                                | 2, hk => cases hk
                                | k + 3, hk => cases hk
                              have e77 : U74 111 0 57 = U5 111 0 57 := fU74 111 0 57 rfl
                              have e78 : U74 204 0 4 = T2 204 0 4 := (fU74 204 0 4 rfl).trans (fU5 204 0 4 rfl)
                              refine ih_40 _ ?_ mo (T2 204 0 4 + 1) t u U74 (Nat.le_refl _) ?_ ?_ ?_ ?_ ?_ ?_
                              · have hm_40 := hm_40 (); omega
                              · exact fr_t (fr_t (fr_t (fr_0 _ _) (fr_s hf_40 rfl)) (fr_s fU5 rfl)) (fr_s fU74 rfl)
                              · omega
                              · refine Or.inl ⟨by omega, ir.trans ?_⟩
                                rw [show U74 111 0 62 = 5 by omega, show U74 111 0 63 = U5 111 0 59 by omega]
                                exact orf9_5 hwi hka (by omega) hx1
                              · exact fun z => absurd z (by omega)
                              · exact fun z => absurd z (by omega)
                              · exact fun z => absurd z (by omega)
                            · exfalso; omega
                      · have ee : U5 111 0 60 = ea := by omega
                        have hwn := wx22
                        have ew : x22 = -1 := by omega
                        rw [ee, ew] at hwn
                        intro b79 b79b
                        refine hK 117 _ [vI (U5 111 0 59), vI 3, vR 111 0] U5 ?_
                        refine j_callV (y := yX11_bad) (Yc := zX11_bad) (rest := []) [vI 3, vI (U5 111 0 59)] (ct_X11_bad_e (T := U5) (by omega) (by omega)) cl_X11_281 (qd_c (by decide +kernel)) (nn_ _) rfl (rf_of rfl) (Nat.le_of_ble_eq_true rfl) (Nat.le_of_ble_eq_true rfl) (Nat.le_of_ble_eq_true rfl) rfl ?_
                        rintro U80 _ ⟨rfl, fU80, qU80⟩
                        show J_ zX11_readOrder T (po_X11_readOrder_e T v) 0 0 120 _ [] U80
                        refine j_blx (F := fX11) tb_X11 (nn_ _) bk_X11_readOrder_e_120 bs_X11_readOrder_e_120 hz (fun K hK => ?_)
                        intro b81 b81b
                        refine And.intro (fun c82 => ?_) (fun c82 => ?_)
                        · refine hK 145 _ [] U80 ?_
                          refine j_blx (F := fX11) tb_X11 (nn_ _) bk_X11_readOrder_e_145 bs_X11_readOrder_e_145 hz (fun K hK => ?_)
                          intro b83 b83b
                          refine And.intro (fun c84 => ?_) (fun c84 => ?_)
                          · refine hK 234 _ [] U80 ?_
                            refine j_blx (F := fX11) tb_X11 (nn_ _) bk_X11_readOrder_e_234 bs_X11_readOrder_e_234 hz (fun K hK => ?_)
                            refine hK 40 _ [] U80 ?_
                            refine j_drop [some (vR 111 0), some (vI mo), none] (fun k v hk => ?_) rfl ?_
                            · match k, hk with
                              | 0, hk => exact hk
                              | 1, hk => exact hk
                              | 2, hk => cases hk
                              | k + 3, hk => cases hk
                            have e85 : U80 111 0 57 = U5 111 0 57 := fU80 111 0 57 rfl
                            have e86 : U80 204 0 4 = T2 204 0 4 := (fU80 204 0 4 rfl).trans (fU5 204 0 4 rfl)
                            refine ih_40 _ ?_ mo (T2 204 0 4 + 1) t u U80 (Nat.le_refl _) ?_ ?_ ?_ ?_ ?_ ?_
                            · have hm_40 := hm_40 (); omega
                            · exact fr_t (fr_t (fr_t (fr_0 _ _) (fr_s hf_40 rfl)) (fr_s fU5 rfl)) (fr_s fU80 rfl)
                            · omega
                            · refine Or.inl ⟨by omega, ir.trans ?_⟩
                              rw [show U80 111 0 62 = 3 by omega, show U80 111 0 63 = U5 111 0 59 by omega]
                              exact orf9_w (wof9_3 ds9_2 hka (by omega) (by omega) hwn)
                            · exact fun z => absurd z (by omega)
                            · exact fun z => absurd z (by omega)
                            · exact fun z => absurd z (by omega)
                          · exfalso; omega
                        · exfalso; omega
                · intro b87 b87b
                  refine hK 76 _ [vI (U5 111 0 59), vI 2, vR 111 0] U5 ?_
                  refine j_callV (y := yX11_bad) (Yc := zX11_bad) (rest := []) [vI 2, vI (U5 111 0 59)] (ct_X11_bad_e (T := U5) (by omega) (by omega)) cl_X11_281 (qd_c (by decide +kernel)) (nn_ _) rfl (rf_of rfl) (Nat.le_of_ble_eq_true rfl) (Nat.le_of_ble_eq_true rfl) (Nat.le_of_ble_eq_true rfl) rfl ?_
                  rintro U88 _ ⟨rfl, fU88, qU88⟩
                  show J_ zX11_readOrder T (po_X11_readOrder_e T v) 0 0 79 _ [] U88
                  refine j_blx (F := fX11) tb_X11 (nn_ _) bk_X11_readOrder_e_79 bs_X11_readOrder_e_79 hz (fun K hK => ?_)
                  intro b89 b89b
                  refine And.intro (fun c90 => ?_) (fun c90 => ?_)
                  · refine hK 97 _ [] U88 ?_
                    refine j_blx (F := fX11) tb_X11 (nn_ _) bk_X11_readOrder_e_97 bs_X11_readOrder_e_97 hz (fun K hK => ?_)
                    intro b91 b91b
                    refine And.intro (fun c92 => ?_) (fun c92 => ?_)
                    · refine hK 120 [some (vR 111 0), some (vI mo), some (vI (-1))] [] U88 ?_
                      refine j_blx (F := fX11) tb_X11 (nn_ _) bk_X11_readOrder_e_120 bs_X11_readOrder_e_120 hz (fun K hK => ?_)
                      intro b93 b93b
                      refine And.intro (fun c94 => ?_) (fun c94 => ?_)
                      · refine hK 145 _ [] U88 ?_
                        refine j_blx (F := fX11) tb_X11 (nn_ _) bk_X11_readOrder_e_145 bs_X11_readOrder_e_145 hz (fun K hK => ?_)
                        intro b95 b95b
                        refine And.intro (fun c96 => ?_) (fun c96 => ?_)
                        · refine hK 234 _ [] U88 ?_
                          refine j_blx (F := fX11) tb_X11 (nn_ _) bk_X11_readOrder_e_234 bs_X11_readOrder_e_234 hz (fun K hK => ?_)
                          refine hK 40 _ [] U88 ?_
                          refine j_drop [some (vR 111 0), some (vI mo), none] (fun k v hk => ?_) rfl ?_
                          · match k, hk with
                            | 0, hk => exact hk
                            | 1, hk => exact hk
                            | 2, hk => cases hk
                            | k + 3, hk => cases hk
                          have e97 : U88 111 0 57 = U5 111 0 57 := fU88 111 0 57 rfl
                          have e98 : U88 204 0 4 = T2 204 0 4 := (fU88 204 0 4 rfl).trans (fU5 204 0 4 rfl)
                          refine ih_40 _ ?_ mo (T2 204 0 4 + 1) t u U88 (Nat.le_refl _) ?_ ?_ ?_ ?_ ?_ ?_
                          · have hm_40 := hm_40 (); omega
                          · exact fr_t (fr_t (fr_t (fr_0 _ _) (fr_s hf_40 rfl)) (fr_s fU5 rfl)) (fr_s fU88 rfl)
                          · omega
                          · refine Or.inl ⟨by omega, ir.trans ?_⟩
                            rw [show U88 111 0 62 = 2 by omega, show U88 111 0 63 = U5 111 0 59 by omega]
                            exact orf9_w (wof9_2 hka (by omega) (by omega) (by omega))
                          · exact fun z => absurd z (by omega)
                          · exact fun z => absurd z (by omega)
                          · exact fun z => absurd z (by omega)
                        · exfalso; omega
                      · exfalso; omega
                    · exfalso; omega
                  · exfalso; omega
      refine j_blx (F := fX11) tb_X11 (nn_ _) bk_X11_readOrder_e_2 bs_X11_readOrder_e_2 hz (fun K hK => ?_)
      refine And.intro (fun c99 => ?_) (fun c99 => ?_)
      · refine hK 31 _ [] T1 ?_
        refine j_blx (F := fX11) tb_X11 (nn_ _) bk_X11_readOrder_e_31 bs_X11_readOrder_e_31 hz (fun K hK => ?_)
        refine iy_i (by omega) (by omega) ?_
        refine x_nm (fun U100 hU100 => ?_)
        have e101 := up_f hU100
        refine hK 40 [some (vR 111 0), some (vI 1), none] [] U100 ?_
        have e102 : U100 111 0 62 = T 111 0 62 := (up_k hU100 (by exact Nat.ne_of_beq_eq_false rfl) 0 62).trans (hf_2 111 0 62 rfl)
        have e103 : U100 111 0 63 = T 111 0 63 := (up_k hU100 (by exact Nat.ne_of_beq_eq_false rfl) 0 63).trans (hf_2 111 0 63 rfl)
        have e104 : U100 111 0 57 = T 111 0 57 := (up_k hU100 (by exact Nat.ne_of_beq_eq_false rfl) 0 57).trans (hf_2 111 0 57 rfl)
        have e105 : U100 204 0 4 = 0 := up_f hU100
        refine c_40 _ 1 0 (fun _ => 0) (ov9_ v) U100 (Nat.le_refl _) ?_ ?_ ?_ ?_ ?_ ?_
        · exact fr_u (fr_t (fr_0 _ _) (fr_s hf_2 rfl)) hU100 rfl
        · omega
        · refine Or.inr (Or.inr ⟨by omega, rfl, ?_⟩)
          rw [show (((8 : Int) - 0).toNat + 1) = 9 from rfl, show U100 111 0 57 = T 111 0 57 by omega]
        · have z7 : k = 7 := by omega
          rw [z7] at l2
          exact fun _ => vw9_e l2 (fun j hj => up_g hU100 (fun z => hj z.2.2)) (up_f hU100)
        · exact fun _ _ => ⟨by omega, ks9_0, fun j a b => (up_k hU100 (by exact Nat.ne_of_beq_eq_false rfl) 0 j).trans (l1 j a (by omega))⟩
        · omega
      · refine iy_i (by omega) (by omega) ?_
        refine x_nm (fun U106 hU106 => ?_)
        have e107 := up_f hU106
        refine rg_i (by omega) ?_
        refine iy_i (by omega) (by omega) ?_
        refine x_nm (fun U108 hU108 => ?_)
        have e109 := up_f hU108
        refine rg_i (by omega) ?_
        refine hK 2 [some (vR 111 0), some (vI (k + 1)), none] [] U108 ?_
        refine ih_2 _ ?_ (k + 1) U108 (Nat.le_refl _) ?_ ?_ ?_ ?_
        · have hm_2 := hm_2 (); omega
        · exact fr_u (fr_u (fr_t (fr_0 _ _) (fr_s hf_2 rfl)) hU106 rfl) hU108 rfl
        · omega
        · intro j a b
          rw [up_k hU108 (by exact Nat.ne_of_beq_eq_false rfl)]
          by_cases z : j = k
          · subst z; exact up_f hU106
          · rw [up_g hU106 (by omega)]; exact l1 j a (by omega)
        · exact vw9_s l2 (by omega) (fun j hj => (up_g hU108 (fun z => hj z.2.2)).trans (up_k hU106 (by exact Nat.ne_of_beq_eq_false rfl) 0 j)) (up_f hU108)
  refine j_blx (F := fX11) tb_X11 (nn_ _) bk_X11_readOrder_e_0 bs_X11_readOrder_e_0 hz (fun K hK => ?_)
  refine hK 2 [some (vR 111 0), some (vI 0), none] [] T ?_
  refine c_2 _ 0 T (Nat.le_refl _) ?_ ?_ ?_ ?_
  · exact fr_0 _ _
  · omega
  · intro j a b; omega
  · exact vw9_0 hv
