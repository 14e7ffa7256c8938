theorem bk_X11_standAgainst_f_25 : ck_ fX11 (some .boolean) cX11_standAgainst 25 [.iconst 0, .ireturn] 27 = true := qck_r (nn_ _) (by decide +kernel)
theorem bs_X11_standAgainst_f_25 {P : Zt → Option Zv → Prop} (K : Int → Zl → List Zv → Zt → Prop) : sx_ K P [.iconst 0, .ireturn] 27 = x_iconst 0 (x_ireturn P) := ((xe_iconst 0).trans (congrArg (x_iconst 0) (xe_ireturn)))
theorem bk_X11_standAgainst_f_27 : ck_ fX11 (some .boolean) cX11_standAgainst 27 [.aload 0, .aload 0, .tableswitch 0 11 30 #[], .iload 1, .iaload, .iconst 8] 36 = true := qck_r (nn_ _) (by decide +kernel)
theorem bs_X11_standAgainst_f_27 {P : Zt → Option Zv → Prop} (K : Int → Zl → List Zv → Zt → Prop) : sx_ K P [.aload 0, .aload 0, .tableswitch 0 11 30 #[], .iload 1, .iaload, .iconst 8] 36 = x_aload 0 (x_aload 0 (x_g1 111 230 (x_iload 1 (x_iaload (x_iconst 8 (K 36)))))) := ((xe_aload 0).trans (congrArg (x_aload 0) ((xe_aload 0).trans (congrArg (x_aload 0) ((xe_g1 (kk := 111) rfl tl_11_30).trans (congrArg (x_g1 111 230) ((xe_iload 1).trans (congrArg (x_iload 1) ((xe_iaload).trans (congrArg (x_iaload) ((xe_iconst 8).trans (congrArg (x_iconst 8) xe_nil))))))))))))
theorem bk_X11_standAgainst_f_39 : ck_ fX11 (some .boolean) cX11_standAgainst 39 [.aload 0, .aload 0, .tableswitch 0 11 30 #[], .iload 2, .iaload, .iconst 8] 48 = true := qck_r (nn_ _) (by decide +kernel)
theorem bs_X11_standAgainst_f_39 {P : Zt → Option Zv → Prop} (K : Int → Zl → List Zv → Zt → Prop) : sx_ K P [.aload 0, .aload 0, .tableswitch 0 11 30 #[], .iload 2, .iaload, .iconst 8] 48 = x_aload 0 (x_aload 0 (x_g1 111 230 (x_iload 2 (x_iaload (x_iconst 8 (K 48)))))) := ((xe_aload 0).trans (congrArg (x_aload 0) ((xe_aload 0).trans (congrArg (x_aload 0) ((xe_g1 (kk := 111) rfl tl_11_30).trans (congrArg (x_g1 111 230) ((xe_iload 2).trans (congrArg (x_iload 2) ((xe_iaload).trans (congrArg (x_iaload) ((xe_iconst 8).trans (congrArg (x_iconst 8) xe_nil))))))))))))
theorem bk_X11_standAgainst_f_51 : ck_ fX11 (some .boolean) cX11_standAgainst 51 [.if_icmp .le 69, .aload 0, .aload 0, .tableswitch 0 11 30 #[], .iload 1, .iaload, .iconst 8] 63 = true := qck_r (nn_ _) (by decide +kernel)
theorem bs_X11_standAgainst_f_51 {P : Zt → Option Zv → Prop} (K : Int → Zl → List Zv → Zt → Prop) : sx_ K P [.if_icmp .le 69, .aload 0, .aload 0, .tableswitch 0 11 30 #[], .iload 1, .iaload, .iconst 8] 63 = x_if_icmp .le 69 K (x_aload 0 (x_aload 0 (x_g1 111 230 (x_iload 1 (x_iaload (x_iconst 8 (K 63))))))) := ((xe_if_icmp .le 69).trans (congrArg (x_if_icmp .le 69 K) ((xe_aload 0).trans (congrArg (x_aload 0) ((xe_aload 0).trans (congrArg (x_aload 0) ((xe_g1 (kk := 111) rfl tl_11_30).trans (congrArg (x_g1 111 230) ((xe_iload 1).trans (congrArg (x_iload 1) ((xe_iaload).trans (congrArg (x_iaload) ((xe_iconst 8).trans (congrArg (x_iconst 8) xe_nil))))))))))))))
theorem bk_X11_standAgainst_f_69 : ck_ fX11 (some .boolean) cX11_standAgainst 69 [.aload 0, .aload 0, .tableswitch 0 11 30 #[], .iload 2, .iaload, .iconst 8] 78 = true := qck_r (nn_ _) (by decide +kernel)
theorem bs_X11_standAgainst_f_69 {P : Zt → Option Zv → Prop} (K : Int → Zl → List Zv → Zt → Prop) : sx_ K P [.aload 0, .aload 0, .tableswitch 0 11 30 #[], .iload 2, .iaload, .iconst 8] 78 = x_aload 0 (x_aload 0 (x_g1 111 230 (x_iload 2 (x_iaload (x_iconst 8 (K 78)))))) := ((xe_aload 0).trans (congrArg (x_aload 0) ((xe_aload 0).trans (congrArg (x_aload 0) ((xe_g1 (kk := 111) rfl tl_11_30).trans (congrArg (x_g1 111 230) ((xe_iload 2).trans (congrArg (x_iload 2) ((xe_iaload).trans (congrArg (x_iaload) ((xe_iconst 8).trans (congrArg (x_iconst 8) xe_nil))))))))))))
theorem bk_X11_standAgainst_f_66 : ck_ fX11 (some .boolean) cX11_standAgainst 66 [.goto 81] 69 = true := qck_r (nn_ _) (by decide +kernel)
theorem bs_X11_standAgainst_f_66 {P : Zt → Option Zv → Prop} (K : Int → Zl → List Zv → Zt → Prop) : sx_ K P [.goto 81] 69 = x_goto 81 K := (xe_goto 81)
abbrev po_X11_standAgainst_f (T : Zt) (a b : Int) : Zt → Option Zv → Prop := fun T' r => T = T' ∧ ∃ x : Int, r = some (vI x) ∧ ((x = 1 ∧ SAR_ T (fun m => T 234 0 m) a b (T 234 0 a)) ∨ (x = 0 ∧ ¬ SAR_ T (fun m => T 234 0 m) a b (T 234 0 a)))
set_option maxHeartbeats 4000000 in
theorem ct_X11_standAgainst_f {T : Zt} {a b : Int} (h1 : 0 ≤ a ∧ a < 400) (h2 : 0 ≤ b ∧ b < 400) : Ct_ yX11_standAgainst zX11_standAgainst T [vR 111 0, vI a, vI b] (po_X11_standAgainst_f T a b) := by
  refine ct_of pn_11 rfl rfl (Nat.le_of_ble_eq_true rfl) (fun hT hav => ?_)
  have hr_a : -2147483648 ≤ a ∧ a ≤ 2147483647 := hav (vI a) (List.mem_cons_of_mem _ List.mem_cons_self)
  have hr_b : -2147483648 ≤ b ∧ b ≤ 2147483647 := hav (vI b) (List.mem_cons_of_mem _ (List.mem_cons_of_mem _ List.mem_cons_self))
  have hz : zX11_standAgainst.2.2.2.1 = some .boolean → ∀ (T' : Zt) (x : Int), po_X11_standAgainst_f T a b T' (some (vI x)) → 0 ≤ x ∧ x ≤ 1 := fun _ T' x h => by obtain ⟨-, y, e, hy⟩ := h; cases e; omega
  show J_ zX11_standAgainst T (po_X11_standAgainst_f T a b) 0 0 0 [some (vR 111 0), some (vI a), some (vI b), none, none] [] T
  have c_81 : ∀ (rs : Int), (a ≠ b ∧ T 235 0 a ≠ 3 ∧ T 235 0 b ≠ 3) → ((rs = T 205 0 (23 * T 230 0 a + 8) ∨ rs = T 205 0 (23 * T 230 0 b + 8)) ∧ T 205 0 (23 * T 230 0 a + 8) ≤ rs ∧ T 205 0 (23 * T 230 0 b + 8) ≤ rs) → J_ zX11_standAgainst T (po_X11_standAgainst_f T a b) 0 0 81 [some (vR 111 0), some (vI a), some (vI b), none, none] [vI rs] T := by
    intro rs r0 r1
    have c_126 : ∀ (fa : Int), ((fa = T 234 0 a - T 234 0 b ∨ fa = T 234 0 b - T 234 0 a) ∧ 0 ≤ fa) → J_ zX11_standAgainst T (po_X11_standAgainst_f T a b) 0 0 126 [some (vR 111 0), some (vI a), some (vI b), some (vI rs), none] [vI fa] T := by
      intro fa f1
      refine j_blx (F := fX11) tb_X11 (nn_ _) bk_X11_standAgainst_f_126 bs_X11_standAgainst_f_126 hz (fun K hK => ?_)
      refine And.intro (fun c1 => ?_) (fun c1 => ?_)
      · refine hK 143 [some (vR 111 0), some (vI a), some (vI b), some (vI rs), some (vI fa)] [] T ?_
        refine j_blx (F := fX11) tb_X11 (nn_ _) bk_X11_standAgainst_f_143 bs_X11_standAgainst_f_143 hz (fun K hK => ?_)
        refine And.intro (fun c2 => ?_) (fun c2 => ?_)
        · refine hK 177 _ [] T ?_
          refine j_blx (F := fX11) tb_X11 (nn_ _) bk_X11_standAgainst_f_177 bs_X11_standAgainst_f_177 hz (fun K hK => ?_)
          refine (show po_X11_standAgainst_f T a b T (some (vI 0)) from ?_)
          exact ⟨rfl, _, rfl, Or.inr ⟨rfl, by unfold SAR_ SAG_ sqR_ hqR_ rsR_ abR_; dsimp only; omega⟩⟩
        · refine ix_i (by omega) ?_
          intro b3 b3b
          refine ix_i (by omega) ?_
          intro b4 b4b
          refine ix_i (by omega) ?_
          intro b5 b5b
          refine ix_i (by omega) ?_
          intro b6 b6b
          refine And.intro (fun c7 => ?_) (fun c7 => ?_)
          · refine hK 177 _ [] T ?_
            refine j_blx (F := fX11) tb_X11 (nn_ _) bk_X11_standAgainst_f_177 bs_X11_standAgainst_f_177 hz (fun K hK => ?_)
            refine (show po_X11_standAgainst_f T a b T (some (vI 0)) from ?_)
            exact ⟨rfl, _, rfl, Or.inr ⟨rfl, by unfold SAR_ SAG_ sqR_ hqR_ rsR_ abR_; dsimp only; omega⟩⟩
          · refine hK 178 _ [vI 1] T ?_
            refine j_blx (F := fX11) tb_X11 (nn_ _) bk_X11_standAgainst_f_178 bs_X11_standAgainst_f_178 hz (fun K hK => ?_)
            refine (show po_X11_standAgainst_f T a b T (some (vI 1)) from ?_)
            exact ⟨rfl, _, rfl, Or.inl ⟨rfl, by unfold SAR_ SAG_ sqR_ hqR_ rsR_ abR_; dsimp only; omega⟩⟩
      · refine hK 137 _ [vI b, vI a, vR 111 0] T ?_
        refine j_callV (y := yX11_shareClub) (Yc := zX11_shareClub) (rest := []) [vI a, vI b] (ct_X11_shareClub_f (T := T) (by omega) (by omega)) cl_X11_350 (qd_c (by decide +kernel)) (nn_ _) rfl (rf_of rfl) (Nat.le_of_ble_eq_true rfl) (Nat.le_of_ble_eq_true rfl) (Nat.le_of_ble_eq_true rfl) rfl ?_
        rintro _ _ ⟨rfl, x8, rfl, hx8⟩
        show J_ zX11_standAgainst T (po_X11_standAgainst_f T a b) 0 0 140 _ [vI x8] T
        refine j_blx (F := fX11) tb_X11 (nn_ _) bk_X11_standAgainst_f_140 bs_X11_standAgainst_f_140 hz (fun K hK => ?_)
        refine And.intro (fun c9 => ?_) (fun c9 => ?_)
        · replace hx8 := hx8.resolve_right (fun z => c9 z.1)
          clear c9
          refine hK 173 _ [] T ?_
          refine j_blx (F := fX11) tb_X11 (nn_ _) bk_X11_standAgainst_f_173 bs_X11_standAgainst_f_173 hz (fun K hK => ?_)
          refine hK 178 _ [vI 1] T ?_
          refine j_blx (F := fX11) tb_X11 (nn_ _) bk_X11_standAgainst_f_178 bs_X11_standAgainst_f_178 hz (fun K hK => ?_)
          refine (show po_X11_standAgainst_f T a b T (some (vI 1)) from ?_)
          exact ⟨rfl, _, rfl, Or.inl ⟨rfl, by unfold SAR_ SAG_ sqR_ hqR_ rsR_ abR_; dsimp only; omega⟩⟩
        · replace hx8 := hx8.resolve_left (fun z => absurd (c9.symm.trans z.1) (by decide))
          clear c9
          refine And.intro (fun c10 => ?_) (fun c10 => ?_)
          · refine hK 177 _ [] T ?_
            refine j_blx (F := fX11) tb_X11 (nn_ _) bk_X11_standAgainst_f_177 bs_X11_standAgainst_f_177 hz (fun K hK => ?_)
            refine (show po_X11_standAgainst_f T a b T (some (vI 0)) from ?_)
            exact ⟨rfl, _, rfl, Or.inr ⟨rfl, by unfold SAR_ SAG_ sqR_ hqR_ rsR_ abR_; dsimp only; omega⟩⟩
          · refine ix_i (by omega) ?_
            intro b11 b11b
            refine ix_i (by omega) ?_
            intro b12 b12b
            refine ix_i (by omega) ?_
            intro b13 b13b
            refine ix_i (by omega) ?_
            intro b14 b14b
            refine And.intro (fun c15 => ?_) (fun c15 => ?_)
            · refine hK 177 _ [] T ?_
              refine j_blx (F := fX11) tb_X11 (nn_ _) bk_X11_standAgainst_f_177 bs_X11_standAgainst_f_177 hz (fun K hK => ?_)
              refine (show po_X11_standAgainst_f T a b T (some (vI 0)) from ?_)
              exact ⟨rfl, _, rfl, Or.inr ⟨rfl, by unfold SAR_ SAG_ sqR_ hqR_ rsR_ abR_; dsimp only; omega⟩⟩
            · refine hK 178 _ [vI 1] T ?_
              refine j_blx (F := fX11) tb_X11 (nn_ _) bk_X11_standAgainst_f_178 bs_X11_standAgainst_f_178 hz (fun K hK => ?_)
              refine (show po_X11_standAgainst_f T a b T (some (vI 1)) from ?_)
              exact ⟨rfl, _, rfl, Or.inl ⟨rfl, by unfold SAR_ SAG_ sqR_ hqR_ rsR_ abR_; dsimp only; omega⟩⟩
    refine j_blx (F := fX11) tb_X11 (nn_ _) bk_X11_standAgainst_f_81 bs_X11_standAgainst_f_81 hz (fun K hK => ?_)
    refine ix_i (by omega) ?_
    intro b16 b16b
    refine ix_i (by omega) ?_
    intro b17 b17b
    refine And.intro (fun c18 => ?_) (fun c18 => ?_)
    · refine hK 113 [some (vR 111 0), some (vI a), some (vI b), some (vI rs), none] [] T ?_
      refine j_blx (F := fX11) tb_X11 (nn_ _) bk_X11_standAgainst_f_113 bs_X11_standAgainst_f_113 hz (fun K hK => ?_)
      refine ix_i (by omega) ?_
      intro b19 b19b
      refine ix_i (by omega) ?_
      intro b20 b20b
      refine rg_i (by omega) ?_
      refine hK 126 _ [vI ((T 234 0 b) - (T 234 0 a))] T ?_
      refine c_126 ((T 234 0 b) - (T 234 0 a)) ?_
      · omega
    · refine ix_i (by omega) ?_
      intro b21 b21b
      refine ix_i (by omega) ?_
      intro b22 b22b
      refine rg_i (by omega) ?_
      refine hK 126 _ [vI ((T 234 0 a) - (T 234 0 b))] T ?_
      refine c_126 ((T 234 0 a) - (T 234 0 b)) ?_
      · omega
  refine j_blx (F := fX11) tb_X11 (nn_ _) bk_X11_standAgainst_f_0 bs_X11_standAgainst_f_0 hz (fun K hK => ?_)
  refine And.intro (fun c23 => ?_) (fun c23 => ?_)
  · refine hK 25 _ [] T ?_
    refine j_blx (F := fX11) tb_X11 (nn_ _) bk_X11_standAgainst_f_25 bs_X11_standAgainst_f_25 hz (fun K hK => ?_)
    refine (show po_X11_standAgainst_f T a b T (some (vI 0)) from ?_)
    exact ⟨rfl, _, rfl, Or.inr ⟨rfl, by unfold SAR_ SAG_ sqR_ hqR_ rsR_ abR_; dsimp only; omega⟩⟩
  · refine ix_i (by omega) ?_
    intro b24 b24b
    refine And.intro (fun c25 => ?_) (fun c25 => ?_)
    · refine hK 25 _ [] T ?_
      refine j_blx (F := fX11) tb_X11 (nn_ _) bk_X11_standAgainst_f_25 bs_X11_standAgainst_f_25 hz (fun K hK => ?_)
      refine (show po_X11_standAgainst_f T a b T (some (vI 0)) from ?_)
      exact ⟨rfl, _, rfl, Or.inr ⟨rfl, by unfold SAR_ SAG_ sqR_ hqR_ rsR_ abR_; dsimp only; omega⟩⟩
    · refine ix_i (by omega) ?_
      intro b26 b26b
      refine And.intro (fun c27 => ?_) (fun c27 => ?_)
      · refine hK 27 _ [] T ?_
        refine j_blx (F := fX11) tb_X11 (nn_ _) bk_X11_standAgainst_f_27 bs_X11_standAgainst_f_27 hz (fun K hK => ?_)
        refine ix_i (by omega) ?_
        intro b28 b28b
        refine hK 36 _ [vI 8, vI (T 230 0 a), vR 111 0] T ?_
        refine j_callV (y := yX11_rule0) (Yc := zX11_rule0) (rest := []) [vI (T 230 0 a), vI 8] (ct_X11_rule0 (T := T) (by omega) (by omega)) cl_X11_321 (qd_c (by decide +kernel)) (nn_ _) rfl (rf_of rfl) (Nat.le_of_ble_eq_true rfl) (Nat.le_of_ble_eq_true rfl) (Nat.le_of_ble_eq_true rfl) rfl ?_
        rintro _ _ ⟨rfl, rfl⟩
        show J_ zX11_standAgainst T (po_X11_standAgainst_f T a b) 0 0 39 _ [vI (T 205 0 (23 * (T 230 0 a) + 8))] T
        refine j_blx (F := fX11) tb_X11 (nn_ _) bk_X11_standAgainst_f_39 bs_X11_standAgainst_f_39 hz (fun K hK => ?_)
        refine ix_i (by omega) ?_
        intro b29 b29b
        refine hK 48 _ [vI 8, vI (T 230 0 b), vR 111 0, vI (T 205 0 (23 * (T 230 0 a) + 8))] T ?_
        refine j_callV (y := yX11_rule0) (Yc := zX11_rule0) (rest := [vI (T 205 0 (23 * (T 230 0 a) + 8))]) [vI (T 230 0 b), vI 8] (ct_X11_rule0 (T := T) (by omega) (by omega)) cl_X11_321 (qd_c (by decide +kernel)) (nn_ _) rfl (rf_of rfl) (Nat.le_of_ble_eq_true rfl) (Nat.le_of_ble_eq_true rfl) (Nat.le_of_ble_eq_true rfl) rfl ?_
        rintro _ _ ⟨rfl, rfl⟩
        show J_ zX11_standAgainst T (po_X11_standAgainst_f T a b) 0 0 51 _ [vI (T 205 0 (23 * (T 230 0 b) + 8)), vI (T 205 0 (23 * (T 230 0 a) + 8))] T
        refine j_blx (F := fX11) tb_X11 (nn_ _) bk_X11_standAgainst_f_51 bs_X11_standAgainst_f_51 hz (fun K hK => ?_)
        refine And.intro (fun c30 => ?_) (fun c30 => ?_)
        · refine hK 69 _ [] T ?_
          refine j_blx (F := fX11) tb_X11 (nn_ _) bk_X11_standAgainst_f_69 bs_X11_standAgainst_f_69 hz (fun K hK => ?_)
          refine ix_i (by omega) ?_
          intro b31 b31b
          refine hK 78 _ [vI 8, vI (T 230 0 b), vR 111 0] T ?_
          refine j_callV (y := yX11_rule0) (Yc := zX11_rule0) (rest := []) [vI (T 230 0 b), vI 8] (ct_X11_rule0 (T := T) (by omega) (by omega)) cl_X11_321 (qd_c (by decide +kernel)) (nn_ _) rfl (rf_of rfl) (Nat.le_of_ble_eq_true rfl) (Nat.le_of_ble_eq_true rfl) (Nat.le_of_ble_eq_true rfl) rfl ?_
          rintro _ _ ⟨rfl, rfl⟩
          show J_ zX11_standAgainst T (po_X11_standAgainst_f T a b) 0 0 81 _ [vI (T 205 0 (23 * (T 230 0 b) + 8))] T
          refine c_81 (T 205 0 (23 * (T 230 0 b) + 8)) ?_ ?_
          · omega
          · omega
        · refine ix_i (by omega) ?_
          intro b32 b32b
          refine hK 63 _ [vI 8, vI (T 230 0 a), vR 111 0] T ?_
          refine j_callV (y := yX11_rule0) (Yc := zX11_rule0) (rest := []) [vI (T 230 0 a), vI 8] (ct_X11_rule0 (T := T) (by omega) (by omega)) cl_X11_321 (qd_c (by decide +kernel)) (nn_ _) rfl (rf_of rfl) (Nat.le_of_ble_eq_true rfl) (Nat.le_of_ble_eq_true rfl) (Nat.le_of_ble_eq_true rfl) rfl ?_
          rintro _ _ ⟨rfl, rfl⟩
          show J_ zX11_standAgainst T (po_X11_standAgainst_f T a b) 0 0 66 _ [vI (T 205 0 (23 * (T 230 0 a) + 8))] T
          refine j_blx (F := fX11) tb_X11 (nn_ _) bk_X11_standAgainst_f_66 bs_X11_standAgainst_f_66 hz (fun K hK => ?_)
          refine hK 81 _ [vI (T 205 0 (23 * (T 230 0 a) + 8))] T ?_
          refine c_81 (T 205 0 (23 * (T 230 0 a) + 8)) ?_ ?_
          · omega
          · omega
      · refine (show po_X11_standAgainst_f T a b T (some (vI 0)) from ?_)
        exact ⟨rfl, _, rfl, Or.inr ⟨rfl, by unfold SAR_ SAG_ sqR_ hqR_ rsR_ abR_; dsimp only; omega⟩⟩
