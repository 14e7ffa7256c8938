theorem bk_X11_enter_e_0 : ck_ fX11 (some .int) cX11_enter 0 [.iload 1, .aload 0, .tableswitch 0 11 6 #[]] 5 = true := qck_r (nn_ _) (by decide +kernel)
theorem bs_X11_enter_e_0 {P : Zt → Option Zv → Prop} (K : Int → Zl → List Zv → Zt → Prop) : sx_ K P [.iload 1, .aload 0, .tableswitch 0 11 6 #[]] 5 = x_iload 1 (x_aload 0 (x_g0 111 6 0 4 (K 5))) := ((xe_iload 1).trans (congrArg (x_iload 1) ((xe_aload 0).trans (congrArg (x_aload 0) ((xe_g0 (kk := 111) rfl tl_11_6).trans (congrArg (x_g0 111 6 0 4) xe_nil))))))
theorem bk_X11_enter_e_8 : ck_ fX11 (some .int) cX11_enter 8 [.ifCond .eq 22, .iload 2, .aload 0, .tableswitch 0 11 12 #[]] 16 = true := qck_r (nn_ _) (by decide +kernel)
theorem bs_X11_enter_e_8 {P : Zt → Option Zv → Prop} (K : Int → Zl → List Zv → Zt → Prop) : sx_ K P [.ifCond .eq 22, .iload 2, .aload 0, .tableswitch 0 11 12 #[]] 16 = x_ifCond .eq 22 K (x_iload 2 (x_aload 0 (x_g0 111 12 0 12 (K 16)))) := ((xe_ifCond .eq 22).trans (congrArg (x_ifCond .eq 22 K) ((xe_iload 2).trans (congrArg (x_iload 2) ((xe_aload 0).trans (congrArg (x_aload 0) ((xe_g0 (kk := 111) rfl tl_11_12).trans (congrArg (x_g0 111 12 0 12) xe_nil))))))))
theorem bk_X11_enter_e_22 : ck_ fX11 (some .int) cX11_enter 22 [.iconst (-2), .ireturn] 25 = true := qck_r (nn_ _) (by decide +kernel)
theorem bs_X11_enter_e_22 {P : Zt → Option Zv → Prop} (K : Int → Zl → List Zv → Zt → Prop) : sx_ K P [.iconst (-2), .ireturn] 25 = x_iconst (-2) (x_ireturn P) := ((xe_iconst (-2)).trans (congrArg (x_iconst (-2)) (xe_ireturn)))
theorem bk_X11_enter_e_19 : ck_ fX11 (some .int) cX11_enter 19 [.ifCond .ne 25, .iconst (-2), .ireturn] 25 = true := qck_r (nn_ _) (by decide +kernel)
theorem bs_X11_enter_e_19 {P : Zt → Option Zv → Prop} (K : Int → Zl → List Zv → Zt → Prop) : sx_ K P [.ifCond .ne 25, .iconst (-2), .ireturn] 25 = x_ifCond .ne 25 K (x_iconst (-2) (x_ireturn P)) := ((xe_ifCond .ne 25).trans (congrArg (x_ifCond .ne 25 K) ((xe_iconst (-2)).trans (congrArg (x_iconst (-2)) (xe_ireturn)))))
theorem bk_X11_enter_e_25 : ck_ fX11 (some .int) cX11_enter 25 [.aload 0, .tableswitch 0 11 9 #[], .iload 1, .baload, .ifCond .ne 43, .aload 0, .iload 1, .iload 2] 37 = true := qck_r (nn_ _) (by decide +kernel)
theorem bs_X11_enter_e_25 {P : Zt → Option Zv → Prop} (K : Int → Zl → List Zv → Zt → Prop) : sx_ K P [.aload 0, .tableswitch 0 11 9 #[], .iload 1, .baload, .ifCond .ne 43, .aload 0, .iload 1, .iload 2] 37 = x_aload 0 (x_g1 111 209 (x_iload 1 (x_baload (x_ifCond .ne 43 K (x_aload 0 (x_iload 1 (x_iload 2 (K 37)))))))) := ((xe_aload 0).trans (congrArg (x_aload 0) ((xe_g1 (kk := 111) rfl tl_11_9).trans (congrArg (x_g1 111 209) ((xe_iload 1).trans (congrArg (x_iload 1) ((xe_baload).trans (congrArg (x_baload) ((xe_ifCond .ne 43).trans (congrArg (x_ifCond .ne 43 K) ((xe_aload 0).trans (congrArg (x_aload 0) ((xe_iload 1).trans (congrArg (x_iload 1) ((xe_iload 2).trans (congrArg (x_iload 2) xe_nil))))))))))))))))
theorem bk_X11_enter_e_43 : ck_ fX11 (some .int) cX11_enter 43 [.iconst (-4), .ireturn] 46 = true := qck_r (nn_ _) (by decide +kernel)
theorem bs_X11_enter_e_43 {P : Zt → Option Zv → Prop} (K : Int → Zl → List Zv → Zt → Prop) : sx_ K P [.iconst (-4), .ireturn] 46 = x_iconst (-4) (x_ireturn P) := ((xe_iconst (-4)).trans (congrArg (x_iconst (-4)) (xe_ireturn)))
theorem bk_X11_enter_e_40 : ck_ fX11 (some .int) cX11_enter 40 [.ifCond .eq 46, .iconst (-4), .ireturn] 46 = true := qck_r (nn_ _) (by decide +kernel)
theorem bs_X11_enter_e_40 {P : Zt → Option Zv → Prop} (K : Int → Zl → List Zv → Zt → Prop) : sx_ K P [.ifCond .eq 46, .iconst (-4), .ireturn] 46 = x_ifCond .eq 46 K (x_iconst (-4) (x_ireturn P)) := ((xe_ifCond .eq 46).trans (congrArg (x_ifCond .eq 46 K) ((xe_iconst (-4)).trans (congrArg (x_iconst (-4)) (xe_ireturn)))))
theorem bk_X11_enter_e_46 : ck_ fX11 (some .int) cX11_enter 46 [.aload 0, .tableswitch 0 11 7 #[], .iconst 12, .iload 1, .imul, .aload 0, .tableswitch 0 11 8 #[], .iload 1, .iaload, .iadd, .iload 2, .iastore, .aload 0, .tableswitch 0 11 8 #[], .iload 1, .dup2, .iaload, .iconst 1, .iadd, .iastore, .aload 0, .tableswitch 0 11 8 #[], .iload 1, .iaload, .ireturn] 80 = true := qck_r (nn_ _) (by decide +kernel)
theorem bs_X11_enter_e_46 {P : Zt → Option Zv → Prop} (K : Int → Zl → List Zv → Zt → Prop) : sx_ K P [.aload 0, .tableswitch 0 11 7 #[], .iconst 12, .iload 1, .imul, .aload 0, .tableswitch 0 11 8 #[], .iload 1, .iaload, .iadd, .iload 2, .iastore, .aload 0, .tableswitch 0 11 8 #[], .iload 1, .dup2, .iaload, .iconst 1, .iadd, .iastore, .aload 0, .tableswitch 0 11 8 #[], .iload 1, .iaload, .ireturn] 80 = x_aload 0 (x_g1 111 207 (x_iconst 12 (x_iload 1 (x_imul (x_aload 0 (x_g1 111 208 (x_iload 1 (x_iaload (x_iadd (x_iload 2 (x_iastore (x_aload 0 (x_g1 111 208 (x_iload 1 (x_dup2 (x_iaload (x_iconst 1 (x_iadd (x_iastore (x_aload 0 (x_g1 111 208 (x_iload 1 (x_iaload (x_ireturn P)))))))))))))))))))))))) := ((xe_aload 0).trans (congrArg (x_aload 0) ((xe_g1 (kk := 111) rfl tl_11_7).trans (congrArg (x_g1 111 207) ((xe_iconst 12).trans (congrArg (x_iconst 12) ((xe_iload 1).trans (congrArg (x_iload 1) ((xe_imul).trans (congrArg (x_imul) ((xe_aload 0).trans (congrArg (x_aload 0) ((xe_g1 (kk := 111) rfl tl_11_8).trans (congrArg (x_g1 111 208) ((xe_iload 1).trans (congrArg (x_iload 1) ((xe_iaload).trans (congrArg (x_iaload) ((xe_iadd).trans (congrArg (x_iadd) ((xe_iload 2).trans (congrArg (x_iload 2) ((xe_iastore).trans (congrArg (x_iastore) ((xe_aload 0).trans (congrArg (x_aload 0) ((xe_g1 (kk := 111) rfl tl_11_8).trans (congrArg (x_g1 111 208) ((xe_iload 1).trans (congrArg (x_iload 1) ((xe_dup2).trans (congrArg (x_dup2) ((xe_iaload).trans (congrArg (x_iaload) ((xe_iconst 1).trans (congrArg (x_iconst 1) ((xe_iadd).trans (congrArg (x_iadd) ((xe_iastore).trans (congrArg (x_iastore) ((xe_aload 0).trans (congrArg (x_aload 0) ((xe_g1 (kk := 111) rfl tl_11_8).trans (congrArg (x_g1 111 208) ((xe_iload 1).trans (congrArg (x_iload 1) ((xe_iaload).trans (congrArg (x_iaload) (xe_ireturn)))))))))))))))))))))))))))))))))))))))))))))))))
abbrev po_X11_enter_e (T : Zt) (c cl : Int) : Zt → Option Zv → Prop := fun T' r => ∃ x : Int, r = some (vI x) ∧ fr_ [(207, []), (208, [])] T T' ∧ (EN_ T' ∧ ER9_ T T' c cl x)
set_option maxHeartbeats 4000000 in
theorem ct_X11_enter_e {T : Zt} {c cl : Int} (hEN : EN_ T) : Ct_ yX11_enter zX11_enter T [vR 111 0, vI c, vI cl] (po_X11_enter_e T c cl) := by
  refine ct_of pn_11 rfl rfl (Nat.le_of_ble_eq_true rfl) (fun hT hav => ?_)
  have hr_c : -2147483648 ≤ c ∧ c ≤ 2147483647 := hav (vI c) (List.mem_cons_of_mem _ List.mem_cons_self)
  have hr_cl : -2147483648 ≤ cl ∧ cl ≤ 2147483647 := hav (vI cl) (List.mem_cons_of_mem _ (List.mem_cons_of_mem _ List.mem_cons_self))
  have hz : zX11_enter.2.2.2.1 = some .boolean → ∀ (T' : Zt) (x : Int), po_X11_enter_e T c cl T' (some (vI x)) → 0 ≤ x ∧ x ≤ 1 := fun h => by cases h
  show J_ zX11_enter T (po_X11_enter_e T c cl) 0 0 0 [some (vR 111 0), some (vI c), some (vI cl)] [] T
  refine j_blx (F := fX11) tb_X11 (nn_ _) bk_X11_enter_e_0 bs_X11_enter_e_0 hz (fun K hK => ?_)
  intro b1 b1b
  refine hK 5 _ [vI (T 111 0 6), vI c] T ?_
  refine j_callS (y := yX11_isOf) (Yc := zX11_isOf) (rest := []) [vI c, vI (T 111 0 6)] (ct_X11_isOf (T := T) (by omega)) cl_X11_317 (qd_c (by decide +kernel)) (nn_ _) rfl (rf_of rfl) (Nat.le_of_ble_eq_true rfl) (Nat.le_of_ble_eq_true rfl) (Nat.le_of_ble_eq_true rfl) rfl ?_
  rintro _ _ ⟨rfl, x2, rfl, hx2⟩
  show J_ zX11_enter T (po_X11_enter_e T c cl) 0 0 8 _ [vI x2] T
  refine j_blx (F := fX11) tb_X11 (nn_ _) bk_X11_enter_e_8 bs_X11_enter_e_8 hz (fun K hK => ?_)
  refine And.intro (fun c3 => ?_) (fun c3 => ?_)
  · replace hx2 := hx2.resolve_left (fun z => absurd (c3.symm.trans z.1) (by decide))
    clear c3
    refine hK 22 _ [] T ?_
    refine j_blx (F := fX11) tb_X11 (nn_ _) bk_X11_enter_e_22 bs_X11_enter_e_22 hz (fun K hK => ?_)
    refine (show po_X11_enter_e T c cl T (some (vI (-2))) from ?_)
    exact ⟨_, rfl, fr_0 _ _, hEN, Or.inl ⟨rfl, Or.inl ⟨rfl, by omega⟩⟩⟩
  · replace hx2 := hx2.resolve_right (fun z => c3 z.1)
    clear c3
    intro b4 b4b
    refine hK 16 _ [vI (T 111 0 12), vI cl] T ?_
    refine j_callS (y := yX11_isOf) (Yc := zX11_isOf) (rest := []) [vI cl, vI (T 111 0 12)] (ct_X11_isOf (T := T) (by omega)) cl_X11_317 (qd_c (by decide +kernel)) (nn_ _) rfl (rf_of rfl) (Nat.le_of_ble_eq_true rfl) (Nat.le_of_ble_eq_true rfl) (Nat.le_of_ble_eq_true rfl) rfl ?_
    rintro _ _ ⟨rfl, x5, rfl, hx5⟩
    show J_ zX11_enter T (po_X11_enter_e T c cl) 0 0 19 _ [vI x5] T
    refine j_blx (F := fX11) tb_X11 (nn_ _) bk_X11_enter_e_19 bs_X11_enter_e_19 hz (fun K hK => ?_)
    refine And.intro (fun c6 => ?_) (fun c6 => ?_)
    · refine hK 25 _ [] T ?_
      refine j_blx (F := fX11) tb_X11 (nn_ _) bk_X11_enter_e_25 bs_X11_enter_e_25 hz (fun K hK => ?_)
      refine ix_i (by omega) ?_
      intro b7 b7b
      refine And.intro (fun c8 => ?_) (fun c8 => ?_)
      · refine hK 43 _ [] T ?_
        refine j_blx (F := fX11) tb_X11 (nn_ _) bk_X11_enter_e_43 bs_X11_enter_e_43 hz (fun K hK => ?_)
        refine (show po_X11_enter_e T c cl T (some (vI (-4))) from ?_)
        refine ⟨_, rfl, fr_0 _ _, hEN, Or.inl ⟨rfl, Or.inr ⟨by omega, rfl, ?_⟩⟩⟩
        first | exact Or.inl (by omega) | exact Or.inr (hx5.resolve_right (fun z => by omega)).2
      · refine hK 37 _ [vI cl, vI c, vR 111 0] T ?_
        refine j_callV (y := yX11_hasEntered) (Yc := zX11_hasEntered) (rest := []) [vI c, vI cl] (ct_X11_hasEntered (T := T) (by omega)) cl_X11_340 (qd_c (by decide +kernel)) (nn_ _) rfl (rf_of rfl) (Nat.le_of_ble_eq_true rfl) (Nat.le_of_ble_eq_true rfl) (Nat.le_of_ble_eq_true rfl) rfl ?_
        rintro _ _ ⟨rfl, x9, rfl, hx9⟩
        show J_ zX11_enter T (po_X11_enter_e T c cl) 0 0 40 _ [vI x9] T
        refine j_blx (F := fX11) tb_X11 (nn_ _) bk_X11_enter_e_40 bs_X11_enter_e_40 hz (fun K hK => ?_)
        refine And.intro (fun c10 => ?_) (fun c10 => ?_)
        · have hno : ∀ j, 0 ≤ j → j < T 208 0 c → T 207 0 (12 * c + j) ≠ cl := by rcases hx9 with z | z; omega; exact fun j a b e9 => z.2 ⟨j, a, b, e9⟩
          have hbe : 0 ≤ T 208 0 c ∧ T 208 0 c ≤ 12 := bd_a hT 208 (by decide +kernel : ta_ 208 = some (1, some 4, 0, 12)) 0 (by omega)
          have hb_12 : 0 ≤ T 111 0 12 ∧ T 111 0 12 ≤ 12 := bd_f hT 111 12 tl_11_12 0
          have hlt : T 208 0 c + 1 ≤ T 111 0 12 := by
            refine ph_i (fun i => if i = T 208 0 c then cl else T 207 0 (12 * c + i)) (by omega) (by omega) (fun i a b => ?_) (fun i j a b d => ?_)
            · show 0 ≤ (if i = T 208 0 c then cl else T 207 0 (12 * c + i)) ∧ (if i = T 208 0 c then cl else T 207 0 (12 * c + i)) < T 111 0 12
              by_cases z : i = T 208 0 c
              · rw [if_pos z]; omega
              · rw [if_neg z]; exact (hEN c (by omega) (by omega)).1 i a (by omega)
            · show (if i = T 208 0 c then cl else T 207 0 (12 * c + i)) ≠ (if j = T 208 0 c then cl else T 207 0 (12 * c + j))
              rw [if_neg (by omega : ¬ i = T 208 0 c)]
              by_cases z : j = T 208 0 c
              · rw [if_pos z]; exact hno i a (by omega)
              · rw [if_neg z]; exact (hEN c (by omega) (by omega)).2 i j a b (by omega)
          refine hK 46 _ [] T ?_
          refine j_blx (F := fX11) tb_X11 (nn_ _) bk_X11_enter_e_46 bs_X11_enter_e_46 hz (fun K hK => ?_)
          refine rg_i (by omega) ?_
          refine ix_i (by omega) ?_
          intro b11 b11b
          refine rg_i (by omega) ?_
          refine iy_i (by omega) (by omega) ?_
          refine x_nm (fun U12 hU12 => ?_)
          have e13 := up_f hU12
          refine ix_i (by omega) ?_
          intro b14 b14b
          have e15 : U12 208 0 c = T 208 0 c := up_k hU12 (by exact Nat.ne_of_beq_eq_false rfl) 0 c
          rw [e15] at b14 b14b ⊢
          refine rg_i (by omega) ?_
          refine iy_i (by omega) (by omega) ?_
          refine x_nm (fun U16 hU16 => ?_)
          have e17 := up_f hU16
          refine ix_i (by omega) ?_
          intro b18 b18b
          have e19 : U16 208 0 c = (T 208 0 c) + 1 := up_f hU16
          rw [e19] at b18 b18b ⊢
          refine (show po_X11_enter_e T c cl U16 (some (vI ((T 208 0 c) + 1))) from ?_)
          have ed : ∀ z, z ≠ c → U16 208 0 z = T 208 0 z := fun z hz => (up_g hU16 (fun q => hz q.2.2)).trans (up_k hU12 (by exact Nat.ne_of_beq_eq_false rfl) 0 z)
          have et : ∀ z, z ≠ 12 * c + T 208 0 c → U16 207 0 z = T 207 0 z := fun z hz => (up_k hU16 (by exact Nat.ne_of_beq_eq_false rfl) 0 z).trans (up_g hU12 (fun q => hz q.2.2))
          have ee : U16 207 0 (12 * c + T 208 0 c) = cl := (up_k hU16 (by exact Nat.ne_of_beq_eq_false rfl) 0 _).trans (up_f hU12)
          have ec : U16 208 0 c = T 208 0 c + 1 := by omega
          have e12 : U16 111 0 12 = T 111 0 12 := (up_k hU16 (by exact Nat.ne_of_beq_eq_false rfl) 0 12).trans (up_k hU12 (by exact Nat.ne_of_beq_eq_false rfl) 0 12)
          refine ⟨_, rfl, fr_u (fr_u (fr_0 _ _) hU12 rfl) hU16 rfl, fun d a b => ?_, Or.inr ⟨by omega, by omega, fun ⟨j, a, b, e9⟩ => hno j a b e9, by omega, ec, ed, et, ee⟩⟩
          have hd := hEN d a b
          have bdd := bd_a hT 208 (by decide +kernel : ta_ 208 = some (1, some 4, 0, 12)) 0 a
          by_cases z : d = c
          · subst z
            rw [ec, e12]
            refine ⟨fun j p q => ?_, fun i j p q r => ?_⟩
            · by_cases y : j = T 208 0 d
              · rw [y, ee]; omega
              · rw [et _ (by omega)]; exact hd.1 j p (by omega)
            · rw [et (12 * d + i) (by omega)]
              by_cases y : j = T 208 0 d
              · rw [y, ee]; exact hno i p (by omega)
              · rw [et _ (by omega)]; exact hd.2 i j p q (by omega)
          · rw [ed d z, e12]
            refine ⟨fun j p q => ?_, fun i j p q r => ?_⟩
            · rw [et _ (by omega)]; exact hd.1 j p q
            · rw [et _ (by omega), et _ (by omega)]; exact hd.2 i j p q r
        · refine (show po_X11_enter_e T c cl T (some (vI (-4))) from ?_)
          refine ⟨_, rfl, fr_0 _ _, hEN, Or.inl ⟨rfl, Or.inr ⟨by omega, rfl, ?_⟩⟩⟩
          first | exact Or.inl (by omega) | exact Or.inr (hx9.resolve_right (fun z => by omega)).2
    · replace hx5 := hx5.resolve_left (fun z => absurd (c6.symm.trans z.1) (by decide))
      clear c6
      refine (show po_X11_enter_e T c cl T (some (vI (-2))) from ?_)
      exact ⟨_, rfl, fr_0 _ _, hEN, Or.inl ⟨rfl, Or.inl ⟨rfl, by omega⟩⟩⟩
