-- enter and deduct of both sides
def EA9_ (T T' : Zt) (c b : Int) : Prop := T' 100 c 5 = T 100 c 5 + 1 ∧ (∀ d, d ≠ c → T' 100 d 5 = T 100 d 5) ∧ (∀ d z, ¬ (d = c ∧ z = T 100 c 5) → T' 403 d z = T 403 d z) ∧ (∀ d z, ¬ (d = c ∧ z = b) → T' 404 d z = T 404 d z) ∧ T' 403 c (T 100 c 5) = b ∧ T' 404 c b = T 100 c 5
/-- what enter does to the house -/
def EH9_ (T T' : Zt) (c b x : Int) : Prop := (T' = T ∧ ((x = -2 ∧ ¬ ((0 ≤ c ∧ c < T 106 0 2) ∧ 0 ≤ b ∧ b < T 108 0 2)) ∨ (((0 ≤ c ∧ c < T 106 0 2) ∧ 0 ≤ b ∧ b < T 108 0 2) ∧ x = -4 ∧ (T 100 c 6 ≠ 0 ∨ T 404 c b ≠ -1)))) ∨ (((0 ≤ c ∧ c < T 106 0 2) ∧ 0 ≤ b ∧ b < T 108 0 2) ∧ T 100 c 6 = 0 ∧ T 404 c b = -1 ∧ T 100 c 5 ≤ 11 ∧ x = T 100 c 5 + 1 ∧ EA9_ T T' c b)
def EB9_ (T T' : Zt) (c b : Int) : Prop := T' 208 0 c = T 208 0 c + 1 ∧ (∀ z, z ≠ c → T' 208 0 z = T 208 0 z) ∧ (∀ z, z ≠ 12 * c + T 208 0 c → T' 207 0 z = T 207 0 z) ∧ T' 207 0 (12 * c + T 208 0 c) = b
/-- what enter does to the reference -/
def ER9_ (T T' : Zt) (c b x : Int) : Prop := (T' = T ∧ ((x = -2 ∧ ¬ ((0 ≤ c ∧ c < T 111 0 6) ∧ 0 ≤ b ∧ b < T 111 0 12)) ∨ (((0 ≤ c ∧ c < T 111 0 6) ∧ 0 ≤ b ∧ b < T 111 0 12) ∧ x = -4 ∧ (T 209 0 c ≠ 0 ∨ HE_ T c b)))) ∨ (((0 ≤ c ∧ c < T 111 0 6) ∧ 0 ≤ b ∧ b < T 111 0 12) ∧ T 209 0 c = 0 ∧ ¬ HE_ T c b ∧ x = T 208 0 c + 1 ∧ EB9_ T T' c b)
/-- a deduction is put down: in, from, points, day -/
def DP9_ (k1 k2 k3 k4 : Nat) (T T' : Zt) (n c b p d : Int) : Prop := SG9_ k1 T T' n c ∧ SG9_ k2 T T' n b ∧ SG9_ k3 T T' n p ∧ SG9_ k4 T T' n d
def DH9_ (T T' : Zt) (c b p x : Int) : Prop := (T' = T ∧ ((x = -2 ∧ ¬ ((0 ≤ c ∧ c < T 106 0 2) ∧ 0 ≤ b ∧ b < T 108 0 2)) ∨ (((0 ≤ c ∧ c < T 106 0 2) ∧ 0 ≤ b ∧ b < T 108 0 2) ∧ ((x = -3 ∧ ¬ (1 ≤ p ∧ p ≤ 99)) ∨ ((1 ≤ p ∧ p ≤ 99) ∧ ((x = -4 ∧ T 404 c b = -1) ∨ (T 404 c b ≠ -1 ∧ x = -5 ∧ 50 ≤ T 106 0 6))))))) ∨ (((0 ≤ c ∧ c < T 106 0 2) ∧ 0 ≤ b ∧ b < T 108 0 2) ∧ (1 ≤ p ∧ p ≤ 99) ∧ T 404 c b ≠ -1 ∧ T 106 0 6 < 50 ∧ x = T 106 0 6 + 1 ∧ T' 106 0 6 = x ∧ DP9_ 527 528 529 530 T T' (T 106 0 6) c b p (T 108 0 13))
def DR9_ (T T' : Zt) (c b p x : Int) : Prop := (T' = T ∧ ((x = -2 ∧ ¬ ((0 ≤ c ∧ c < T 111 0 6) ∧ 0 ≤ b ∧ b < T 111 0 12)) ∨ (((0 ≤ c ∧ c < T 111 0 6) ∧ 0 ≤ b ∧ b < T 111 0 12) ∧ ((x = -3 ∧ ¬ (1 ≤ p ∧ p ≤ 99)) ∨ ((1 ≤ p ∧ p ≤ 99) ∧ ((x = -4 ∧ ¬ HE_ T c b) ∨ (HE_ T c b ∧ x = -5 ∧ T 111 0 24 = 50))))))) ∨ (((0 ≤ c ∧ c < T 111 0 6) ∧ 0 ≤ b ∧ b < T 111 0 12) ∧ (1 ≤ p ∧ p ≤ 99) ∧ HE_ T c b ∧ T 111 0 24 < 50 ∧ x = T 111 0 24 + 1 ∧ T' 111 0 24 = x ∧ DP9_ 225 226 227 228 T T' (T 111 0 24) c b p (T 111 0 3))
theorem bk_X10_enter_e_0 : ck_ fX10 (some .int) cX10_enter 0 [.aload 0, .iload 1] 2 = true := qck_r (nn_ _) (by decide +kernel)
theorem bs_X10_enter_e_0 {P : Zt → Option Zv → Prop} (K : Int → Zl → List Zv → Zt → Prop) : sx_ K P [.aload 0, .iload 1] 2 = x_aload 0 (x_iload 1 (K 2)) := ((xe_aload 0).trans (congrArg (x_aload 0) ((xe_iload 1).trans (congrArg (x_iload 1) xe_nil))))
theorem bk_X10_enter_e_5 : ck_ fX10 (some .int) cX10_enter 5 [.ifCond .eq 16, .aload 0, .iload 2] 10 = true := qck_r (nn_ _) (by decide +kernel)
theorem bs_X10_enter_e_5 {P : Zt → Option Zv → Prop} (K : Int → Zl → List Zv → Zt → Prop) : sx_ K P [.ifCond .eq 16, .aload 0, .iload 2] 10 = x_ifCond .eq 16 K (x_aload 0 (x_iload 2 (K 10))) := ((xe_ifCond .eq 16).trans (congrArg (x_ifCond .eq 16 K) ((xe_aload 0).trans (congrArg (x_aload 0) ((xe_iload 2).trans (congrArg (x_iload 2) xe_nil))))))
theorem bk_X10_enter_e_16 : ck_ fX10 (some .int) cX10_enter 16 [.iconst (-2), .ireturn] 19 = true := qck_r (nn_ _) (by decide +kernel)
theorem bs_X10_enter_e_16 {P : Zt → Option Zv → Prop} (K : Int → Zl → List Zv → Zt → Prop) : sx_ K P [.iconst (-2), .ireturn] 19 = x_iconst (-2) (x_ireturn P) := ((xe_iconst (-2)).trans (congrArg (x_iconst (-2)) (xe_ireturn)))
theorem bk_X10_enter_e_13 : ck_ fX10 (some .int) cX10_enter 13 [.ifCond .ne 19, .iconst (-2), .ireturn] 19 = true := qck_r (nn_ _) (by decide +kernel)
theorem bs_X10_enter_e_13 {P : Zt → Option Zv → Prop} (K : Int → Zl → List Zv → Zt → Prop) : sx_ K P [.ifCond .ne 19, .iconst (-2), .ireturn] 19 = x_ifCond .ne 19 K (x_iconst (-2) (x_ireturn P)) := ((xe_ifCond .ne 19).trans (congrArg (x_ifCond .ne 19 K) ((xe_iconst (-2)).trans (congrArg (x_iconst (-2)) (xe_ireturn)))))
theorem bk_X10_enter_e_19 : ck_ fX10 (some .int) cX10_enter 19 [.aload 0, .tableswitch 0 10 2 #[], .tableswitch 0 6 1 #[], .iload 1, .aaload, .astore 3, .aload 3, .tableswitch 0 0 6 #[], .ifCond .ne 46, .aload 3, .tableswitch 0 0 4 #[], .iload 2, .iaload, .iconst (-1), .if_icmp .eq 49, .iconst (-4), .ireturn] 49 = true := qck_r (nn_ _) (by decide +kernel)
theorem bs_X10_enter_e_19 {P : Zt → Option Zv → Prop} (K : Int → Zl → List Zv → Zt → Prop) : sx_ K P [.aload 0, .tableswitch 0 10 2 #[], .tableswitch 0 6 1 #[], .iload 1, .aaload, .astore 3, .aload 3, .tableswitch 0 0 6 #[], .ifCond .ne 46, .aload 3, .tableswitch 0 0 4 #[], .iload 2, .iaload, .iconst (-1), .if_icmp .eq 49, .iconst (-4), .ireturn] 49 = x_aload 0 (x_g1 110 106 (x_g1 106 521 (x_iload 1 (x_aaload (x_astore 3 (x_aload 3 (x_g0 100 6 0 1 (x_ifCond .ne 46 K (x_aload 3 (x_g2 100 404 (x_iload 2 (x_iaload (x_iconst (-1) (x_if_icmp .eq 49 K (x_iconst (-4) (x_ireturn P)))))))))))))))) := ((xe_aload 0).trans (congrArg (x_aload 0) ((xe_g1 (kk := 110) rfl tl_10_2).trans (congrArg (x_g1 110 106) ((xe_g1 (kk := 106) rfl tl_6_1).trans (congrArg (x_g1 106 521) ((xe_iload 1).trans (congrArg (x_iload 1) ((xe_aaload).trans (congrArg (x_aaload) ((xe_astore 3).trans (congrArg (x_astore 3) ((xe_aload 3).trans (congrArg (x_aload 3) ((xe_g0 (kk := 100) rfl tl_0_6).trans (congrArg (x_g0 100 6 0 1) ((xe_ifCond .ne 46).trans (congrArg (x_ifCond .ne 46 K) ((xe_aload 3).trans (congrArg (x_aload 3) ((xe_g2 (kk := 100) rfl tl_0_4).trans (congrArg (x_g2 100 404) ((xe_iload 2).trans (congrArg (x_iload 2) ((xe_iaload).trans (congrArg (x_iaload) ((xe_iconst (-1)).trans (congrArg (x_iconst (-1)) ((xe_if_icmp .eq 49).trans (congrArg (x_if_icmp .eq 49 K) ((xe_iconst (-4)).trans (congrArg (x_iconst (-4)) (xe_ireturn)))))))))))))))))))))))))))))))))
theorem bk_X10_enter_e_46 : ck_ fX10 (some .int) cX10_enter 46 [.iconst (-4), .ireturn] 49 = true := qck_r (nn_ _) (by decide +kernel)
theorem bs_X10_enter_e_46 {P : Zt → Option Zv → Prop} (K : Int → Zl → List Zv → Zt → Prop) : sx_ K P [.iconst (-4), .ireturn] 49 = x_iconst (-4) (x_ireturn P) := ((xe_iconst (-4)).trans (congrArg (x_iconst (-4)) (xe_ireturn)))
theorem bk_X10_enter_e_49 : ck_ fX10 (some .int) cX10_enter 49 [.aload 3, .tableswitch 0 0 4 #[], .iload 2, .aload 3, .tableswitch 0 0 5 #[], .iastore, .aload 3, .tableswitch 0 0 3 #[], .aload 3, .tableswitch 0 0 5 #[], .iload 2, .iastore, .aload 3, .dup, .tableswitch 0 0 5 #[], .iconst 1, .iadd, .tableswitch 1 0 5 #[], .aload 3, .tableswitch 0 0 5 #[], .ireturn] 84 = true := qck_r (nn_ _) (by decide +kernel)
theorem bs_X10_enter_e_49 {P : Zt → Option Zv → Prop} (K : Int → Zl → List Zv → Zt → Prop) : sx_ K P [.aload 3, .tableswitch 0 0 4 #[], .iload 2, .aload 3, .tableswitch 0 0 5 #[], .iastore, .aload 3, .tableswitch 0 0 3 #[], .aload 3, .tableswitch 0 0 5 #[], .iload 2, .iastore, .aload 3, .dup, .tableswitch 0 0 5 #[], .iconst 1, .iadd, .tableswitch 1 0 5 #[], .aload 3, .tableswitch 0 0 5 #[], .ireturn] 84 = x_aload 3 (x_g2 100 404 (x_iload 2 (x_aload 3 (x_g0 100 5 0 12 (x_iastore (x_aload 3 (x_g2 100 403 (x_aload 3 (x_g0 100 5 0 12 (x_iload 2 (x_iastore (x_aload 3 (x_dup (x_g0 100 5 0 12 (x_iconst 1 (x_iadd (x_p 100 5 0 12 (x_aload 3 (x_g0 100 5 0 12 (x_ireturn P)))))))))))))))))))) := ((xe_aload 3).trans (congrArg (x_aload 3) ((xe_g2 (kk := 100) rfl tl_0_4).trans (congrArg (x_g2 100 404) ((xe_iload 2).trans (congrArg (x_iload 2) ((xe_aload 3).trans (congrArg (x_aload 3) ((xe_g0 (kk := 100) rfl tl_0_5).trans (congrArg (x_g0 100 5 0 12) ((xe_iastore).trans (congrArg (x_iastore) ((xe_aload 3).trans (congrArg (x_aload 3) ((xe_g2 (kk := 100) rfl tl_0_3).trans (congrArg (x_g2 100 403) ((xe_aload 3).trans (congrArg (x_aload 3) ((xe_g0 (kk := 100) rfl tl_0_5).trans (congrArg (x_g0 100 5 0 12) ((xe_iload 2).trans (congrArg (x_iload 2) ((xe_iastore).trans (congrArg (x_iastore) ((xe_aload 3).trans (congrArg (x_aload 3) ((xe_dup).trans (congrArg (x_dup) ((xe_g0 (kk := 100) rfl tl_0_5).trans (congrArg (x_g0 100 5 0 12) ((xe_iconst 1).trans (congrArg (x_iconst 1) ((xe_iadd).trans (congrArg (x_iadd) ((xe_p (kk := 100) rfl tl_0_5).trans (congrArg (x_p 100 5 0 12) ((xe_aload 3).trans (congrArg (x_aload 3) ((xe_g0 (kk := 100) rfl tl_0_5).trans (congrArg (x_g0 100 5 0 12) (xe_ireturn)))))))))))))))))))))))))))))))))))))))))
abbrev po_X10_enter_e (T : Zt) (c b : Int) : Zt → Option Zv → Prop := fun T' r => ∃ x : Int, r = some (vI x) ∧ fr_ [(404, []), (403, []), (100, [5])] T T' ∧ (KE_ T' ∧ (∀ d z, 0 ≤ T 404 d z → 0 ≤ T' 404 d z) ∧ EH9_ T T' c b x)
set_option maxHeartbeats 4000000 in
theorem ct_X10_enter_e {T : Zt} {c b : Int} (hka : KA_ T) (hke : KE_ T) : Ct_ yX10_enter zX10_enter T [vR 110 0, vI c, vI b] (po_X10_enter_e T c b) := by
  refine ct_of pn_10 rfl rfl (Nat.le_of_ble_eq_true rfl) (fun hT hav => ?_)
  have hr_c : -2147483648 ≤ c ∧ c ≤ 2147483647 := hav (vI c) (List.mem_cons_of_mem _ List.mem_cons_self)
  have hr_b : -2147483648 ≤ b ∧ b ≤ 2147483647 := hav (vI b) (List.mem_cons_of_mem _ (List.mem_cons_of_mem _ List.mem_cons_self))
  have hz : zX10_enter.2.2.2.1 = some .boolean → ∀ (T' : Zt) (x : Int), po_X10_enter_e T c b T' (some (vI x)) → 0 ≤ x ∧ x ≤ 1 := fun h => by cases h
  have hcc : 0 ≤ T 106 0 2 ∧ T 106 0 2 ≤ 4 := bd_f hT 106 2 tl_6_2 0
  have hb_clubs : 0 ≤ T 108 0 2 ∧ T 108 0 2 ≤ 12 := bd_f hT 108 2 tl_8_2 0
  show J_ zX10_enter T (po_X10_enter_e T c b) 0 0 0 [some (vR 110 0), some (vI c), some (vI b), none] [] T
  refine j_blx (F := fX10) tb_X10 (nn_ _) bk_X10_enter_e_0 bs_X10_enter_e_0 hz (fun K hK => ?_)
  refine hK 2 _ [vI c, vR 110 0] T ?_
  refine j_callV (y := yX10_isCompetition) (Yc := zX10_isCompetition) (rest := []) [vI c] (ct_X10_isCompetition (T := T)) cl_X10_107 (qd_c (by decide +kernel)) (nn_ _) rfl (rf_of rfl) (Nat.le_of_ble_eq_true rfl) (Nat.le_of_ble_eq_true rfl) (Nat.le_of_ble_eq_true rfl) rfl ?_
  rintro _ _ ⟨rfl, x1, rfl, hx1⟩
  show J_ zX10_enter T (po_X10_enter_e T c b) 0 0 5 _ [vI x1] T
  refine j_blx (F := fX10) tb_X10 (nn_ _) bk_X10_enter_e_5 bs_X10_enter_e_5 hz (fun K hK => ?_)
  refine And.intro (fun c2 => ?_) (fun c2 => ?_)
  · replace hx1 := hx1.resolve_left (fun z => absurd (c2.symm.trans z.1) (by decide))
    clear c2
    refine hK 16 _ [] T ?_
    refine j_blx (F := fX10) tb_X10 (nn_ _) bk_X10_enter_e_16 bs_X10_enter_e_16 hz (fun K hK => ?_)
    refine (show po_X10_enter_e T c b T (some (vI (-2))) from ?_)
    exact ⟨_, rfl, fr_0 _ _, hke, fun _ _ h => h, Or.inl ⟨rfl, Or.inl ⟨rfl, by omega⟩⟩⟩
  · replace hx1 := hx1.resolve_right (fun z => c2 z.1)
    clear c2
    refine hK 10 _ [vI b, vR 110 0] T ?_
    refine j_callV (y := yX10_isClub) (Yc := zX10_isClub) (rest := []) [vI b] (ct_X10_isClub (T := T)) cl_X10_137 (qd_c (by decide +kernel)) (nn_ _) rfl (rf_of rfl) (Nat.le_of_ble_eq_true rfl) (Nat.le_of_ble_eq_true rfl) (Nat.le_of_ble_eq_true rfl) rfl ?_
    rintro _ _ ⟨rfl, x3, rfl, hx3⟩
    show J_ zX10_enter T (po_X10_enter_e T c b) 0 0 13 _ [vI x3] T
    refine j_blx (F := fX10) tb_X10 (nn_ _) bk_X10_enter_e_13 bs_X10_enter_e_13 hz (fun K hK => ?_)
    refine And.intro (fun c4 => ?_) (fun c4 => ?_)
    · replace hx3 := hx3.resolve_right (fun z => c4 z.1)
      clear c4
      refine hK 19 _ [] T ?_
      refine j_blx (F := fX10) tb_X10 (nn_ _) bk_X10_enter_e_19 bs_X10_enter_e_19 hz (fun K hK => ?_)
      refine ix_i (by omega) ?_
      refine And.intro (fun c5 => ?_) (fun c5 => ?_)
      · exact absurd (show T 521 0 c = 0 by omega) (hka.1 _ (by omega) (by omega))
      · intro b6 b6b
        refine And.intro (fun c7 => ?_) (fun c7 => ?_)
        · refine hK 46 [some (vR 110 0), some (vI c), some (vI b), some (vR 100 c)] [] T ?_
          refine j_blx (F := fX10) tb_X10 (nn_ _) bk_X10_enter_e_46 bs_X10_enter_e_46 hz (fun K hK => ?_)
          refine (show po_X10_enter_e T c b T (some (vI (-4))) from ?_)
          exact ⟨_, rfl, fr_0 _ _, hke, fun _ _ h => h, Or.inl ⟨rfl, Or.inr ⟨by omega, rfl, by omega⟩⟩⟩
        · refine ix_i (by omega) ?_
          intro b8 b8b
          refine And.intro (fun c9 => ?_) (fun c9 => ?_)
          · have hen : 0 ≤ T 100 c 5 ∧ T 100 c 5 ≤ 12 := bd_f hT 100 5 tl_0_5 c
            have hlt : T 100 c 5 + 1 ≤ 12 := by
              refine ph_i (fun i => if i = T 100 c 5 then b else T 403 c i) (by omega) (by omega) (fun i p q => ?_) (fun i j p q d => ?_)
              · show 0 ≤ (if i = T 100 c 5 then b else T 403 c i) ∧ (if i = T 100 c 5 then b else T 403 c i) < 12
                by_cases z : i = T 100 c 5
                · rw [if_pos z]; omega
                · rw [if_neg z]
                  have y := bd_a hT 403 (by decide +kernel : ta_ 403 = some (1, some 12, 0, 11)) c p
                  omega
              · show (if i = T 100 c 5 then b else T 403 c i) ≠ (if j = T 100 c 5 then b else T 403 c j)
                rw [if_neg (by omega : ¬ i = T 100 c 5)]
                have y := hke c (by omega) (by omega) i p (by omega)
                by_cases z : j = T 100 c 5
                · rw [if_pos z]; intro e; rw [e] at y; omega
                · rw [if_neg z]
                  have y2 := hke c (by omega) (by omega) j (by omega) (by omega)
                  intro e; rw [e] at y; omega
            refine hK 49 _ [] T ?_
            refine j_blx (F := fX10) tb_X10 (nn_ _) bk_X10_enter_e_49 bs_X10_enter_e_49 hz (fun K hK => ?_)
            intro b10 b10b
            refine iy_i (by omega) (by omega) ?_
            refine x_nm (fun U11 hU11 => ?_)
            have e12 := up_f hU11
            intro b13 b13b
            have e14 : U11 100 c 5 = T 100 c 5 := up_k hU11 (by exact Nat.ne_of_beq_eq_false rfl) c 5
            rw [e14] at b13 b13b ⊢
            refine iy_i (by omega) (by omega) ?_
            refine x_nm (fun U15 hU15 => ?_)
            have e16 := up_f hU15
            intro b17 b17b
            have e18 : U15 100 c 5 = T 100 c 5 := (up_k hU15 (by exact Nat.ne_of_beq_eq_false rfl) c 5).trans (up_k hU11 (by exact Nat.ne_of_beq_eq_false rfl) c 5)
            rw [e18] at b17 b17b ⊢
            refine rg_i (by omega) ?_
            refine bd_i (by omega) ?_
            refine x_nm (fun U19 hU19 => ?_)
            have e20 := up_f hU19
            intro b21 b21b
            have e22 : U19 100 c 5 = (T 100 c 5) + 1 := up_f hU19
            rw [e22] at b21 b21b ⊢
            refine (show po_X10_enter_e T c b U19 (some (vI ((T 100 c 5) + 1))) from ?_)
            have g6 : U19 106 0 2 = T 106 0 2 := (up_k hU19 (by exact Nat.ne_of_beq_eq_false rfl) 0 _).trans ((up_k hU15 (by exact Nat.ne_of_beq_eq_false rfl) 0 _).trans (up_k hU11 (by exact Nat.ne_of_beq_eq_false rfl) 0 _))
            have g5 : ∀ d, d ≠ c → U19 100 d 5 = T 100 d 5 := fun d y => (up_g hU19 (fun w => y w.2.1)).trans ((up_k hU15 (by exact Nat.ne_of_beq_eq_false rfl) d _).trans (up_k hU11 (by exact Nat.ne_of_beq_eq_false rfl) d _))
            have g5c : U19 100 c 5 = T 100 c 5 + 1 := by omega
            have g3 : ∀ d z, ¬ (d = c ∧ z = T 100 c 5) → U19 403 d z = T 403 d z := fun d z y => (up_k hU19 (by exact Nat.ne_of_beq_eq_false rfl) d z).trans ((up_g hU15 (fun w => y ⟨w.2.1, w.2.2⟩)).trans (up_k hU11 (by exact Nat.ne_of_beq_eq_false rfl) d z))
            have g4 : ∀ d z, ¬ (d = c ∧ z = b) → U19 404 d z = T 404 d z := fun d z y => (up_k hU19 (by exact Nat.ne_of_beq_eq_false rfl) d z).trans ((up_k hU15 (by exact Nat.ne_of_beq_eq_false rfl) d z).trans (up_g hU11 (fun w => y ⟨w.2.1, w.2.2⟩)))
            have f3 : U19 403 c (T 100 c 5) = b := (up_k hU19 (by exact Nat.ne_of_beq_eq_false rfl) c _).trans (up_f hU15)
            have f4 : U19 404 c b = T 100 c 5 := (up_k hU19 (by exact Nat.ne_of_beq_eq_false rfl) c _).trans ((up_k hU15 (by exact Nat.ne_of_beq_eq_false rfl) c _).trans (up_f hU11))
            refine ⟨_, rfl, fr_u (fr_u (fr_u (fr_0 _ _) hU11 rfl) hU15 rfl) hU19 rfl, fun d a9 b9 j p9 q9 => ?_, fun d z hz0 => Classical.byCases (fun y : d = c ∧ z = b => by rw [y.1, y.2, f4]; omega) (fun y => by rw [g4 d z y]; exact hz0), Or.inr ⟨by omega, by omega, by omega, by omega, by omega, g5c, g5, g3, g4, f3, f4⟩⟩
            by_cases z : d = c
            · subst z
              by_cases y : j = T 100 d 5
              · rw [y, f3, f4]
              · have w := hke d a9 (by omega) j p9 (by omega)
                rw [g3 d j (fun t => y t.2), g4 d _ (fun t => by rw [t.2] at w; omega)]
                exact w
            · rw [g3 d j (fun t => z t.1), g4 d _ (fun t => z t.1)]
              exact hke d a9 (by omega) j p9 (by rw [← g5 d z]; exact q9)
          · refine (show po_X10_enter_e T c b T (some (vI (-4))) from ?_)
            exact ⟨_, rfl, fr_0 _ _, hke, fun _ _ h => h, Or.inl ⟨rfl, Or.inr ⟨by omega, rfl, by omega⟩⟩⟩
    · replace hx3 := hx3.resolve_left (fun z => absurd (c4.symm.trans z.1) (by decide))
      clear c4
      refine (show po_X10_enter_e T c b T (some (vI (-2))) from ?_)
      exact ⟨_, rfl, fr_0 _ _, hke, fun _ _ h => h, Or.inl ⟨rfl, Or.inl ⟨rfl, by omega⟩⟩⟩
