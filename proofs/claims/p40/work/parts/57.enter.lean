def KE_ (T : Zt) : Prop := ∀ c : Int, 0 ≤ c → c < T 106 0 2 → ∀ j : Int, 0 ≤ j → j < T 100 c 5 → T 404 c (T 403 c j) = j
theorem KE__f {ws : List (Nat × List Int)} {T T' : Zt} (h : KE_ T) (f : fr_ ws T T') (w : (∀ j, fw_ ws 403 j = false) ∧ (∀ j, fw_ ws 404 j = false) ∧ fw_ ws 100 5 = false ∧ fw_ ws 106 2 = false ∧ True) : KE_ T' := by
  have e0 : ∀ i j, T' 403 i j = T 403 i j := fun i j => f 403 i j (w.1 j)
  have e1 : ∀ i j, T' 404 i j = T 404 i j := fun i j => f 404 i j (w.2.1 j)
  have e2 : ∀ i, T' 100 i 5 = T 100 i 5 := fun i => f 100 i 5 w.2.2.1
  have e3 : ∀ i, T' 106 i 2 = T 106 i 2 := fun i => f 106 i 2 w.2.2.2.1
  simp only [KE_, e0, e1, e2, e3] at h ⊢
  exact h
abbrev cX10_enter : ByteArray := prog_1_method_12_code
def yX10_enter : MethodName := ⟨RX10, "enter", "(II)I"⟩
def zX10_enter : Zm := (RX10, cX10_enter, 4, (some .int), { frames := 2, cells := 0, slots := 0, locals := 42 })
theorem bk_X10_enter_0 : ck_ fX10 (some .int) cX10_enter 0 [.aload 0, .iload 1] 2 = true := by decide +kernel
theorem bk_X10_enter_5 : ck_ fX10 (some .int) cX10_enter 5 [.ifCond .eq 16, .aload 0, .iload 2] 10 = true := by decide +kernel
theorem bk_X10_enter_16 : ck_ fX10 (some .int) cX10_enter 16 [.iconst (-2), .ireturn] 19 = true := by decide +kernel
theorem bk_X10_enter_13 : ck_ fX10 (some .int) cX10_enter 13 [.ifCond .ne 19, .iconst (-2), .ireturn] 19 = true := by decide +kernel
theorem bk_X10_enter_19 : ck_ fX10 (some .int) cX10_enter 19 [.aload 0, .tableswitch 0 10 2 #[], .tableswitch 0 6 1 #[], .iload 1, .aaload, .astore 3, .aload 3, .tableswitch 0 0 6 #[], .ifCond .ne 46, .aload 3, .tableswitch 0 0 4 #[], .iload 2, .iaload, .iconst (-1), .if_icmp .eq 49, .iconst (-4), .ireturn] 49 = true := by decide +kernel
theorem bk_X10_enter_46 : ck_ fX10 (some .int) cX10_enter 46 [.iconst (-4), .ireturn] 49 = true := by decide +kernel
theorem bk_X10_enter_49 : ck_ fX10 (some .int) cX10_enter 49 [.aload 3, .tableswitch 0 0 4 #[], .iload 2, .aload 3, .tableswitch 0 0 5 #[], .iastore, .aload 3, .tableswitch 0 0 3 #[], .aload 3, .tableswitch 0 0 5 #[], .iload 2, .iastore, .aload 3, .dup, .tableswitch 0 0 5 #[], .iconst 1, .iadd, .tableswitch 1 0 5 #[], .aload 3, .tableswitch 0 0 5 #[], .ireturn] 84 = true := by decide +kernel
abbrev po_X10_enter (T : Zt) (c b : Int) : Zt → Option Zv → Prop := fun T' r => ∃ x : Int, r = some (vI x) ∧ fr_ [(404, []), (403, []), (100, [5])] T T' ∧ (KE_ T')
set_option maxHeartbeats 4000000 in
theorem ct_X10_enter {T : Zt} {c b : Int} (hka : KA_ T) (hke : KE_ T) : Ct_ yX10_enter zX10_enter T [vR 110 0, vI c, vI b] (po_X10_enter T c b) := by
  refine ct_of (by decide) rfl rfl (Nat.le_of_ble_eq_true rfl) (fun hT hav => ?_)
  have hr_c : -2147483648 ≤ c ∧ c ≤ 2147483647 := hav (vI c) (by simp)
  have hr_b : -2147483648 ≤ b ∧ b ≤ 2147483647 := hav (vI b) (by simp)
  have hz : zX10_enter.2.2.2.1 = some .boolean → ∀ (T' : Zt) (x : Int), po_X10_enter T c b T' (some (vI x)) → 0 ≤ x ∧ x ≤ 1 := fun h => by cases h
  have hcc : 0 ≤ T 106 0 2 ∧ T 106 0 2 ≤ 4 := bd_f hT 106 2 (by decide +kernel : (tf_ 106)[2]? = some (0, 0, 0, 4)) 0
  have hb_clubs : 0 ≤ T 108 0 2 ∧ T 108 0 2 ≤ 12 := bd_f hT 108 2 (by decide +kernel : (tf_ 108)[2]? = some (0, 0, 0, 12)) 0
  show J_ zX10_enter T (po_X10_enter T c b) 0 0 0 [some (vR 110 0), some (vI c), some (vI b), none] [] T
  refine j_blk (F := fX10) tb_X10 (by decide) bk_X10_enter_0 hz (fun K hK => ?_)
  refine hK 2 [some (vR 110 0), some (vI c), some (vI b), none] [vI c, vR 110 0] T ?_
  refine j_callV (y := yX10_isCompetition) (Yc := zX10_isCompetition) (rest := []) [vI c] (ct_X10_isCompetition (T := T)) cl_X10_107 (by decide +kernel) (by decide) rfl (by decide +kernel) (Nat.le_of_ble_eq_true rfl) (by decide) (by decide) rfl ?_
  rintro _ _ ⟨rfl, x1, rfl, hx1⟩
  show J_ zX10_enter T (po_X10_enter T c b) 0 0 5 [some (vR 110 0), some (vI c), some (vI b), none] [vI x1] T
  refine j_blk (F := fX10) tb_X10 (by decide) bk_X10_enter_5 hz (fun K hK => ?_)
  refine And.intro (fun c2 => ?_) (fun c2 => ?_)
  · refine hK 16 [some (vR 110 0), some (vI c), some (vI b), none] [] T ?_
    refine j_blk (F := fX10) tb_X10 (by decide) bk_X10_enter_16 hz (fun K hK => ?_)
    refine (show po_X10_enter T c b T (some (vI (-2))) from ?_)
    exact ⟨_, rfl, fr_0 _ _, hke⟩
  · refine hK 10 [some (vR 110 0), some (vI c), some (vI b), none] [vI b, vR 110 0] T ?_
    refine j_callV (y := yX10_isClub) (Yc := zX10_isClub) (rest := []) [vI b] (ct_X10_isClub (T := T)) cl_X10_137 (by decide +kernel) (by decide) rfl (by decide +kernel) (Nat.le_of_ble_eq_true rfl) (by decide) (by decide) rfl ?_
    rintro _ _ ⟨rfl, x3, rfl, hx3⟩
    show J_ zX10_enter T (po_X10_enter T c b) 0 0 13 [some (vR 110 0), some (vI c), some (vI b), none] [vI x3] T
    refine j_blk (F := fX10) tb_X10 (by decide) bk_X10_enter_13 hz (fun K hK => ?_)
    refine And.intro (fun c4 => ?_) (fun c4 => ?_)
    · refine hK 19 [some (vR 110 0), some (vI c), some (vI b), none] [] T ?_
      refine j_blk (F := fX10) tb_X10 (by decide) bk_X10_enter_19 hz (fun K hK => ?_)
      refine ix_i (by omega) ?_
      refine And.intro (fun c5 => ?_) (fun c5 => ?_)
      · exact absurd (show T 521 0 c = 0 by omega) (hka.1 _ (by omega) (by omega))
      · intro b6 b6b
        refine And.intro (fun c7 => ?_) (fun c7 => ?_)
        · refine hK 46 [some (vR 110 0), some (vI c), some (vI b), some (vR 100 c)] [] T ?_
          refine j_blk (F := fX10) tb_X10 (by decide) bk_X10_enter_46 hz (fun K hK => ?_)
          refine (show po_X10_enter T c b T (some (vI (-4))) from ?_)
          exact ⟨_, rfl, fr_0 _ _, hke⟩
        · refine ix_i (by omega) ?_
          intro b8 b8b
          refine And.intro (fun c9 => ?_) (fun c9 => ?_)
          · have hen : 0 ≤ T 100 c 5 ∧ T 100 c 5 ≤ 12 := bd_f hT 100 5 (by decide +kernel : (tf_ 100)[5]? = some (0, 0, 0, 12)) c
            have hlt : T 100 c 5 + 1 ≤ 12 := by
              refine ph_i (fun i => if i = T 100 c 5 then b else T 403 c i) (by omega) (by omega) (fun i p q => ?_) (fun i j p q d => ?_)
              · show 0 ≤ (if i = T 100 c 5 then b else T 403 c i) ∧ (if i = T 100 c 5 then b else T 403 c i) < 12
                by_cases z : i = T 100 c 5
                · rw [if_pos z]; omega
                · rw [if_neg z]
                  have y := bd_a hT 403 (by decide +kernel : ta_ 403 = some (1, some 12, 0, 11)) c p
                  omega
              · show (if i = T 100 c 5 then b else T 403 c i) ≠ (if j = T 100 c 5 then b else T 403 c j)
                rw [if_neg (by omega : ¬ i = T 100 c 5)]
                have y := hke c (by omega) (by omega) i p (by omega)
                by_cases z : j = T 100 c 5
                · rw [if_pos z]; intro e; rw [e] at y; omega
                · rw [if_neg z]
                  have y2 := hke c (by omega) (by omega) j (by omega) (by omega)
                  intro e; rw [e] at y; omega
            refine hK 49 [some (vR 110 0), some (vI c), some (vI b), some (vR 100 c)] [] T ?_
            refine j_blk (F := fX10) tb_X10 (by decide) bk_X10_enter_49 hz (fun K hK => ?_)
            intro b10 b10b
            refine iy_i (by omega) (by omega) ?_
            refine sx_nm (fun U11 hU11 => ?_)
            have e12 := up_f hU11
            intro b13 b13b
            have e14 : U11 100 c 5 = T 100 c 5 := up_k hU11 (by decide) c 5
            rw [e14] at b13 b13b ⊢
            refine iy_i (by omega) (by omega) ?_
            refine sx_nm (fun U15 hU15 => ?_)
            have e16 := up_f hU15
            intro b17 b17b
            have e18 : U15 100 c 5 = T 100 c 5 := (up_k hU15 (by decide) c 5).trans (up_k hU11 (by decide) c 5)
            rw [e18] at b17 b17b ⊢
            refine rg_i (by omega) ?_
            refine bd_i (by omega) ?_
            refine sx_nm (fun U19 hU19 => ?_)
            have e20 := up_f hU19
            intro b21 b21b
            have e22 : U19 100 c 5 = (T 100 c 5) + 1 := up_f hU19
            rw [e22] at b21 b21b ⊢
            refine (show po_X10_enter T c b U19 (some (vI ((T 100 c 5) + 1))) from ?_)
            have g6 : U19 106 0 2 = T 106 0 2 := (up_k hU19 (by decide) 0 _).trans ((up_k hU15 (by decide) 0 _).trans (up_k hU11 (by decide) 0 _))
            have g5 : ∀ d, d ≠ c → U19 100 d 5 = T 100 d 5 := fun d y => (up_g hU19 (fun w => y w.2.1)).trans ((up_k hU15 (by decide) d _).trans (up_k hU11 (by decide) d _))
            have g5c : U19 100 c 5 = T 100 c 5 + 1 := by omega
            have g3 : ∀ d z, ¬ (d = c ∧ z = T 100 c 5) → U19 403 d z = T 403 d z := fun d z y => (up_k hU19 (by decide) d z).trans ((up_g hU15 (fun w => y ⟨w.2.1, w.2.2⟩)).trans (up_k hU11 (by decide) d z))
            have g4 : ∀ d z, ¬ (d = c ∧ z = b) → U19 404 d z = T 404 d z := fun d z y => (up_k hU19 (by decide) d z).trans ((up_k hU15 (by decide) d z).trans (up_g hU11 (fun w => y ⟨w.2.1, w.2.2⟩)))
            have f3 : U19 403 c (T 100 c 5) = b := (up_k hU19 (by decide) c _).trans (up_f hU15)
            have f4 : U19 404 c b = T 100 c 5 := (up_k hU19 (by decide) c _).trans ((up_k hU15 (by decide) c _).trans (up_f hU11))
            refine ⟨_, rfl, fr_u (fr_u (fr_u (fr_0 _ _) hU11 rfl) hU15 rfl) hU19 rfl, fun d a9 b9 j p9 q9 => ?_⟩
            by_cases z : d = c
            · subst z
              by_cases y : j = T 100 d 5
              · rw [y, f3, f4]
              · have w := hke d a9 (by omega) j p9 (by omega)
                rw [g3 d j (fun t => y t.2), g4 d _ (fun t => by rw [t.2] at w; omega)]
                exact w
            · rw [g3 d j (fun t => z t.1), g4 d _ (fun t => z t.1)]
              exact hke d a9 (by omega) j p9 (by rw [← g5 d z]; exact q9)
          · refine (show po_X10_enter T c b T (some (vI (-4))) from ?_)
            exact ⟨_, rfl, fr_0 _ _, hke⟩
    · refine (show po_X10_enter T c b T (some (vI (-2))) from ?_)
      exact ⟨_, rfl, fr_0 _ _, hke⟩
