abbrev cX5_isBetween : ByteArray := prog_7_method_13_code
def yX5_isBetween : MethodName := ⟨RX5, "isBetween", "(III)Z"⟩
def zX5_isBetween : Zm := (RX5, cX5_isBetween, 4, (some .boolean), { frames := 0, cells := 0, slots := 0, locals := 0 })
theorem bk_X5_isBetween_0 : ck_ fX5 (some .boolean) cX5_isBetween 0 [.aload 0, .tableswitch 0 5 0 #[], .iload 1, .iaload, .iload 2, .if_icmp .lt 24, .aload 0, .tableswitch 0 5 0 #[], .iload 1, .iaload, .iload 3, .if_icmp .gt 24, .iconst 1, .goto 25] 24 = true := qck_r (nn_ _) (by decide +kernel)
theorem bs_X5_isBetween_0 {P : Zt → Option Zv → Prop} (K : Int → Zl → List Zv → Zt → Prop) : sx_ K P [.aload 0, .tableswitch 0 5 0 #[], .iload 1, .iaload, .iload 2, .if_icmp .lt 24, .aload 0, .tableswitch 0 5 0 #[], .iload 1, .iaload, .iload 3, .if_icmp .gt 24, .iconst 1, .goto 25] 24 = x_aload 0 (x_g1 105 500 (x_iload 1 (x_iaload (x_iload 2 (x_if_icmp .lt 24 K (x_aload 0 (x_g1 105 500 (x_iload 1 (x_iaload (x_iload 3 (x_if_icmp .gt 24 K (x_iconst 1 (x_goto 25 K))))))))))))) := ((xe_aload 0).trans (congrArg (x_aload 0) ((xe_g1 (kk := 105) rfl tl_5_0).trans (congrArg (x_g1 105 500) ((xe_iload 1).trans (congrArg (x_iload 1) ((xe_iaload).trans (congrArg (x_iaload) ((xe_iload 2).trans (congrArg (x_iload 2) ((xe_if_icmp .lt 24).trans (congrArg (x_if_icmp .lt 24 K) ((xe_aload 0).trans (congrArg (x_aload 0) ((xe_g1 (kk := 105) rfl tl_5_0).trans (congrArg (x_g1 105 500) ((xe_iload 1).trans (congrArg (x_iload 1) ((xe_iaload).trans (congrArg (x_iaload) ((xe_iload 3).trans (congrArg (x_iload 3) ((xe_if_icmp .gt 24).trans (congrArg (x_if_icmp .gt 24 K) ((xe_iconst 1).trans (congrArg (x_iconst 1) (xe_goto 25)))))))))))))))))))))))))))
theorem bk_X5_isBetween_24 : ck_ fX5 (some .boolean) cX5_isBetween 24 [.iconst 0, .ireturn] 26 = true := qck_r (nn_ _) (by decide +kernel)
theorem bs_X5_isBetween_24 {P : Zt → Option Zv → Prop} (K : Int → Zl → List Zv → Zt → Prop) : sx_ K P [.iconst 0, .ireturn] 26 = x_iconst 0 (x_ireturn P) := ((xe_iconst 0).trans (congrArg (x_iconst 0) (xe_ireturn)))
theorem bk_X5_isBetween_25 : ck_ fX5 (some .boolean) cX5_isBetween 25 [.ireturn] 26 = true := qck_r (nn_ _) (by decide +kernel)
theorem bs_X5_isBetween_25 {P : Zt → Option Zv → Prop} (K : Int → Zl → List Zv → Zt → Prop) : sx_ K P [.ireturn] 26 = x_ireturn P := (xe_ireturn)
abbrev po_X5_isBetween (T : Zt) (a l h : Int) : Zt → Option Zv → Prop := fun T' r => T = T' ∧ ∃ x : Int, r = some (vI x) ∧ (0 ≤ x ∧ x ≤ 1)
set_option maxHeartbeats 4000000 in
theorem ct_X5_isBetween {T : Zt} {a l h : Int} (h1 : 0 ≤ a ∧ a < 400) : Ct_ yX5_isBetween zX5_isBetween T [vR 105 0, vI a, vI l, vI h] (po_X5_isBetween T a l h) := by
  refine ct_of pn_5 rfl rfl (Nat.le_of_ble_eq_true rfl) (fun hT hav => ?_)
  have hr_a : -2147483648 ≤ a ∧ a ≤ 2147483647 := hav (vI a) (by simp)
  have hr_l : -2147483648 ≤ l ∧ l ≤ 2147483647 := hav (vI l) (by simp)
  have hr_h : -2147483648 ≤ h ∧ h ≤ 2147483647 := hav (vI h) (by simp)
  have hz : zX5_isBetween.2.2.2.1 = some .boolean → ∀ (T' : Zt) (x : Int), po_X5_isBetween T a l h T' (some (vI x)) → 0 ≤ x ∧ x ≤ 1 := fun _ T' x h => by obtain ⟨-, y, e, hy⟩ := h; cases e; omega
  show J_ zX5_isBetween T (po_X5_isBetween T a l h) 0 0 0 [some (vR 105 0), some (vI a), some (vI l), some (vI h)] [] T
  refine j_blx (F := fX5) tb_X5 (nn_ _) bk_X5_isBetween_0 bs_X5_isBetween_0 hz (fun K hK => ?_)
  refine ix_i (by omega) ?_
  intro b1 b1b
  refine And.intro (fun c2 => ?_) (fun c2 => ?_)
  · refine hK 24 _ [] T ?_
    refine j_blx (F := fX5) tb_X5 (nn_ _) bk_X5_isBetween_24 bs_X5_isBetween_24 hz (fun K hK => ?_)
    refine (show po_X5_isBetween T a l h T (some (vI 0)) from ?_)
    exact ⟨rfl, _, rfl, by omega⟩
  · refine ix_i (by omega) ?_
    intro b3 b3b
    refine And.intro (fun c4 => ?_) (fun c4 => ?_)
    · refine hK 24 _ [] T ?_
      refine j_blx (F := fX5) tb_X5 (nn_ _) bk_X5_isBetween_24 bs_X5_isBetween_24 hz (fun K hK => ?_)
      refine (show po_X5_isBetween T a l h T (some (vI 0)) from ?_)
      exact ⟨rfl, _, rfl, by omega⟩
    · refine hK 25 _ [vI 1] T ?_
      refine j_blx (F := fX5) tb_X5 (nn_ _) bk_X5_isBetween_25 bs_X5_isBetween_25 hz (fun K hK => ?_)
      refine (show po_X5_isBetween T a l h T (some (vI 1)) from ?_)
      exact ⟨rfl, _, rfl, by omega⟩
abbrev cX5_takeRun : ByteArray := prog_7_method_12_code
def yX5_takeRun : MethodName := ⟨RX5, "takeRun", "(IIII)V"⟩
def zX5_takeRun : Zm := (RX5, cX5_takeRun, 5, none, { frames := 1, cells := 0, slots := 0, locals := 23 })
theorem bk_X5_takeRun_0 : ck_ fX5 none cX5_takeRun 0 [.aload 0, .tableswitch 0 5 9 #[], .aload 0, .tableswitch 0 5 1 #[], .if_icmp .ge 37, .aload 0, .aload 0, .tableswitch 0 5 9 #[], .iload 1, .iload 2] 18 = true := qck_r (nn_ _) (by decide +kernel)
theorem bs_X5_takeRun_0 {P : Zt → Option Zv → Prop} (K : Int → Zl → List Zv → Zt → Prop) : sx_ K P [.aload 0, .tableswitch 0 5 9 #[], .aload 0, .tableswitch 0 5 1 #[], .if_icmp .ge 37, .aload 0, .aload 0, .tableswitch 0 5 9 #[], .iload 1, .iload 2] 18 = x_aload 0 (x_g0 105 9 0 400 (x_aload 0 (x_g0 105 1 0 400 (x_if_icmp .ge 37 K (x_aload 0 (x_aload 0 (x_g0 105 9 0 400 (x_iload 1 (x_iload 2 (K 18)))))))))) := ((xe_aload 0).trans (congrArg (x_aload 0) ((xe_g0 (kk := 105) rfl tl_5_9).trans (congrArg (x_g0 105 9 0 400) ((xe_aload 0).trans (congrArg (x_aload 0) ((xe_g0 (kk := 105) rfl tl_5_1).trans (congrArg (x_g0 105 1 0 400) ((xe_if_icmp .ge 37).trans (congrArg (x_if_icmp .ge 37 K) ((xe_aload 0).trans (congrArg (x_aload 0) ((xe_aload 0).trans (congrArg (x_aload 0) ((xe_g0 (kk := 105) rfl tl_5_9).trans (congrArg (x_g0 105 9 0 400) ((xe_iload 1).trans (congrArg (x_iload 1) ((xe_iload 2).trans (congrArg (x_iload 2) xe_nil))))))))))))))))))))
theorem bk_X5_takeRun_37 : ck_ fX5 none cX5_takeRun 37 [.aload 0, .aload 0, .tableswitch 0 5 9 #[], .aload 0, .tableswitch 0 5 8 #[], .isub, .iload 4, .if_icmp .le 56, .iconst 5, .goto 57] 56 = true := qck_r (nn_ _) (by decide +kernel)
theorem bs_X5_takeRun_37 {P : Zt → Option Zv → Prop} (K : Int → Zl → List Zv → Zt → Prop) : sx_ K P [.aload 0, .aload 0, .tableswitch 0 5 9 #[], .aload 0, .tableswitch 0 5 8 #[], .isub, .iload 4, .if_icmp .le 56, .iconst 5, .goto 57] 56 = x_aload 0 (x_aload 0 (x_g0 105 9 0 400 (x_aload 0 (x_g0 105 8 0 400 (x_isub (x_iload 4 (x_if_icmp .le 56 K (x_iconst 5 (x_goto 57 K))))))))) := ((xe_aload 0).trans (congrArg (x_aload 0) ((xe_aload 0).trans (congrArg (x_aload 0) ((xe_g0 (kk := 105) rfl tl_5_9).trans (congrArg (x_g0 105 9 0 400) ((xe_aload 0).trans (congrArg (x_aload 0) ((xe_g0 (kk := 105) rfl tl_5_8).trans (congrArg (x_g0 105 8 0 400) ((xe_isub).trans (congrArg (x_isub) ((xe_iload 4).trans (congrArg (x_iload 4) ((xe_if_icmp .le 56).trans (congrArg (x_if_icmp .le 56 K) ((xe_iconst 5).trans (congrArg (x_iconst 5) (xe_goto 57)))))))))))))))))))
theorem bk_X5_takeRun_56 : ck_ fX5 none cX5_takeRun 56 [.iload 3, .tableswitch 1 5 7 #[], .return_] 61 = true := qck_r (nn_ _) (by decide +kernel)
theorem bs_X5_takeRun_56 {P : Zt → Option Zv → Prop} (K : Int → Zl → List Zv → Zt → Prop) : sx_ K P [.iload 3, .tableswitch 1 5 7 #[], .return_] 61 = x_iload 3 (x_p 105 7 0 5 (x_return_ P)) := ((xe_iload 3).trans (congrArg (x_iload 3) ((xe_p (kk := 105) rfl tl_5_7).trans (congrArg (x_p 105 7 0 5) (xe_return_)))))
theorem bk_X5_takeRun_57 : ck_ fX5 none cX5_takeRun 57 [.tableswitch 1 5 7 #[], .return_] 61 = true := qck_r (nn_ _) (by decide +kernel)
theorem bs_X5_takeRun_57 {P : Zt → Option Zv → Prop} (K : Int → Zl → List Zv → Zt → Prop) : sx_ K P [.tableswitch 1 5 7 #[], .return_] 61 = x_p 105 7 0 5 (x_return_ P) := ((xe_p (kk := 105) rfl tl_5_7).trans (congrArg (x_p 105 7 0 5) (xe_return_)))
set_option maxRecDepth 100000 in
theorem cl_X5_104 : cv_ RX5 104 yX5_isBetween zX5_isBetween 5 3 := ⟨gi_V (lw_b2 210 (by decide +kernel) rfl : Cond.methodLink RX5 104 yX5_isBetween ∈ lw_g) (lw_b2 212 (by decide +kernel) rfl : Cond.instanceMethod yX5_isBetween ∈ lw_g) (lw_sel 109 rfl : Cond.selects yX5_isBetween.cls yX5_isBetween yX5_isBetween ∈ lw_g) (lw_b1 2 (by decide +kernel) rfl : Cond.initialized yX5_isBetween.cls ∈ lw_g) (lw_b2 213 rfl rfl : Cond.code yX5_isBetween cX5_isBetween 4 (some .boolean) ∈ lw_g), ⟨by decide, by decide, by decide +kernel⟩, ⟨_, _, rfl⟩⟩
theorem bk_X5_takeRun_21 : ck_ fX5 none cX5_takeRun 21 [.ifCond .eq 37, .aload 0, .dup, .tableswitch 0 5 9 #[], .iconst 1, .iadd, .tableswitch 1 5 9 #[], .goto 0] 37 = true := qck_r (nn_ _) (by decide +kernel)
theorem bs_X5_takeRun_21 {P : Zt → Option Zv → Prop} (K : Int → Zl → List Zv → Zt → Prop) : sx_ K P [.ifCond .eq 37, .aload 0, .dup, .tableswitch 0 5 9 #[], .iconst 1, .iadd, .tableswitch 1 5 9 #[], .goto 0] 37 = x_ifCond .eq 37 K (x_aload 0 (x_dup (x_g0 105 9 0 400 (x_iconst 1 (x_iadd (x_p 105 9 0 400 (x_goto 0 K))))))) := ((xe_ifCond .eq 37).trans (congrArg (x_ifCond .eq 37 K) ((xe_aload 0).trans (congrArg (x_aload 0) ((xe_dup).trans (congrArg (x_dup) ((xe_g0 (kk := 105) rfl tl_5_9).trans (congrArg (x_g0 105 9 0 400) ((xe_iconst 1).trans (congrArg (x_iconst 1) ((xe_iadd).trans (congrArg (x_iadd) ((xe_p (kk := 105) rfl tl_5_9).trans (congrArg (x_p 105 9 0 400) (xe_goto 0)))))))))))))))
abbrev po_X5_takeRun (T : Zt) (l h k m : Int) : Zt → Option Zv → Prop := fun T' r => r = none ∧ fr_ [(105, [7, 9])] T T' ∧ (0 = (0 : Int))
set_option maxHeartbeats 4000000 in
theorem ct_X5_takeRun {T : Zt} {l h k m : Int} (hk : 0 ≤ k ∧ k ≤ 5) : Ct_ yX5_takeRun zX5_takeRun T [vR 105 0, vI l, vI h, vI k, vI m] (po_X5_takeRun T l h k m) := by
  refine ct_of pn_5 rfl rfl (Nat.le_of_ble_eq_true rfl) (fun hT hav => ?_)
  have hr_l : -2147483648 ≤ l ∧ l ≤ 2147483647 := hav (vI l) (by simp)
  have hr_h : -2147483648 ≤ h ∧ h ≤ 2147483647 := hav (vI h) (by simp)
  have hr_k : -2147483648 ≤ k ∧ k ≤ 2147483647 := hav (vI k) (by simp)
  have hr_m : -2147483648 ≤ m ∧ m ≤ 2147483647 := hav (vI m) (by simp)
  have hz : zX5_takeRun.2.2.2.1 = some .boolean → ∀ (T' : Zt) (x : Int), po_X5_takeRun T l h k m T' (some (vI x)) → 0 ≤ x ∧ x ≤ 1 := fun h => by cases h
  have hln : 0 ≤ T 105 0 1 ∧ T 105 0 1 ≤ 400 := bd_f hT 105 1 (by decide +kernel : (tf_ 105)[1]? = some (0, 0, 0, 400)) 0
  have hte : 0 ≤ T 105 0 9 ∧ T 105 0 9 ≤ 400 := bd_f hT 105 9 (by decide +kernel : (tf_ 105)[9]? = some (0, 0, 0, 400)) 0
  have hts : 0 ≤ T 105 0 8 ∧ T 105 0 8 ≤ 400 := bd_f hT 105 8 (by decide +kernel : (tf_ 105)[8]? = some (0, 0, 0, 400)) 0
  show J_ zX5_takeRun T (po_X5_takeRun T l h k m) 0 0 0 [some (vR 105 0), some (vI l), some (vI h), some (vI k), some (vI m)] [] T
  have c_0 : ∀ (nn : Nat) (T1 : Zt), ((400 - T1 105 0 9).toNat) ≤ nn → (fr_ [(105, [9])] T T1) → (0 ≤ T1 105 0 9 ∧ T1 105 0 9 ≤ 400) → J_ zX5_takeRun T (po_X5_takeRun T l h k m) 0 0 0 [some (vR 105 0), some (vI l), some (vI h), some (vI k), some (vI m)] [] T1 := by
    intro nn
    induction nn using Nat.strongRecOn with
    | _ nn ih_0 =>
      intro T1 hm_0 hf_0 i1
      refine j_blx (F := fX5) tb_X5 (nn_ _) bk_X5_takeRun_0 bs_X5_takeRun_0 hz (fun K hK => ?_)
      intro b1 b1b
      intro b2 b2b
      have e3 : T1 105 0 1 = T 105 0 1 := hf_0 105 0 1 rfl
      rw [e3] at b2 b2b ⊢
      refine And.intro (fun c4 => ?_) (fun c4 => ?_)
      · refine hK 37 _ [] T1 ?_
        refine j_blx (F := fX5) tb_X5 (nn_ _) bk_X5_takeRun_37 bs_X5_takeRun_37 hz (fun K hK => ?_)
        intro b5 b5b
        intro b6 b6b
        have e7 : T1 105 0 8 = T 105 0 8 := hf_0 105 0 8 rfl
        rw [e7] at b6 b6b ⊢
        refine rg_i (by omega) ?_
        refine And.intro (fun c8 => ?_) (fun c8 => ?_)
        · refine hK 56 _ [vR 105 0] T1 ?_
          refine j_blx (F := fX5) tb_X5 (nn_ _) bk_X5_takeRun_56 bs_X5_takeRun_56 hz (fun K hK => ?_)
          refine bd_i (by omega) ?_
          refine x_nm (fun U9 hU9 => ?_)
          have e10 := up_f hU9
          refine (show po_X5_takeRun T l h k m U9 (none) from ?_)
          exact ⟨rfl, fr_u (fr_t (fr_0 _ _) (fr_s hf_0 rfl)) hU9 rfl, by rfl⟩
        · refine hK 57 _ [vI 5, vR 105 0] T1 ?_
          refine j_blx (F := fX5) tb_X5 (nn_ _) bk_X5_takeRun_57 bs_X5_takeRun_57 hz (fun K hK => ?_)
          refine bd_i (by omega) ?_
          refine x_nm (fun U11 hU11 => ?_)
          have e12 := up_f hU11
          refine (show po_X5_takeRun T l h k m U11 (none) from ?_)
          exact ⟨rfl, fr_u (fr_t (fr_0 _ _) (fr_s hf_0 rfl)) hU11 rfl, by rfl⟩
      · intro b13 b13b
        refine hK 18 _ [vI h, vI l, vI (T1 105 0 9), vR 105 0] T1 ?_
        refine j_callV (y := yX5_isBetween) (Yc := zX5_isBetween) (rest := []) [vI (T1 105 0 9), vI l, vI h] (ct_X5_isBetween (T := T1) (by omega)) cl_X5_104 (qd_c (by decide +kernel)) (nn_ _) rfl (rf_of rfl) (Nat.le_of_ble_eq_true rfl) (Nat.le_of_ble_eq_true rfl) (Nat.le_of_ble_eq_true rfl) rfl ?_
        rintro _ _ ⟨rfl, x14, rfl, hx14⟩
        show J_ zX5_takeRun T (po_X5_takeRun T l h k m) 0 0 21 _ [vI x14] T1
        refine j_blx (F := fX5) tb_X5 (nn_ _) bk_X5_takeRun_21 bs_X5_takeRun_21 hz (fun K hK => ?_)
        refine And.intro (fun c15 => ?_) (fun c15 => ?_)
        · refine hK 37 _ [] T1 ?_
          refine j_blx (F := fX5) tb_X5 (nn_ _) bk_X5_takeRun_37 bs_X5_takeRun_37 hz (fun K hK => ?_)
          intro b16 b16b
          intro b17 b17b
          have e18 : T1 105 0 8 = T 105 0 8 := hf_0 105 0 8 rfl
          rw [e18] at b17 b17b ⊢
          refine rg_i (by omega) ?_
          refine And.intro (fun c19 => ?_) (fun c19 => ?_)
          · refine hK 56 _ [vR 105 0] T1 ?_
            refine j_blx (F := fX5) tb_X5 (nn_ _) bk_X5_takeRun_56 bs_X5_takeRun_56 hz (fun K hK => ?_)
            refine bd_i (by omega) ?_
            refine x_nm (fun U20 hU20 => ?_)
            have e21 := up_f hU20
            refine (show po_X5_takeRun T l h k m U20 (none) from ?_)
            exact ⟨rfl, fr_u (fr_t (fr_0 _ _) (fr_s hf_0 rfl)) hU20 rfl, by rfl⟩
          · refine hK 57 _ [vI 5, vR 105 0] T1 ?_
            refine j_blx (F := fX5) tb_X5 (nn_ _) bk_X5_takeRun_57 bs_X5_takeRun_57 hz (fun K hK => ?_)
            refine bd_i (by omega) ?_
            refine x_nm (fun U22 hU22 => ?_)
            have e23 := up_f hU22
            refine (show po_X5_takeRun T l h k m U22 (none) from ?_)
            exact ⟨rfl, fr_u (fr_t (fr_0 _ _) (fr_s hf_0 rfl)) hU22 rfl, by rfl⟩
        · intro b24 b24b
          refine rg_i (by omega) ?_
          refine bd_i (by omega) ?_
          refine x_nm (fun U25 hU25 => ?_)
          have e26 := up_f hU25
          refine hK 0 _ [] U25 ?_
          have e27 : U25 105 0 9 = (T1 105 0 9) + 1 := up_f hU25
          refine ih_0 _ ?_ U25 (Nat.le_refl _) ?_ ?_
          · omega
          · exact fr_u (fr_t (fr_0 _ _) (fr_s hf_0 rfl)) hU25 rfl
          · omega
  refine c_0 _ T (Nat.le_refl _) ?_ ?_
  · exact fr_0 _ _
  · omega
abbrev cX5_nextToken : ByteArray := prog_7_method_11_code
def yX5_nextToken : MethodName := ⟨RX5, "nextToken", "()V"⟩
def zX5_nextToken : Zm := (RX5, cX5_nextToken, 2, none, { frames := 2, cells := 0, slots := 0, locals := 47 })
theorem bk_X5_nextToken_5 : ck_ fX5 none cX5_nextToken 5 [.iload 1, .aload 0, .tableswitch 0 5 1 #[], .if_icmp .ge 41, .aload 0, .tableswitch 0 5 0 #[], .iload 1, .iaload, .iconst 10, .if_icmp .eq 35, .aload 0, .tableswitch 0 5 0 #[], .iload 1, .iaload, .iconst 32, .if_icmp .ne 41, .iinc 1 1, .goto 5] 41 = true := qck_r (nn_ _) (by decide +kernel)
theorem bs_X5_nextToken_5 {P : Zt → Option Zv → Prop} (K : Int → Zl → List Zv → Zt → Prop) : sx_ K P [.iload 1, .aload 0, .tableswitch 0 5 1 #[], .if_icmp .ge 41, .aload 0, .tableswitch 0 5 0 #[], .iload 1, .iaload, .iconst 10, .if_icmp .eq 35, .aload 0, .tableswitch 0 5 0 #[], .iload 1, .iaload, .iconst 32, .if_icmp .ne 41, .iinc 1 1, .goto 5] 41 = x_iload 1 (x_aload 0 (x_g0 105 1 0 400 (x_if_icmp .ge 41 K (x_aload 0 (x_g1 105 500 (x_iload 1 (x_iaload (x_iconst 10 (x_if_icmp .eq 35 K (x_aload 0 (x_g1 105 500 (x_iload 1 (x_iaload (x_iconst 32 (x_if_icmp .ne 41 K (x_iinc 1 1 (x_goto 5 K))))))))))))))))) := ((xe_iload 1).trans (congrArg (x_iload 1) ((xe_aload 0).trans (congrArg (x_aload 0) ((xe_g0 (kk := 105) rfl tl_5_1).trans (congrArg (x_g0 105 1 0 400) ((xe_if_icmp .ge 41).trans (congrArg (x_if_icmp .ge 41 K) ((xe_aload 0).trans (congrArg (x_aload 0) ((xe_g1 (kk := 105) rfl tl_5_0).trans (congrArg (x_g1 105 500) ((xe_iload 1).trans (congrArg (x_iload 1) ((xe_iaload).trans (congrArg (x_iaload) ((xe_iconst 10).trans (congrArg (x_iconst 10) ((xe_if_icmp .eq 35).trans (congrArg (x_if_icmp .eq 35 K) ((xe_aload 0).trans (congrArg (x_aload 0) ((xe_g1 (kk := 105) rfl tl_5_0).trans (congrArg (x_g1 105 500) ((xe_iload 1).trans (congrArg (x_iload 1) ((xe_iaload).trans (congrArg (x_iaload) ((xe_iconst 32).trans (congrArg (x_iconst 32) ((xe_if_icmp .ne 41).trans (congrArg (x_if_icmp .ne 41 K) ((xe_iinc 1 1).trans (congrArg (x_iinc 1 1) (xe_goto 5)))))))))))))))))))))))))))))))))))
theorem bk_X5_nextToken_41 : ck_ fX5 none cX5_nextToken 41 [.aload 0, .iload 1, .tableswitch 1 5 8 #[], .aload 0, .iload 1, .tableswitch 1 5 9 #[], .iload 1, .aload 0, .tableswitch 0 5 1 #[], .if_icmp .lt 67, .aload 0, .iconst 0, .tableswitch 1 5 7 #[], .goto 160] 67 = true := qck_r (nn_ _) (by decide +kernel)
theorem bs_X5_nextToken_41 {P : Zt → Option Zv → Prop} (K : Int → Zl → List Zv → Zt → Prop) : sx_ K P [.aload 0, .iload 1, .tableswitch 1 5 8 #[], .aload 0, .iload 1, .tableswitch 1 5 9 #[], .iload 1, .aload 0, .tableswitch 0 5 1 #[], .if_icmp .lt 67, .aload 0, .iconst 0, .tableswitch 1 5 7 #[], .goto 160] 67 = x_aload 0 (x_iload 1 (x_p 105 8 0 400 (x_aload 0 (x_iload 1 (x_p 105 9 0 400 (x_iload 1 (x_aload 0 (x_g0 105 1 0 400 (x_if_icmp .lt 67 K (x_aload 0 (x_iconst 0 (x_p 105 7 0 5 (x_goto 160 K))))))))))))) := ((xe_aload 0).trans (congrArg (x_aload 0) ((xe_iload 1).trans (congrArg (x_iload 1) ((xe_p (kk := 105) rfl tl_5_8).trans (congrArg (x_p 105 8 0 400) ((xe_aload 0).trans (congrArg (x_aload 0) ((xe_iload 1).trans (congrArg (x_iload 1) ((xe_p (kk := 105) rfl tl_5_9).trans (congrArg (x_p 105 9 0 400) ((xe_iload 1).trans (congrArg (x_iload 1) ((xe_aload 0).trans (congrArg (x_aload 0) ((xe_g0 (kk := 105) rfl tl_5_1).trans (congrArg (x_g0 105 1 0 400) ((xe_if_icmp .lt 67).trans (congrArg (x_if_icmp .lt 67 K) ((xe_aload 0).trans (congrArg (x_aload 0) ((xe_iconst 0).trans (congrArg (x_iconst 0) ((xe_p (kk := 105) rfl tl_5_7).trans (congrArg (x_p 105 7 0 5) (xe_goto 160)))))))))))))))))))))))))))
theorem bk_X5_nextToken_67 : ck_ fX5 none cX5_nextToken 67 [.aload 0, .iload 1, .iconst 97, .iconst 122] 73 = true := qck_r (nn_ _) (by decide +kernel)
theorem bs_X5_nextToken_67 {P : Zt → Option Zv → Prop} (K : Int → Zl → List Zv → Zt → Prop) : sx_ K P [.aload 0, .iload 1, .iconst 97, .iconst 122] 73 = x_aload 0 (x_iload 1 (x_iconst 97 (x_iconst 122 (K 73)))) := ((xe_aload 0).trans (congrArg (x_aload 0) ((xe_iload 1).trans (congrArg (x_iload 1) ((xe_iconst 97).trans (congrArg (x_iconst 97) ((xe_iconst 122).trans (congrArg (x_iconst 122) xe_nil))))))))
theorem bk_X5_nextToken_76 : ck_ fX5 none cX5_nextToken 76 [.ifCond .eq 93, .aload 0, .iconst 97, .iconst 122, .iconst 1, .iconst 12] 87 = true := qck_r (nn_ _) (by decide +kernel)
theorem bs_X5_nextToken_76 {P : Zt → Option Zv → Prop} (K : Int → Zl → List Zv → Zt → Prop) : sx_ K P [.ifCond .eq 93, .aload 0, .iconst 97, .iconst 122, .iconst 1, .iconst 12] 87 = x_ifCond .eq 93 K (x_aload 0 (x_iconst 97 (x_iconst 122 (x_iconst 1 (x_iconst 12 (K 87)))))) := ((xe_ifCond .eq 93).trans (congrArg (x_ifCond .eq 93 K) ((xe_aload 0).trans (congrArg (x_aload 0) ((xe_iconst 97).trans (congrArg (x_iconst 97) ((xe_iconst 122).trans (congrArg (x_iconst 122) ((xe_iconst 1).trans (congrArg (x_iconst 1) ((xe_iconst 12).trans (congrArg (x_iconst 12) xe_nil))))))))))))
theorem bk_X5_nextToken_93 : ck_ fX5 none cX5_nextToken 93 [.aload 0, .iload 1, .iconst 48, .iconst 57] 99 = true := qck_r (nn_ _) (by decide +kernel)
theorem bs_X5_nextToken_93 {P : Zt → Option Zv → Prop} (K : Int → Zl → List Zv → Zt → Prop) : sx_ K P [.aload 0, .iload 1, .iconst 48, .iconst 57] 99 = x_aload 0 (x_iload 1 (x_iconst 48 (x_iconst 57 (K 99)))) := ((xe_aload 0).trans (congrArg (x_aload 0) ((xe_iload 1).trans (congrArg (x_iload 1) ((xe_iconst 48).trans (congrArg (x_iconst 48) ((xe_iconst 57).trans (congrArg (x_iconst 57) xe_nil))))))))
theorem bk_X5_nextToken_102 : ck_ fX5 none cX5_nextToken 102 [.ifCond .eq 118, .aload 0, .iconst 48, .iconst 57, .iconst 2, .iconst 3] 112 = true := qck_r (nn_ _) (by decide +kernel)
theorem bs_X5_nextToken_102 {P : Zt → Option Zv → Prop} (K : Int → Zl → List Zv → Zt → Prop) : sx_ K P [.ifCond .eq 118, .aload 0, .iconst 48, .iconst 57, .iconst 2, .iconst 3] 112 = x_ifCond .eq 118 K (x_aload 0 (x_iconst 48 (x_iconst 57 (x_iconst 2 (x_iconst 3 (K 112)))))) := ((xe_ifCond .eq 118).trans (congrArg (x_ifCond .eq 118 K) ((xe_aload 0).trans (congrArg (x_aload 0) ((xe_iconst 48).trans (congrArg (x_iconst 48) ((xe_iconst 57).trans (congrArg (x_iconst 57) ((xe_iconst 2).trans (congrArg (x_iconst 2) ((xe_iconst 3).trans (congrArg (x_iconst 3) xe_nil))))))))))))
theorem bk_X5_nextToken_118 : ck_ fX5 none cX5_nextToken 118 [.aload 0, .iload 1, .iconst 1, .iadd, .tableswitch 1 5 9 #[], .aload 0, .aload 0, .tableswitch 0 5 0 #[], .iload 1, .iaload, .iconst 59, .if_icmp .ne 141, .iconst 3, .goto 157] 141 = true := qck_r (nn_ _) (by decide +kernel)
theorem bs_X5_nextToken_118 {P : Zt → Option Zv → Prop} (K : Int → Zl → List Zv → Zt → Prop) : sx_ K P [.aload 0, .iload 1, .iconst 1, .iadd, .tableswitch 1 5 9 #[], .aload 0, .aload 0, .tableswitch 0 5 0 #[], .iload 1, .iaload, .iconst 59, .if_icmp .ne 141, .iconst 3, .goto 157] 141 = x_aload 0 (x_iload 1 (x_iconst 1 (x_iadd (x_p 105 9 0 400 (x_aload 0 (x_aload 0 (x_g1 105 500 (x_iload 1 (x_iaload (x_iconst 59 (x_if_icmp .ne 141 K (x_iconst 3 (x_goto 157 K))))))))))))) := ((xe_aload 0).trans (congrArg (x_aload 0) ((xe_iload 1).trans (congrArg (x_iload 1) ((xe_iconst 1).trans (congrArg (x_iconst 1) ((xe_iadd).trans (congrArg (x_iadd) ((xe_p (kk := 105) rfl tl_5_9).trans (congrArg (x_p 105 9 0 400) ((xe_aload 0).trans (congrArg (x_aload 0) ((xe_aload 0).trans (congrArg (x_aload 0) ((xe_g1 (kk := 105) rfl tl_5_0).trans (congrArg (x_g1 105 500) ((xe_iload 1).trans (congrArg (x_iload 1) ((xe_iaload).trans (congrArg (x_iaload) ((xe_iconst 59).trans (congrArg (x_iconst 59) ((xe_if_icmp .ne 141).trans (congrArg (x_if_icmp .ne 141 K) ((xe_iconst 3).trans (congrArg (x_iconst 3) (xe_goto 157)))))))))))))))))))))))))))
theorem bk_X5_nextToken_141 : ck_ fX5 none cX5_nextToken 141 [.aload 0, .tableswitch 0 5 0 #[], .iload 1, .iaload, .iconst 44, .if_icmp .ne 156, .iconst 4, .goto 157] 156 = true := qck_r (nn_ _) (by decide +kernel)
theorem bs_X5_nextToken_141 {P : Zt → Option Zv → Prop} (K : Int → Zl → List Zv → Zt → Prop) : sx_ K P [.aload 0, .tableswitch 0 5 0 #[], .iload 1, .iaload, .iconst 44, .if_icmp .ne 156, .iconst 4, .goto 157] 156 = x_aload 0 (x_g1 105 500 (x_iload 1 (x_iaload (x_iconst 44 (x_if_icmp .ne 156 K (x_iconst 4 (x_goto 157 K))))))) := ((xe_aload 0).trans (congrArg (x_aload 0) ((xe_g1 (kk := 105) rfl tl_5_0).trans (congrArg (x_g1 105 500) ((xe_iload 1).trans (congrArg (x_iload 1) ((xe_iaload).trans (congrArg (x_iaload) ((xe_iconst 44).trans (congrArg (x_iconst 44) ((xe_if_icmp .ne 156).trans (congrArg (x_if_icmp .ne 156 K) ((xe_iconst 4).trans (congrArg (x_iconst 4) (xe_goto 157)))))))))))))))
theorem bk_X5_nextToken_156 : ck_ fX5 none cX5_nextToken 156 [.iconst 5, .tableswitch 1 5 7 #[], .return_] 161 = true := qck_r (nn_ _) (by decide +kernel)
theorem bs_X5_nextToken_156 {P : Zt → Option Zv → Prop} (K : Int → Zl → List Zv → Zt → Prop) : sx_ K P [.iconst 5, .tableswitch 1 5 7 #[], .return_] 161 = x_iconst 5 (x_p 105 7 0 5 (x_return_ P)) := ((xe_iconst 5).trans (congrArg (x_iconst 5) ((xe_p (kk := 105) rfl tl_5_7).trans (congrArg (x_p 105 7 0 5) (xe_return_)))))
theorem bk_X5_nextToken_157 : ck_ fX5 none cX5_nextToken 157 [.tableswitch 1 5 7 #[], .return_] 161 = true := qck_r (nn_ _) (by decide +kernel)
theorem bs_X5_nextToken_157 {P : Zt → Option Zv → Prop} (K : Int → Zl → List Zv → Zt → Prop) : sx_ K P [.tableswitch 1 5 7 #[], .return_] 161 = x_p 105 7 0 5 (x_return_ P) := ((xe_p (kk := 105) rfl tl_5_7).trans (congrArg (x_p 105 7 0 5) (xe_return_)))
set_option maxRecDepth 100000 in
theorem cl_X5_108 : cv_ RX5 108 yX5_takeRun zX5_takeRun 5 4 := ⟨gi_V (lw_b2 214 (by decide +kernel) rfl : Cond.methodLink RX5 108 yX5_takeRun ∈ lw_g) (lw_b2 216 (by decide +kernel) rfl : Cond.instanceMethod yX5_takeRun ∈ lw_g) (lw_sel 117 rfl : Cond.selects yX5_takeRun.cls yX5_takeRun yX5_takeRun ∈ lw_g) (lw_b1 2 (by decide +kernel) rfl : Cond.initialized yX5_takeRun.cls ∈ lw_g) (lw_b2 217 rfl rfl : Cond.code yX5_takeRun cX5_takeRun 5 none ∈ lw_g), ⟨by decide, by decide, by decide +kernel⟩, ⟨_, _, rfl⟩⟩
theorem bk_X5_nextToken_115 : ck_ fX5 none cX5_nextToken 115 [.goto 160] 118 = true := qck_r (nn_ _) (by decide +kernel)
theorem bs_X5_nextToken_115 {P : Zt → Option Zv → Prop} (K : Int → Zl → List Zv → Zt → Prop) : sx_ K P [.goto 160] 118 = x_goto 160 K := (xe_goto 160)
theorem bk_X5_nextToken_160 : ck_ fX5 none cX5_nextToken 160 [.return_] 161 = true := qck_r (nn_ _) (by decide +kernel)
theorem bs_X5_nextToken_160 {P : Zt → Option Zv → Prop} (K : Int → Zl → List Zv → Zt → Prop) : sx_ K P [.return_] 161 = x_return_ P := (xe_return_)
theorem bk_X5_nextToken_90 : ck_ fX5 none cX5_nextToken 90 [.goto 160] 93 = true := qck_r (nn_ _) (by decide +kernel)
theorem bs_X5_nextToken_90 {P : Zt → Option Zv → Prop} (K : Int → Zl → List Zv → Zt → Prop) : sx_ K P [.goto 160] 93 = x_goto 160 K := (xe_goto 160)
theorem bk_X5_nextToken_35 : ck_ fX5 none cX5_nextToken 35 [.iinc 1 1, .goto 5] 41 = true := qck_r (nn_ _) (by decide +kernel)
theorem bs_X5_nextToken_35 {P : Zt → Option Zv → Prop} (K : Int → Zl → List Zv → Zt → Prop) : sx_ K P [.iinc 1 1, .goto 5] 41 = x_iinc 1 1 (x_goto 5 K) := ((xe_iinc 1 1).trans (congrArg (x_iinc 1 1) (xe_goto 5)))
theorem bk_X5_nextToken_0 : ck_ fX5 none cX5_nextToken 0 [.aload 0, .tableswitch 0 5 9 #[], .istore 1] 5 = true := qck_r (nn_ _) (by decide +kernel)
theorem bs_X5_nextToken_0 {P : Zt → Option Zv → Prop} (K : Int → Zl → List Zv → Zt → Prop) : sx_ K P [.aload 0, .tableswitch 0 5 9 #[], .istore 1] 5 = x_aload 0 (x_g0 105 9 0 400 (x_istore 1 (K 5))) := ((xe_aload 0).trans (congrArg (x_aload 0) ((xe_g0 (kk := 105) rfl tl_5_9).trans (congrArg (x_g0 105 9 0 400) ((xe_istore 1).trans (congrArg (x_istore 1) xe_nil))))))
abbrev po_X5_nextToken (T : Zt) : Zt → Option Zv → Prop := fun T' r => r = none ∧ fr_ [(105, [7, 8, 9])] T T' ∧ (0 = (0 : Int))
set_option maxHeartbeats 4000000 in
theorem ct_X5_nextToken {T : Zt} : Ct_ yX5_nextToken zX5_nextToken T [vR 105 0] (po_X5_nextToken T) := by
  refine ct_of pn_5 rfl rfl (Nat.le_of_ble_eq_true rfl) (fun hT hav => ?_)
  have hz : zX5_nextToken.2.2.2.1 = some .boolean → ∀ (T' : Zt) (x : Int), po_X5_nextToken T T' (some (vI x)) → 0 ≤ x ∧ x ≤ 1 := fun h => by cases h
  have hln : 0 ≤ T 105 0 1 ∧ T 105 0 1 ≤ 400 := bd_f hT 105 1 (by decide +kernel : (tf_ 105)[1]? = some (0, 0, 0, 400)) 0
  have hte : 0 ≤ T 105 0 9 ∧ T 105 0 9 ≤ 400 := bd_f hT 105 9 (by decide +kernel : (tf_ 105)[9]? = some (0, 0, 0, 400)) 0
  show J_ zX5_nextToken T (po_X5_nextToken T) 0 0 0 [some (vR 105 0), none] [] T
  have c_5 : ∀ (nn : Nat) (a : Int), ((400 - a).toNat) ≤ nn → (0 ≤ a ∧ a ≤ 400) → J_ zX5_nextToken T (po_X5_nextToken T) 0 0 5 [some (vR 105 0), some (vI a)] [] T := by
    intro nn
    induction nn using Nat.strongRecOn with
    | _ nn ih_5 =>
      intro a hm_5 i1
      refine j_blx (F := fX5) tb_X5 (nn_ _) bk_X5_nextToken_5 bs_X5_nextToken_5 hz (fun K hK => ?_)
      intro b1 b1b
      refine And.intro (fun c2 => ?_) (fun c2 => ?_)
      · refine hK 41 _ [] T ?_
        refine j_blx (F := fX5) tb_X5 (nn_ _) bk_X5_nextToken_41 bs_X5_nextToken_41 hz (fun K hK => ?_)
        refine bd_i (by omega) ?_
        refine x_nm (fun U3 hU3 => ?_)
        have e4 := up_f hU3
        refine bd_i (by omega) ?_
        refine x_nm (fun U5 hU5 => ?_)
        have e6 := up_f hU5
        intro b7 b7b
        have e8 : U5 105 0 1 = T 105 0 1 := (up_j hU5 (by decide) 105 0).trans (up_j hU3 (by decide) 105 0)
        rw [e8] at b7 b7b ⊢
        refine And.intro (fun c9 => ?_) (fun c9 => ?_)
        · refine hK 67 _ [] U5 ?_
          refine j_blx (F := fX5) tb_X5 (nn_ _) bk_X5_nextToken_67 bs_X5_nextToken_67 hz (fun K hK => ?_)
          refine hK 73 _ [vI 122, vI 97, vI a, vR 105 0] U5 ?_
          refine j_callV (y := yX5_isBetween) (Yc := zX5_isBetween) (rest := []) [vI a, vI 97, vI 122] (ct_X5_isBetween (T := U5) (by omega)) cl_X5_104 (qd_c (by decide +kernel)) (nn_ _) rfl (rf_of rfl) (Nat.le_of_ble_eq_true rfl) (Nat.le_of_ble_eq_true rfl) (Nat.le_of_ble_eq_true rfl) rfl ?_
          rintro _ _ ⟨rfl, x10, rfl, hx10⟩
          show J_ zX5_nextToken T (po_X5_nextToken T) 0 0 76 _ [vI x10] U5
          refine j_blx (F := fX5) tb_X5 (nn_ _) bk_X5_nextToken_76 bs_X5_nextToken_76 hz (fun K hK => ?_)
          refine And.intro (fun c11 => ?_) (fun c11 => ?_)
          · refine hK 93 _ [] U5 ?_
            refine j_blx (F := fX5) tb_X5 (nn_ _) bk_X5_nextToken_93 bs_X5_nextToken_93 hz (fun K hK => ?_)
            refine hK 99 _ [vI 57, vI 48, vI a, vR 105 0] U5 ?_
            refine j_callV (y := yX5_isBetween) (Yc := zX5_isBetween) (rest := []) [vI a, vI 48, vI 57] (ct_X5_isBetween (T := U5) (by omega)) cl_X5_104 (qd_c (by decide +kernel)) (nn_ _) rfl (rf_of rfl) (Nat.le_of_ble_eq_true rfl) (Nat.le_of_ble_eq_true rfl) (Nat.le_of_ble_eq_true rfl) rfl ?_
            rintro _ _ ⟨rfl, x12, rfl, hx12⟩
            show J_ zX5_nextToken T (po_X5_nextToken T) 0 0 102 _ [vI x12] U5
            refine j_blx (F := fX5) tb_X5 (nn_ _) bk_X5_nextToken_102 bs_X5_nextToken_102 hz (fun K hK => ?_)
            refine And.intro (fun c13 => ?_) (fun c13 => ?_)
            · refine hK 118 _ [] U5 ?_
              refine j_blx (F := fX5) tb_X5 (nn_ _) bk_X5_nextToken_118 bs_X5_nextToken_118 hz (fun K hK => ?_)
              refine rg_i (by omega) ?_
              refine bd_i (by omega) ?_
              refine x_nm (fun U14 hU14 => ?_)
              have e15 := up_f hU14
              refine ix_i (by omega) ?_
              intro b16 b16b
              have e17 : U14 500 0 a = T 500 0 a := (up_k hU14 (by exact Nat.ne_of_beq_eq_false rfl) 0 a).trans ((up_k hU5 (by exact Nat.ne_of_beq_eq_false rfl) 0 a).trans (up_k hU3 (by exact Nat.ne_of_beq_eq_false rfl) 0 a))
              rw [e17] at b16 b16b ⊢
              refine And.intro (fun c18 => ?_) (fun c18 => ?_)
              · refine hK 141 _ [vR 105 0] U14 ?_
                refine j_blx (F := fX5) tb_X5 (nn_ _) bk_X5_nextToken_141 bs_X5_nextToken_141 hz (fun K hK => ?_)
                refine ix_i (by omega) ?_
                intro b19 b19b
                have e20 : U14 500 0 a = T 500 0 a := (up_k hU14 (by exact Nat.ne_of_beq_eq_false rfl) 0 a).trans ((up_k hU5 (by exact Nat.ne_of_beq_eq_false rfl) 0 a).trans (up_k hU3 (by exact Nat.ne_of_beq_eq_false rfl) 0 a))
                rw [e20] at b19 b19b ⊢
                refine And.intro (fun c21 => ?_) (fun c21 => ?_)
                · refine hK 156 _ [vR 105 0] U14 ?_
                  refine j_blx (F := fX5) tb_X5 (nn_ _) bk_X5_nextToken_156 bs_X5_nextToken_156 hz (fun K hK => ?_)
                  refine bd_i (by omega) ?_
                  refine x_nm (fun U22 hU22 => ?_)
                  have e23 := up_f hU22
                  refine (show po_X5_nextToken T U22 (none) from ?_)
                  exact ⟨rfl, fr_u (fr_u (fr_u (fr_u (fr_0 _ _) hU3 rfl) hU5 rfl) hU14 rfl) hU22 rfl, by rfl⟩
                · refine hK 157 _ [vI 4, vR 105 0] U14 ?_
                  refine j_blx (F := fX5) tb_X5 (nn_ _) bk_X5_nextToken_157 bs_X5_nextToken_157 hz (fun K hK => ?_)
                  refine bd_i (by omega) ?_
                  refine x_nm (fun U24 hU24 => ?_)
                  have e25 := up_f hU24
                  refine (show po_X5_nextToken T U24 (none) from ?_)
                  exact ⟨rfl, fr_u (fr_u (fr_u (fr_u (fr_0 _ _) hU3 rfl) hU5 rfl) hU14 rfl) hU24 rfl, by rfl⟩
              · refine hK 157 _ [vI 3, vR 105 0] U14 ?_
                refine j_blx (F := fX5) tb_X5 (nn_ _) bk_X5_nextToken_157 bs_X5_nextToken_157 hz (fun K hK => ?_)
                refine bd_i (by omega) ?_
                refine x_nm (fun U26 hU26 => ?_)
                have e27 := up_f hU26
                refine (show po_X5_nextToken T U26 (none) from ?_)
                exact ⟨rfl, fr_u (fr_u (fr_u (fr_u (fr_0 _ _) hU3 rfl) hU5 rfl) hU14 rfl) hU26 rfl, by rfl⟩
            · refine hK 112 _ [vI 3, vI 2, vI 57, vI 48, vR 105 0] U5 ?_
              refine j_callV (y := yX5_takeRun) (Yc := zX5_takeRun) (rest := []) [vI 48, vI 57, vI 2, vI 3] (ct_X5_takeRun (T := U5) (by omega)) cl_X5_108 (qd_c (by decide +kernel)) (nn_ _) rfl (rf_of rfl) (Nat.le_of_ble_eq_true rfl) (Nat.le_of_ble_eq_true rfl) (Nat.le_of_ble_eq_true rfl) rfl ?_
              rintro U28 _ ⟨rfl, fU28, _⟩
              show J_ zX5_nextToken T (po_X5_nextToken T) 0 0 115 _ [] U28
              refine j_blx (F := fX5) tb_X5 (nn_ _) bk_X5_nextToken_115 bs_X5_nextToken_115 hz (fun K hK => ?_)
              refine hK 160 _ [] U28 ?_
              refine j_blx (F := fX5) tb_X5 (nn_ _) bk_X5_nextToken_160 bs_X5_nextToken_160 hz (fun K hK => ?_)
              refine (show po_X5_nextToken T U28 (none) from ?_)
              exact ⟨rfl, fr_t (fr_u (fr_u (fr_0 _ _) hU3 rfl) hU5 rfl) (fr_s fU28 rfl), by rfl⟩
          · refine hK 87 _ [vI 12, vI 1, vI 122, vI 97, vR 105 0] U5 ?_
            refine j_callV (y := yX5_takeRun) (Yc := zX5_takeRun) (rest := []) [vI 97, vI 122, vI 1, vI 12] (ct_X5_takeRun (T := U5) (by omega)) cl_X5_108 (qd_c (by decide +kernel)) (nn_ _) rfl (rf_of rfl) (Nat.le_of_ble_eq_true rfl) (Nat.le_of_ble_eq_true rfl) (Nat.le_of_ble_eq_true rfl) rfl ?_
            rintro U29 _ ⟨rfl, fU29, _⟩
            show J_ zX5_nextToken T (po_X5_nextToken T) 0 0 90 _ [] U29
            refine j_blx (F := fX5) tb_X5 (nn_ _) bk_X5_nextToken_90 bs_X5_nextToken_90 hz (fun K hK => ?_)
            refine hK 160 _ [] U29 ?_
            refine j_blx (F := fX5) tb_X5 (nn_ _) bk_X5_nextToken_160 bs_X5_nextToken_160 hz (fun K hK => ?_)
            refine (show po_X5_nextToken T U29 (none) from ?_)
            exact ⟨rfl, fr_t (fr_u (fr_u (fr_0 _ _) hU3 rfl) hU5 rfl) (fr_s fU29 rfl), by rfl⟩
        · refine bd_i (by omega) ?_
          refine x_nm (fun U30 hU30 => ?_)
          have e31 := up_f hU30
          refine hK 160 _ [] U30 ?_
          refine j_blx (F := fX5) tb_X5 (nn_ _) bk_X5_nextToken_160 bs_X5_nextToken_160 hz (fun K hK => ?_)
          refine (show po_X5_nextToken T U30 (none) from ?_)
          exact ⟨rfl, fr_u (fr_u (fr_u (fr_0 _ _) hU3 rfl) hU5 rfl) hU30 rfl, by rfl⟩
      · refine ix_i (by omega) ?_
        intro b32 b32b
        refine And.intro (fun c33 => ?_) (fun c33 => ?_)
        · refine hK 35 _ [] T ?_
          refine j_blx (F := fX5) tb_X5 (nn_ _) bk_X5_nextToken_35 bs_X5_nextToken_35 hz (fun K hK => ?_)
          refine rg_i (by omega) ?_
          refine hK 5 [some (vR 105 0), some (vI (a + 1))] [] T ?_
          refine ih_5 _ ?_ (a + 1) (Nat.le_refl _) ?_
          · omega
          · omega
        · refine ix_i (by omega) ?_
          intro b34 b34b
          refine And.intro (fun c35 => ?_) (fun c35 => ?_)
          · refine hK 41 [some (vR 105 0), some (vI a)] [] T ?_
            refine j_blx (F := fX5) tb_X5 (nn_ _) bk_X5_nextToken_41 bs_X5_nextToken_41 hz (fun K hK => ?_)
            refine bd_i (by omega) ?_
            refine x_nm (fun U36 hU36 => ?_)
            have e37 := up_f hU36
            refine bd_i (by omega) ?_
            refine x_nm (fun U38 hU38 => ?_)
            have e39 := up_f hU38
            intro b40 b40b
            have e41 : U38 105 0 1 = T 105 0 1 := (up_j hU38 (by decide) 105 0).trans (up_j hU36 (by decide) 105 0)
            rw [e41] at b40 b40b ⊢
            refine And.intro (fun c42 => ?_) (fun c42 => ?_)
            · refine hK 67 _ [] U38 ?_
              refine j_blx (F := fX5) tb_X5 (nn_ _) bk_X5_nextToken_67 bs_X5_nextToken_67 hz (fun K hK => ?_)
              refine hK 73 _ [vI 122, vI 97, vI a, vR 105 0] U38 ?_
              refine j_callV (y := yX5_isBetween) (Yc := zX5_isBetween) (rest := []) [vI a, vI 97, vI 122] (ct_X5_isBetween (T := U38) (by omega)) cl_X5_104 (qd_c (by decide +kernel)) (nn_ _) rfl (rf_of rfl) (Nat.le_of_ble_eq_true rfl) (Nat.le_of_ble_eq_true rfl) (Nat.le_of_ble_eq_true rfl) rfl ?_
              rintro _ _ ⟨rfl, x43, rfl, hx43⟩
              show J_ zX5_nextToken T (po_X5_nextToken T) 0 0 76 _ [vI x43] U38
              refine j_blx (F := fX5) tb_X5 (nn_ _) bk_X5_nextToken_76 bs_X5_nextToken_76 hz (fun K hK => ?_)
              refine And.intro (fun c44 => ?_) (fun c44 => ?_)
              · refine hK 93 _ [] U38 ?_
                refine j_blx (F := fX5) tb_X5 (nn_ _) bk_X5_nextToken_93 bs_X5_nextToken_93 hz (fun K hK => ?_)
                refine hK 99 _ [vI 57, vI 48, vI a, vR 105 0] U38 ?_
                refine j_callV (y := yX5_isBetween) (Yc := zX5_isBetween) (rest := []) [vI a, vI 48, vI 57] (ct_X5_isBetween (T := U38) (by omega)) cl_X5_104 (qd_c (by decide +kernel)) (nn_ _) rfl (rf_of rfl) (Nat.le_of_ble_eq_true rfl) (Nat.le_of_ble_eq_true rfl) (Nat.le_of_ble_eq_true rfl) rfl ?_
                rintro _ _ ⟨rfl, x45, rfl, hx45⟩
                show J_ zX5_nextToken T (po_X5_nextToken T) 0 0 102 _ [vI x45] U38
                refine j_blx (F := fX5) tb_X5 (nn_ _) bk_X5_nextToken_102 bs_X5_nextToken_102 hz (fun K hK => ?_)
                refine And.intro (fun c46 => ?_) (fun c46 => ?_)
                · refine hK 118 _ [] U38 ?_
                  refine j_blx (F := fX5) tb_X5 (nn_ _) bk_X5_nextToken_118 bs_X5_nextToken_118 hz (fun K hK => ?_)
                  refine rg_i (by omega) ?_
                  refine bd_i (by omega) ?_
                  refine x_nm (fun U47 hU47 => ?_)
                  have e48 := up_f hU47
                  refine ix_i (by omega) ?_
                  intro b49 b49b
                  have e50 : U47 500 0 a = T 500 0 a := (up_k hU47 (by exact Nat.ne_of_beq_eq_false rfl) 0 a).trans ((up_k hU38 (by exact Nat.ne_of_beq_eq_false rfl) 0 a).trans (up_k hU36 (by exact Nat.ne_of_beq_eq_false rfl) 0 a))
                  rw [e50] at b49 b49b ⊢
                  refine And.intro (fun c51 => ?_) (fun c51 => ?_)
                  · refine hK 141 _ [vR 105 0] U47 ?_
                    refine j_blx (F := fX5) tb_X5 (nn_ _) bk_X5_nextToken_141 bs_X5_nextToken_141 hz (fun K hK => ?_)
                    refine ix_i (by omega) ?_
                    intro b52 b52b
                    have e53 : U47 500 0 a = T 500 0 a := (up_k hU47 (by exact Nat.ne_of_beq_eq_false rfl) 0 a).trans ((up_k hU38 (by exact Nat.ne_of_beq_eq_false rfl) 0 a).trans (up_k hU36 (by exact Nat.ne_of_beq_eq_false rfl) 0 a))
                    rw [e53] at b52 b52b ⊢
                    refine And.intro (fun c54 => ?_) (fun c54 => ?_)
                    · refine hK 156 _ [vR 105 0] U47 ?_
                      refine j_blx (F := fX5) tb_X5 (nn_ _) bk_X5_nextToken_156 bs_X5_nextToken_156 hz (fun K hK => ?_)
                      refine bd_i (by omega) ?_
                      refine x_nm (fun U55 hU55 => ?_)
                      have e56 := up_f hU55
                      refine (show po_X5_nextToken T U55 (none) from ?_)
                      exact ⟨rfl, fr_u (fr_u (fr_u (fr_u (fr_0 _ _) hU36 rfl) hU38 rfl) hU47 rfl) hU55 rfl, by rfl⟩
                    · refine hK 157 _ [vI 4, vR 105 0] U47 ?_
                      refine j_blx (F := fX5) tb_X5 (nn_ _) bk_X5_nextToken_157 bs_X5_nextToken_157 hz (fun K hK => ?_)
                      refine bd_i (by omega) ?_
                      refine x_nm (fun U57 hU57 => ?_)
                      have e58 := up_f hU57
                      refine (show po_X5_nextToken T U57 (none) from ?_)
                      exact ⟨rfl, fr_u (fr_u (fr_u (fr_u (fr_0 _ _) hU36 rfl) hU38 rfl) hU47 rfl) hU57 rfl, by rfl⟩
                  · refine hK 157 _ [vI 3, vR 105 0] U47 ?_
                    refine j_blx (F := fX5) tb_X5 (nn_ _) bk_X5_nextToken_157 bs_X5_nextToken_157 hz (fun K hK => ?_)
                    refine bd_i (by omega) ?_
                    refine x_nm (fun U59 hU59 => ?_)
                    have e60 := up_f hU59
                    refine (show po_X5_nextToken T U59 (none) from ?_)
                    exact ⟨rfl, fr_u (fr_u (fr_u (fr_u (fr_0 _ _) hU36 rfl) hU38 rfl) hU47 rfl) hU59 rfl, by rfl⟩
                · refine hK 112 _ [vI 3, vI 2, vI 57, vI 48, vR 105 0] U38 ?_
                  refine j_callV (y := yX5_takeRun) (Yc := zX5_takeRun) (rest := []) [vI 48, vI 57, vI 2, vI 3] (ct_X5_takeRun (T := U38) (by omega)) cl_X5_108 (qd_c (by decide +kernel)) (nn_ _) rfl (rf_of rfl) (Nat.le_of_ble_eq_true rfl) (Nat.le_of_ble_eq_true rfl) (Nat.le_of_ble_eq_true rfl) rfl ?_
                  rintro U61 _ ⟨rfl, fU61, _⟩
                  show J_ zX5_nextToken T (po_X5_nextToken T) 0 0 115 _ [] U61
                  refine j_blx (F := fX5) tb_X5 (nn_ _) bk_X5_nextToken_115 bs_X5_nextToken_115 hz (fun K hK => ?_)
                  refine hK 160 _ [] U61 ?_
                  refine j_blx (F := fX5) tb_X5 (nn_ _) bk_X5_nextToken_160 bs_X5_nextToken_160 hz (fun K hK => ?_)
                  refine (show po_X5_nextToken T U61 (none) from ?_)
                  exact ⟨rfl, fr_t (fr_u (fr_u (fr_0 _ _) hU36 rfl) hU38 rfl) (fr_s fU61 rfl), by rfl⟩
              · refine hK 87 _ [vI 12, vI 1, vI 122, vI 97, vR 105 0] U38 ?_
                refine j_callV (y := yX5_takeRun) (Yc := zX5_takeRun) (rest := []) [vI 97, vI 122, vI 1, vI 12] (ct_X5_takeRun (T := U38) (by omega)) cl_X5_108 (qd_c (by decide +kernel)) (nn_ _) rfl (rf_of rfl) (Nat.le_of_ble_eq_true rfl) (Nat.le_of_ble_eq_true rfl) (Nat.le_of_ble_eq_true rfl) rfl ?_
                rintro U62 _ ⟨rfl, fU62, _⟩
                show J_ zX5_nextToken T (po_X5_nextToken T) 0 0 90 _ [] U62
                refine j_blx (F := fX5) tb_X5 (nn_ _) bk_X5_nextToken_90 bs_X5_nextToken_90 hz (fun K hK => ?_)
                refine hK 160 _ [] U62 ?_
                refine j_blx (F := fX5) tb_X5 (nn_ _) bk_X5_nextToken_160 bs_X5_nextToken_160 hz (fun K hK => ?_)
                refine (show po_X5_nextToken T U62 (none) from ?_)
                exact ⟨rfl, fr_t (fr_u (fr_u (fr_0 _ _) hU36 rfl) hU38 rfl) (fr_s fU62 rfl), by rfl⟩
            · refine bd_i (by omega) ?_
              refine x_nm (fun U63 hU63 => ?_)
              have e64 := up_f hU63
              refine hK 160 _ [] U63 ?_
              refine j_blx (F := fX5) tb_X5 (nn_ _) bk_X5_nextToken_160 bs_X5_nextToken_160 hz (fun K hK => ?_)
              refine (show po_X5_nextToken T U63 (none) from ?_)
              exact ⟨rfl, fr_u (fr_u (fr_u (fr_0 _ _) hU36 rfl) hU38 rfl) hU63 rfl, by rfl⟩
          · refine rg_i (by omega) ?_
            refine hK 5 [some (vR 105 0), some (vI (a + 1))] [] T ?_
            refine ih_5 _ ?_ (a + 1) (Nat.le_refl _) ?_
            · omega
            · omega
  refine j_blx (F := fX5) tb_X5 (nn_ _) bk_X5_nextToken_0 bs_X5_nextToken_0 hz (fun K hK => ?_)
  intro b65 b65b
  refine hK 5 [some (vR 105 0), some (vI (T 105 0 9))] [] T ?_
  refine c_5 _ (T 105 0 9) (Nat.le_refl _) ?_
  · omega
abbrev cX5_fail : ByteArray := prog_7_method_8_code
def yX5_fail : MethodName := ⟨RX5, "fail", "(I)Z"⟩
def zX5_fail : Zm := (RX5, cX5_fail, 2, (some .boolean), { frames := 0, cells := 0, slots := 0, locals := 0 })
theorem bk_X5_fail_0 : ck_ fX5 (some .boolean) cX5_fail 0 [.aload 0, .iload 1, .tableswitch 1 5 2 #[], .aload 0, .aload 0, .tableswitch 0 5 8 #[], .tableswitch 1 5 3 #[], .iconst 0, .ireturn] 15 = true := qck_r (nn_ _) (by decide +kernel)
theorem bs_X5_fail_0 {P : Zt → Option Zv → Prop} (K : Int → Zl → List Zv → Zt → Prop) : sx_ K P [.aload 0, .iload 1, .tableswitch 1 5 2 #[], .aload 0, .aload 0, .tableswitch 0 5 8 #[], .tableswitch 1 5 3 #[], .iconst 0, .ireturn] 15 = x_aload 0 (x_iload 1 (x_p 105 2 0 5 (x_aload 0 (x_aload 0 (x_g0 105 8 0 400 (x_p 105 3 (-1) 400 (x_iconst 0 (x_ireturn P)))))))) := ((xe_aload 0).trans (congrArg (x_aload 0) ((xe_iload 1).trans (congrArg (x_iload 1) ((xe_p (kk := 105) rfl tl_5_2).trans (congrArg (x_p 105 2 0 5) ((xe_aload 0).trans (congrArg (x_aload 0) ((xe_aload 0).trans (congrArg (x_aload 0) ((xe_g0 (kk := 105) rfl tl_5_8).trans (congrArg (x_g0 105 8 0 400) ((xe_p (kk := 105) rfl tl_5_3).trans (congrArg (x_p 105 3 (-1) 400) ((xe_iconst 0).trans (congrArg (x_iconst 0) (xe_ireturn)))))))))))))))))
abbrev po_X5_fail (T : Zt) (k : Int) : Zt → Option Zv → Prop := fun T' r => ∃ x : Int, r = some (vI x) ∧ fr_ [(105, [2, 3])] T T' ∧ (x = 0)
set_option maxHeartbeats 4000000 in
theorem ct_X5_fail {T : Zt} {k : Int} (hk : 0 ≤ k ∧ k ≤ 5) : Ct_ yX5_fail zX5_fail T [vR 105 0, vI k] (po_X5_fail T k) := by
  refine ct_of pn_5 rfl rfl (Nat.le_of_ble_eq_true rfl) (fun hT hav => ?_)
  have hr_k : -2147483648 ≤ k ∧ k ≤ 2147483647 := hav (vI k) (by simp)
  have hz : zX5_fail.2.2.2.1 = some .boolean → ∀ (T' : Zt) (x : Int), po_X5_fail T k T' (some (vI x)) → 0 ≤ x ∧ x ≤ 1 := fun _ T' x h => by obtain ⟨y, e, -, hy⟩ := h; cases e; omega
  have hts : 0 ≤ T 105 0 8 ∧ T 105 0 8 ≤ 400 := bd_f hT 105 8 (by decide +kernel : (tf_ 105)[8]? = some (0, 0, 0, 400)) 0
  show J_ zX5_fail T (po_X5_fail T k) 0 0 0 [some (vR 105 0), some (vI k)] [] T
  refine j_blx (F := fX5) tb_X5 (nn_ _) bk_X5_fail_0 bs_X5_fail_0 hz (fun K hK => ?_)
  refine bd_i (by omega) ?_
  refine x_nm (fun U1 hU1 => ?_)
  have e2 := up_f hU1
  intro b3 b3b
  have e4 : U1 105 0 8 = T 105 0 8 := up_j hU1 (by decide) 105 0
  rw [e4] at b3 b3b ⊢
  refine bd_i (by omega) ?_
  refine x_nm (fun U5 hU5 => ?_)
  have e6 := up_f hU5
  refine (show po_X5_fail T k U5 (some (vI 0)) from ?_)
  exact ⟨_, rfl, fr_u (fr_u (fr_0 _ _) hU1 rfl) hU5 rfl, by omega⟩
abbrev cX5_isOfKind : ByteArray := prog_7_method_9_code
def yX5_isOfKind : MethodName := ⟨RX5, "isOfKind", "(I)Z"⟩
def zX5_isOfKind : Zm := (RX5, cX5_isOfKind, 2, (some .boolean), { frames := 1, cells := 0, slots := 0, locals := 21 })
theorem bk_X5_isOfKind_0 : ck_ fX5 (some .boolean) cX5_isOfKind 0 [.aload 0, .tableswitch 0 5 7 #[], .iconst 5, .if_icmp .ne 14, .aload 0, .iconst 1] 10 = true := qck_r (nn_ _) (by decide +kernel)
theorem bs_X5_isOfKind_0 {P : Zt → Option Zv → Prop} (K : Int → Zl → List Zv → Zt → Prop) : sx_ K P [.aload 0, .tableswitch 0 5 7 #[], .iconst 5, .if_icmp .ne 14, .aload 0, .iconst 1] 10 = x_aload 0 (x_g0 105 7 0 5 (x_iconst 5 (x_if_icmp .ne 14 K (x_aload 0 (x_iconst 1 (K 10)))))) := ((xe_aload 0).trans (congrArg (x_aload 0) ((xe_g0 (kk := 105) rfl tl_5_7).trans (congrArg (x_g0 105 7 0 5) ((xe_iconst 5).trans (congrArg (x_iconst 5) ((xe_if_icmp .ne 14).trans (congrArg (x_if_icmp .ne 14 K) ((xe_aload 0).trans (congrArg (x_aload 0) ((xe_iconst 1).trans (congrArg (x_iconst 1) xe_nil))))))))))))
theorem bk_X5_isOfKind_14 : ck_ fX5 (some .boolean) cX5_isOfKind 14 [.aload 0, .tableswitch 0 5 7 #[], .iload 1, .if_icmp .eq 30, .aload 0, .iconst 2] 24 = true := qck_r (nn_ _) (by decide +kernel)
theorem bs_X5_isOfKind_14 {P : Zt → Option Zv → Prop} (K : Int → Zl → List Zv → Zt → Prop) : sx_ K P [.aload 0, .tableswitch 0 5 7 #[], .iload 1, .if_icmp .eq 30, .aload 0, .iconst 2] 24 = x_aload 0 (x_g0 105 7 0 5 (x_iload 1 (x_if_icmp .eq 30 K (x_aload 0 (x_iconst 2 (K 24)))))) := ((xe_aload 0).trans (congrArg (x_aload 0) ((xe_g0 (kk := 105) rfl tl_5_7).trans (congrArg (x_g0 105 7 0 5) ((xe_iload 1).trans (congrArg (x_iload 1) ((xe_if_icmp .eq 30).trans (congrArg (x_if_icmp .eq 30 K) ((xe_aload 0).trans (congrArg (x_aload 0) ((xe_iconst 2).trans (congrArg (x_iconst 2) xe_nil))))))))))))
theorem bk_X5_isOfKind_30 : ck_ fX5 (some .boolean) cX5_isOfKind 30 [.iconst 1, .goto 35] 34 = true := qck_r (nn_ _) (by decide +kernel)
theorem bs_X5_isOfKind_30 {P : Zt → Option Zv → Prop} (K : Int → Zl → List Zv → Zt → Prop) : sx_ K P [.iconst 1, .goto 35] 34 = x_iconst 1 (x_goto 35 K) := ((xe_iconst 1).trans (congrArg (x_iconst 1) (xe_goto 35)))
theorem bk_X5_isOfKind_35 : ck_ fX5 (some .boolean) cX5_isOfKind 35 [.ireturn] 36 = true := qck_r (nn_ _) (by decide +kernel)
theorem bs_X5_isOfKind_35 {P : Zt → Option Zv → Prop} (K : Int → Zl → List Zv → Zt → Prop) : sx_ K P [.ireturn] 36 = x_ireturn P := (xe_ireturn)
set_option maxRecDepth 100000 in
theorem cl_X5_59 : cv_ RX5 59 yX5_fail zX5_fail 5 1 := ⟨gi_V (lw_b2 231 (by decide +kernel) rfl : Cond.methodLink RX5 59 yX5_fail ∈ lw_g) (lw_b2 233 (by decide +kernel) rfl : Cond.instanceMethod yX5_fail ∈ lw_g) (lw_sel 108 rfl : Cond.selects yX5_fail.cls yX5_fail yX5_fail ∈ lw_g) (lw_b1 2 (by decide +kernel) rfl : Cond.initialized yX5_fail.cls ∈ lw_g) (lw_b2 234 rfl rfl : Cond.code yX5_fail cX5_fail 2 (some .boolean) ∈ lw_g), ⟨by decide, by decide, by decide +kernel⟩, ⟨_, _, rfl⟩⟩
theorem bk_X5_isOfKind_27 : ck_ fX5 (some .boolean) cX5_isOfKind 27 [.ifCond .eq 34, .iconst 1, .goto 35] 34 = true := qck_r (nn_ _) (by decide +kernel)
theorem bs_X5_isOfKind_27 {P : Zt → Option Zv → Prop} (K : Int → Zl → List Zv → Zt → Prop) : sx_ K P [.ifCond .eq 34, .iconst 1, .goto 35] 34 = x_ifCond .eq 34 K (x_iconst 1 (x_goto 35 K)) := ((xe_ifCond .eq 34).trans (congrArg (x_ifCond .eq 34 K) ((xe_iconst 1).trans (congrArg (x_iconst 1) (xe_goto 35)))))
theorem bk_X5_isOfKind_34 : ck_ fX5 (some .boolean) cX5_isOfKind 34 [.iconst 0, .ireturn] 36 = true := qck_r (nn_ _) (by decide +kernel)
theorem bs_X5_isOfKind_34 {P : Zt → Option Zv → Prop} (K : Int → Zl → List Zv → Zt → Prop) : sx_ K P [.iconst 0, .ireturn] 36 = x_iconst 0 (x_ireturn P) := ((xe_iconst 0).trans (congrArg (x_iconst 0) (xe_ireturn)))
theorem bk_X5_isOfKind_13 : ck_ fX5 (some .boolean) cX5_isOfKind 13 [.ireturn] 14 = true := qck_r (nn_ _) (by decide +kernel)
theorem bs_X5_isOfKind_13 {P : Zt → Option Zv → Prop} (K : Int → Zl → List Zv → Zt → Prop) : sx_ K P [.ireturn] 14 = x_ireturn P := (xe_ireturn)
abbrev po_X5_isOfKind (T : Zt) (k : Int) : Zt → Option Zv → Prop := fun T' r => ∃ x : Int, r = some (vI x) ∧ fr_ [(105, [2, 3])] T T' ∧ (0 ≤ x ∧ x ≤ 1)
set_option maxHeartbeats 4000000 in
theorem ct_X5_isOfKind {T : Zt} {k : Int} : Ct_ yX5_isOfKind zX5_isOfKind T [vR 105 0, vI k] (po_X5_isOfKind T k) := by
  refine ct_of pn_5 rfl rfl (Nat.le_of_ble_eq_true rfl) (fun hT hav => ?_)
  have hr_k : -2147483648 ≤ k ∧ k ≤ 2147483647 := hav (vI k) (by simp)
  have hz : zX5_isOfKind.2.2.2.1 = some .boolean → ∀ (T' : Zt) (x : Int), po_X5_isOfKind T k T' (some (vI x)) → 0 ≤ x ∧ x ≤ 1 := fun _ T' x h => by obtain ⟨y, e, -, hy⟩ := h; cases e; omega
  show J_ zX5_isOfKind T (po_X5_isOfKind T k) 0 0 0 [some (vR 105 0), some (vI k)] [] T
  refine j_blx (F := fX5) tb_X5 (nn_ _) bk_X5_isOfKind_0 bs_X5_isOfKind_0 hz (fun K hK => ?_)
  intro b1 b1b
  refine And.intro (fun c2 => ?_) (fun c2 => ?_)
  · refine hK 14 _ [] T ?_
    refine j_blx (F := fX5) tb_X5 (nn_ _) bk_X5_isOfKind_14 bs_X5_isOfKind_14 hz (fun K hK => ?_)
    intro b3 b3b
    refine And.intro (fun c4 => ?_) (fun c4 => ?_)
    · refine hK 30 _ [] T ?_
      refine j_blx (F := fX5) tb_X5 (nn_ _) bk_X5_isOfKind_30 bs_X5_isOfKind_30 hz (fun K hK => ?_)
      refine hK 35 _ [vI 1] T ?_
      refine j_blx (F := fX5) tb_X5 (nn_ _) bk_X5_isOfKind_35 bs_X5_isOfKind_35 hz (fun K hK => ?_)
      refine (show po_X5_isOfKind T k T (some (vI 1)) from ?_)
      exact ⟨_, rfl, fr_0 _ _, by omega⟩
    · refine hK 24 _ [vI 2, vR 105 0] T ?_
      refine j_callV (y := yX5_fail) (Yc := zX5_fail) (rest := []) [vI 2] (ct_X5_fail (T := T) (by omega)) cl_X5_59 (qd_c (by decide +kernel)) (nn_ _) rfl (rf_of rfl) (Nat.le_of_ble_eq_true rfl) (Nat.le_of_ble_eq_true rfl) (Nat.le_of_ble_eq_true rfl) rfl ?_
      rintro U5 _ ⟨x6, rfl, fU5, qU5⟩
      show J_ zX5_isOfKind T (po_X5_isOfKind T k) 0 0 27 _ [vI x6] U5
      refine j_blx (F := fX5) tb_X5 (nn_ _) bk_X5_isOfKind_27 bs_X5_isOfKind_27 hz (fun K hK => ?_)
      refine And.intro (fun c7 => ?_) (fun c7 => ?_)
      · refine hK 34 _ [] U5 ?_
        refine j_blx (F := fX5) tb_X5 (nn_ _) bk_X5_isOfKind_34 bs_X5_isOfKind_34 hz (fun K hK => ?_)
        refine (show po_X5_isOfKind T k U5 (some (vI 0)) from ?_)
        exact ⟨_, rfl, fr_t (fr_0 _ _) (fr_s fU5 rfl), by omega⟩
      · refine hK 35 _ [vI 1] U5 ?_
        refine j_blx (F := fX5) tb_X5 (nn_ _) bk_X5_isOfKind_35 bs_X5_isOfKind_35 hz (fun K hK => ?_)
        refine (show po_X5_isOfKind T k U5 (some (vI 1)) from ?_)
        exact ⟨_, rfl, fr_t (fr_0 _ _) (fr_s fU5 rfl), by omega⟩
  · refine hK 10 _ [vI 1, vR 105 0] T ?_
    refine j_callV (y := yX5_fail) (Yc := zX5_fail) (rest := []) [vI 1] (ct_X5_fail (T := T) (by omega)) cl_X5_59 (qd_c (by decide +kernel)) (nn_ _) rfl (rf_of rfl) (Nat.le_of_ble_eq_true rfl) (Nat.le_of_ble_eq_true rfl) (Nat.le_of_ble_eq_true rfl) rfl ?_
    rintro U8 _ ⟨x9, rfl, fU8, qU8⟩
    show J_ zX5_isOfKind T (po_X5_isOfKind T k) 0 0 13 _ [vI x9] U8
    refine j_blx (F := fX5) tb_X5 (nn_ _) bk_X5_isOfKind_13 bs_X5_isOfKind_13 hz (fun K hK => ?_)
    refine (show po_X5_isOfKind T k U8 (some (vI x9)) from ?_)
    exact ⟨_, rfl, fr_t (fr_0 _ _) (fr_s fU8 rfl), by omega⟩
abbrev cX5_wordOf : ByteArray := prog_7_method_10_code
def yX5_wordOf : MethodName := ⟨RX5, "wordOf", "(Ljava/lang/String;)I"⟩
def zX5_wordOf : Zm := (RX5, cX5_wordOf, 6, (some .int), { frames := 4, cells := 0, slots := 0, locals := 85 })
theorem bk_X5_wordOf_17 : ck_ fX5 (some .int) cX5_wordOf 17 [.iload 4, .aload 1] 20 = true := qck_r (nn_ _) (by decide +kernel)
theorem bs_X5_wordOf_17 {P : Zt → Option Zv → Prop} (K : Int → Zl → List Zv → Zt → Prop) : sx_ K P [.iload 4, .aload 1] 20 = x_iload 4 (x_aload 1 (K 20)) := ((xe_iload 4).trans (congrArg (x_iload 4) ((xe_aload 1).trans (congrArg (x_aload 1) xe_nil))))
set_option maxRecDepth 100000 in
theorem ck82_X5_92 : ck82_ RX5 92 yJ0_length_8abf5 zJ0_length_8abf5 0 := ⟨gi_V (lw_b2 235 (by decide +kernel) rfl : Cond.methodLink RX5 92 yJ0_length_8abf5 ∈ lw_g) (lw_b2 236 (by decide +kernel) rfl : Cond.instanceMethod yJ0_length_8abf5 ∈ lw_g) (lw_b2 237 (by decide +kernel) rfl : Cond.selects yJ0_length_8abf5.cls yJ0_length_8abf5 yJ0_length_8abf5 ∈ lw_g) (lw_b1 11 (by decide +kernel) rfl : Cond.initialized yJ0_length_8abf5.cls ∈ lw_g) (lw_b2 238 rfl rfl : Cond.code yJ0_length_8abf5 cJ0_length_8abf5 1 (some .int) ∈ lw_g), ⟨by decide, by decide, by decide +kernel⟩, rfl⟩
theorem bk_X5_wordOf_23 : ck_ fX5 (some .int) cX5_wordOf 23 [.if_icmp .ge 111, .aload 1, .iload 4] 29 = true := qck_r (nn_ _) (by decide +kernel)
theorem bs_X5_wordOf_23 {P : Zt → Option Zv → Prop} (K : Int → Zl → List Zv → Zt → Prop) : sx_ K P [.if_icmp .ge 111, .aload 1, .iload 4] 29 = x_if_icmp .ge 111 K (x_aload 1 (x_iload 4 (K 29))) := ((xe_if_icmp .ge 111).trans (congrArg (x_if_icmp .ge 111 K) ((xe_aload 1).trans (congrArg (x_aload 1) ((xe_iload 4).trans (congrArg (x_iload 4) xe_nil))))))
theorem bk_X5_wordOf_111 : ck_ fX5 (some .int) cX5_wordOf 111 [.aload 0, .iconst 3] 113 = true := qck_r (nn_ _) (by decide +kernel)
theorem bs_X5_wordOf_111 {P : Zt → Option Zv → Prop} (K : Int → Zl → List Zv → Zt → Prop) : sx_ K P [.aload 0, .iconst 3] 113 = x_aload 0 (x_iconst 3 (K 113)) := ((xe_aload 0).trans (congrArg (x_aload 0) ((xe_iconst 3).trans (congrArg (x_iconst 3) xe_nil))))
theorem bk_X5_wordOf_116 : ck_ fX5 (some .int) cX5_wordOf 116 [.pop, .iconst (-1), .ireturn] 119 = true := qck_r (nn_ _) (by decide +kernel)
theorem bs_X5_wordOf_116 {P : Zt → Option Zv → Prop} (K : Int → Zl → List Zv → Zt → Prop) : sx_ K P [.pop, .iconst (-1), .ireturn] 119 = x_pop (x_iconst (-1) (x_ireturn P)) := ((xe_pop).trans (congrArg (x_pop) ((xe_iconst (-1)).trans (congrArg (x_iconst (-1)) (xe_ireturn)))))
set_option maxRecDepth 100000 in
theorem ck82_X5_98 : ck82_ RX5 98 yJ0_charAt_5068e zJ0_charAt_5068e 1 := ⟨gi_V (lw_b3 5 (by decide +kernel) rfl : Cond.methodLink RX5 98 yJ0_charAt_5068e ∈ lw_g) (lw_b3 6 (by decide +kernel) rfl : Cond.instanceMethod yJ0_charAt_5068e ∈ lw_g) (lw_b3 7 (by decide +kernel) rfl : Cond.selects yJ0_charAt_5068e.cls yJ0_charAt_5068e yJ0_charAt_5068e ∈ lw_g) (lw_b1 11 (by decide +kernel) rfl : Cond.initialized yJ0_charAt_5068e.cls ∈ lw_g) (lw_b3 8 rfl rfl : Cond.code yJ0_charAt_5068e cJ0_charAt_5068e 2 (some .char) ∈ lw_g), ⟨by decide, by decide, by decide +kernel⟩, rfl⟩
theorem bk_X5_wordOf_32 : ck_ fX5 (some .int) cX5_wordOf 32 [.istore 5, .iload 5, .iconst 59, .if_icmp .ne 64, .iload 3, .aload 0, .tableswitch 0 5 9 #[], .aload 0, .tableswitch 0 5 8 #[], .isub, .if_icmp .ne 56, .iload 2, .ireturn] 56 = true := qck_r (nn_ _) (by decide +kernel)
theorem bs_X5_wordOf_32 {P : Zt → Option Zv → Prop} (K : Int → Zl → List Zv → Zt → Prop) : sx_ K P [.istore 5, .iload 5, .iconst 59, .if_icmp .ne 64, .iload 3, .aload 0, .tableswitch 0 5 9 #[], .aload 0, .tableswitch 0 5 8 #[], .isub, .if_icmp .ne 56, .iload 2, .ireturn] 56 = x_istore 5 (x_iload 5 (x_iconst 59 (x_if_icmp .ne 64 K (x_iload 3 (x_aload 0 (x_g0 105 9 0 400 (x_aload 0 (x_g0 105 8 0 400 (x_isub (x_if_icmp .ne 56 K (x_iload 2 (x_ireturn P)))))))))))) := ((xe_istore 5).trans (congrArg (x_istore 5) ((xe_iload 5).trans (congrArg (x_iload 5) ((xe_iconst 59).trans (congrArg (x_iconst 59) ((xe_if_icmp .ne 64).trans (congrArg (x_if_icmp .ne 64 K) ((xe_iload 3).trans (congrArg (x_iload 3) ((xe_aload 0).trans (congrArg (x_aload 0) ((xe_g0 (kk := 105) rfl tl_5_9).trans (congrArg (x_g0 105 9 0 400) ((xe_aload 0).trans (congrArg (x_aload 0) ((xe_g0 (kk := 105) rfl tl_5_8).trans (congrArg (x_g0 105 8 0 400) ((xe_isub).trans (congrArg (x_isub) ((xe_if_icmp .ne 56).trans (congrArg (x_if_icmp .ne 56 K) ((xe_iload 2).trans (congrArg (x_iload 2) (xe_ireturn)))))))))))))))))))))))))
theorem bk_X5_wordOf_64 : ck_ fX5 (some .int) cX5_wordOf 64 [.iload 3, .ifCond .lt 103, .aload 0, .tableswitch 0 5 8 #[], .iload 3, .iadd, .aload 0, .tableswitch 0 5 9 #[], .if_icmp .ge 103, .aload 0, .tableswitch 0 5 0 #[], .aload 0, .tableswitch 0 5 8 #[], .iload 3, .iadd, .iaload, .iload 5, .if_icmp .ne 103, .iinc 3 1, .goto 105] 103 = true := qck_r (nn_ _) (by decide +kernel)
theorem bs_X5_wordOf_64 {P : Zt → Option Zv → Prop} (K : Int → Zl → List Zv → Zt → Prop) : sx_ K P [.iload 3, .ifCond .lt 103, .aload 0, .tableswitch 0 5 8 #[], .iload 3, .iadd, .aload 0, .tableswitch 0 5 9 #[], .if_icmp .ge 103, .aload 0, .tableswitch 0 5 0 #[], .aload 0, .tableswitch 0 5 8 #[], .iload 3, .iadd, .iaload, .iload 5, .if_icmp .ne 103, .iinc 3 1, .goto 105] 103 = x_iload 3 (x_ifCond .lt 103 K (x_aload 0 (x_g0 105 8 0 400 (x_iload 3 (x_iadd (x_aload 0 (x_g0 105 9 0 400 (x_if_icmp .ge 103 K (x_aload 0 (x_g1 105 500 (x_aload 0 (x_g0 105 8 0 400 (x_iload 3 (x_iadd (x_iaload (x_iload 5 (x_if_icmp .ne 103 K (x_iinc 3 1 (x_goto 105 K))))))))))))))))))) := ((xe_iload 3).trans (congrArg (x_iload 3) ((xe_ifCond .lt 103).trans (congrArg (x_ifCond .lt 103 K) ((xe_aload 0).trans (congrArg (x_aload 0) ((xe_g0 (kk := 105) rfl tl_5_8).trans (congrArg (x_g0 105 8 0 400) ((xe_iload 3).trans (congrArg (x_iload 3) ((xe_iadd).trans (congrArg (x_iadd) ((xe_aload 0).trans (congrArg (x_aload 0) ((xe_g0 (kk := 105) rfl tl_5_9).trans (congrArg (x_g0 105 9 0 400) ((xe_if_icmp .ge 103).trans (congrArg (x_if_icmp .ge 103 K) ((xe_aload 0).trans (congrArg (x_aload 0) ((xe_g1 (kk := 105) rfl tl_5_0).trans (congrArg (x_g1 105 500) ((xe_aload 0).trans (congrArg (x_aload 0) ((xe_g0 (kk := 105) rfl tl_5_8).trans (congrArg (x_g0 105 8 0 400) ((xe_iload 3).trans (congrArg (x_iload 3) ((xe_iadd).trans (congrArg (x_iadd) ((xe_iaload).trans (congrArg (x_iaload) ((xe_iload 5).trans (congrArg (x_iload 5) ((xe_if_icmp .ne 103).trans (congrArg (x_if_icmp .ne 103 K) ((xe_iinc 3 1).trans (congrArg (x_iinc 3 1) (xe_goto 105)))))))))))))))))))))))))))))))))))))))
theorem bk_X5_wordOf_103 : ck_ fX5 (some .int) cX5_wordOf 103 [.iconst (-1), .istore 3, .iinc 4 1, .goto 17] 111 = true := qck_r (nn_ _) (by decide +kernel)
theorem bs_X5_wordOf_103 {P : Zt → Option Zv → Prop} (K : Int → Zl → List Zv → Zt → Prop) : sx_ K P [.iconst (-1), .istore 3, .iinc 4 1, .goto 17] 111 = x_iconst (-1) (x_istore 3 (x_iinc 4 1 (x_goto 17 K))) := ((xe_iconst (-1)).trans (congrArg (x_iconst (-1)) ((xe_istore 3).trans (congrArg (x_istore 3) ((xe_iinc 4 1).trans (congrArg (x_iinc 4 1) (xe_goto 17)))))))
theorem bk_X5_wordOf_105 : ck_ fX5 (some .int) cX5_wordOf 105 [.iinc 4 1, .goto 17] 111 = true := qck_r (nn_ _) (by decide +kernel)
theorem bs_X5_wordOf_105 {P : Zt → Option Zv → Prop} (K : Int → Zl → List Zv → Zt → Prop) : sx_ K P [.iinc 4 1, .goto 17] 111 = x_iinc 4 1 (x_goto 17 K) := ((xe_iinc 4 1).trans (congrArg (x_iinc 4 1) (xe_goto 17)))
theorem bk_X5_wordOf_56 : ck_ fX5 (some .int) cX5_wordOf 56 [.iinc 2 1, .iconst 0, .istore 3, .goto 105] 64 = true := qck_r (nn_ _) (by decide +kernel)
theorem bs_X5_wordOf_56 {P : Zt → Option Zv → Prop} (K : Int → Zl → List Zv → Zt → Prop) : sx_ K P [.iinc 2 1, .iconst 0, .istore 3, .goto 105] 64 = x_iinc 2 1 (x_iconst 0 (x_istore 3 (x_goto 105 K))) := ((xe_iinc 2 1).trans (congrArg (x_iinc 2 1) ((xe_iconst 0).trans (congrArg (x_iconst 0) ((xe_istore 3).trans (congrArg (x_istore 3) (xe_goto 105)))))))
theorem bk_X5_wordOf_0 : ck_ fX5 (some .int) cX5_wordOf 0 [.aload 0, .iconst 1] 2 = true := qck_r (nn_ _) (by decide +kernel)
theorem bs_X5_wordOf_0 {P : Zt → Option Zv → Prop} (K : Int → Zl → List Zv → Zt → Prop) : sx_ K P [.aload 0, .iconst 1] 2 = x_aload 0 (x_iconst 1 (K 2)) := ((xe_aload 0).trans (congrArg (x_aload 0) ((xe_iconst 1).trans (congrArg (x_iconst 1) xe_nil))))
set_option maxRecDepth 100000 in
theorem cl_X5_79 : cv_ RX5 79 yX5_isOfKind zX5_isOfKind 5 1 := ⟨gi_V (lw_b2 227 (by decide +kernel) rfl : Cond.methodLink RX5 79 yX5_isOfKind ∈ lw_g) (lw_b2 229 (by decide +kernel) rfl : Cond.instanceMethod yX5_isOfKind ∈ lw_g) (lw_sel 110 rfl : Cond.selects yX5_isOfKind.cls yX5_isOfKind yX5_isOfKind ∈ lw_g) (lw_b1 2 (by decide +kernel) rfl : Cond.initialized yX5_isOfKind.cls ∈ lw_g) (lw_b2 230 rfl rfl : Cond.code yX5_isOfKind cX5_isOfKind 2 (some .boolean) ∈ lw_g), ⟨by decide, by decide, by decide +kernel⟩, ⟨_, _, rfl⟩⟩
theorem bk_X5_wordOf_5 : ck_ fX5 (some .int) cX5_wordOf 5 [.ifCond .ne 10, .iconst (-1), .ireturn] 10 = true := qck_r (nn_ _) (by decide +kernel)
theorem bs_X5_wordOf_5 {P : Zt → Option Zv → Prop} (K : Int → Zl → List Zv → Zt → Prop) : sx_ K P [.ifCond .ne 10, .iconst (-1), .ireturn] 10 = x_ifCond .ne 10 K (x_iconst (-1) (x_ireturn P)) := ((xe_ifCond .ne 10).trans (congrArg (x_ifCond .ne 10 K) ((xe_iconst (-1)).trans (congrArg (x_iconst (-1)) (xe_ireturn)))))
theorem bk_X5_wordOf_10 : ck_ fX5 (some .int) cX5_wordOf 10 [.iconst 0, .istore 2, .iconst 0, .istore 3, .iconst 0, .istore 4] 17 = true := qck_r (nn_ _) (by decide +kernel)
theorem bs_X5_wordOf_10 {P : Zt → Option Zv → Prop} (K : Int → Zl → List Zv → Zt → Prop) : sx_ K P [.iconst 0, .istore 2, .iconst 0, .istore 3, .iconst 0, .istore 4] 17 = x_iconst 0 (x_istore 2 (x_iconst 0 (x_istore 3 (x_iconst 0 (x_istore 4 (K 17)))))) := ((xe_iconst 0).trans (congrArg (x_iconst 0) ((xe_istore 2).trans (congrArg (x_istore 2) ((xe_iconst 0).trans (congrArg (x_iconst 0) ((xe_istore 3).trans (congrArg (x_istore 3) ((xe_iconst 0).trans (congrArg (x_iconst 0) ((xe_istore 4).trans (congrArg (x_istore 4) xe_nil))))))))))))
abbrev po_X5_wordOf_0 (T : Zt) : Zt → Option Zv → Prop := fun T' r => ∃ x : Int, r = some (vI x) ∧ fr_ [(105, [2, 3])] T T' ∧ (-1 ≤ x ∧ x < 14)
set_option maxHeartbeats 4000000 in
theorem ct_X5_wordOf_0 {T : Zt} : Ct_ yX5_wordOf zX5_wordOf T [vR 105 0, vR 82 0] (po_X5_wordOf_0 T) := by
  refine ct_of pn_5 rfl rfl (Nat.le_of_ble_eq_true rfl) (fun hT hav => ?_)
  have hz : zX5_wordOf.2.2.2.1 = some .boolean → ∀ (T' : Zt) (x : Int), po_X5_wordOf_0 T T' (some (vI x)) → 0 ≤ x ∧ x ≤ 1 := fun h => by cases h
  have hts : 0 ≤ T 105 0 8 ∧ T 105 0 8 ≤ 400 := bd_f hT 105 8 (by decide +kernel : (tf_ 105)[8]? = some (0, 0, 0, 400)) 0
  have hte : 0 ≤ T 105 0 9 ∧ T 105 0 9 ≤ 400 := bd_f hT 105 9 (by decide +kernel : (tf_ 105)[9]? = some (0, 0, 0, 400)) 0
  show J_ zX5_wordOf T (po_X5_wordOf_0 T) 0 0 0 [some (vR 105 0), some (vR 82 0), none, none, none, none] [] T
  have c_17 : ∀ (nn : Nat) (p : Int) (q : Int) (k : Int) (T1 : Zt), ((82 - k).toNat) ≤ nn → (fr_ [(105, [2, 3])] T T1) → (0 ≤ p ∧ -1 ≤ q ∧ q ≤ k ∧ 0 ≤ k ∧ k ≤ 82) → (p ≤ (ct9_ 0 k.toNat : Int)) → J_ zX5_wordOf T (po_X5_wordOf_0 T) 0 0 17 [some (vR 105 0), some (vR 82 0), some (vI p), some (vI q), some (vI k), none] [] T1 := by
    intro nn
    induction nn using Nat.strongRecOn with
    | _ nn ih_17 =>
      intro p q k T1 hm_17 hf_17 i1 i2
      refine j_blx (F := fX5) tb_X5 (nn_ _) bk_X5_wordOf_17 bs_X5_wordOf_17 hz (fun K hK => ?_)
      refine hK 20 _ [vR 82 0, vI k] T1 ?_
      refine j_callK (i := 0) (y := yJ0_length_8abf5) (Yc := zJ0_length_8abf5) (rest := [vI k]) [] (by decide) (ct_J0_length_0 (T := T1)) ck82_X5_92 (by decide +kernel) (by decide) rfl (by decide +kernel) (Nat.le_of_ble_eq_true rfl) (by decide) (by decide) rfl ?_
      rintro _ _ ⟨rfl, rfl⟩
      show J_ zX5_wordOf T (po_X5_wordOf_0 T) 0 0 23 _ [vI 82, vI k] T1
      refine j_blx (F := fX5) tb_X5 (nn_ _) bk_X5_wordOf_23 bs_X5_wordOf_23 hz (fun K hK => ?_)
      refine And.intro (fun c1 => ?_) (fun c1 => ?_)
      · refine hK 111 _ [] T1 ?_
        refine j_blx (F := fX5) tb_X5 (nn_ _) bk_X5_wordOf_111 bs_X5_wordOf_111 hz (fun K hK => ?_)
        refine hK 113 _ [vI 3, vR 105 0] T1 ?_
        refine j_callV (y := yX5_fail) (Yc := zX5_fail) (rest := []) [vI 3] (ct_X5_fail (T := T1) (by omega)) cl_X5_59 (qd_c (by decide +kernel)) (nn_ _) rfl (rf_of rfl) (Nat.le_of_ble_eq_true rfl) (Nat.le_of_ble_eq_true rfl) (Nat.le_of_ble_eq_true rfl) rfl ?_
        rintro U2 _ ⟨x3, rfl, fU2, qU2⟩
        show J_ zX5_wordOf T (po_X5_wordOf_0 T) 0 0 116 _ [vI x3] U2
        refine j_blx (F := fX5) tb_X5 (nn_ _) bk_X5_wordOf_116 bs_X5_wordOf_116 hz (fun K hK => ?_)
        refine (show po_X5_wordOf_0 T U2 (some (vI (-1))) from ?_)
        exact ⟨_, rfl, fr_t (fr_t (fr_0 _ _) (fr_s hf_17 rfl)) (fr_s fU2 rfl), by omega⟩
      · refine hK 29 _ [vI k, vR 82 0] T1 ?_
        refine j_callK (i := 0) (y := yJ0_charAt_5068e) (Yc := zJ0_charAt_5068e) (rest := []) [vI k] (by decide) (ct_J0_charAt_0 (T := T1) (by omega)) ck82_X5_98 (by decide +kernel) (by decide) rfl (by decide +kernel) (Nat.le_of_ble_eq_true rfl) (by decide) (by decide) rfl ?_
        rintro _ _ ⟨rfl, rfl⟩
        show J_ zX5_wordOf T (po_X5_wordOf_0 T) 0 0 32 _ [vI (cb8_ 0 k)] T1
        have hcb := cb8_b (i := 0) (by decide) k
        have htx := tx_q (i := 0) (k := k) (by decide) (by show 0 ≤ k ∧ k < (82 : Int); omega)
        have hnw : (((([14, 4, 7] : List Nat).getD 0 0 : Nat) : Int)) = 14 := by decide
        have htq : cb8_ 0 k = 59 → (ct9_ 0 (k + 1).toNat : Int) = ct9_ 0 k.toNat + 1 := fun h => by have := htx.1; rw [if_pos h] at this; exact this
        have htp : (ct9_ 0 k.toNat : Int) ≤ ct9_ 0 (k + 1).toNat := by have := htx.1; split at this <;> omega
        refine j_blx (F := fX5) tb_X5 (nn_ _) bk_X5_wordOf_32 bs_X5_wordOf_32 hz (fun K hK => ?_)
        refine And.intro (fun c4 => ?_) (fun c4 => ?_)
        · refine hK 64 [some (vR 105 0), some (vR 82 0), some (vI p), some (vI q), some (vI k), some (vI (cb8_ 0 k))] [] T1 ?_
          refine j_blx (F := fX5) tb_X5 (nn_ _) bk_X5_wordOf_64 bs_X5_wordOf_64 hz (fun K hK => ?_)
          refine And.intro (fun c5 => ?_) (fun c5 => ?_)
          · refine hK 103 _ [] T1 ?_
            refine j_blx (F := fX5) tb_X5 (nn_ _) bk_X5_wordOf_103 bs_X5_wordOf_103 hz (fun K hK => ?_)
            refine rg_i (by omega) ?_
            refine hK 17 [some (vR 105 0), some (vR 82 0), some (vI p), some (vI (-1)), some (vI (k + 1)), some (vI (cb8_ 0 k))] [] T1 ?_
            refine j_drop [some (vR 105 0), some (vR 82 0), some (vI p), some (vI (-1)), some (vI (k + 1)), none] (fun k v hk => ?_) rfl ?_
            · match k, hk with
              | 0, hk => exact hk
              | 1, hk => exact hk
              | 2, hk => exact hk
              | 3, hk => exact hk
              | 4, hk => exact hk
              | 5, hk => cases hk
              | k + 6, hk => cases hk
            refine ih_17 _ ?_ p (-1) (k + 1) T1 (Nat.le_refl _) ?_ ?_ ?_
            · omega
            · exact fr_t (fr_0 _ _) (fr_s hf_17 rfl)
            · omega
            · omega
          · intro b6 b6b
            have e7 : T1 105 0 8 = T 105 0 8 := hf_17 105 0 8 rfl
            rw [e7] at b6 b6b ⊢
            refine rg_i (by omega) ?_
            intro b8 b8b
            have e9 : T1 105 0 9 = T 105 0 9 := hf_17 105 0 9 rfl
            rw [e9] at b8 b8b ⊢
            refine And.intro (fun c10 => ?_) (fun c10 => ?_)
            · refine hK 103 [some (vR 105 0), some (vR 82 0), some (vI p), some (vI q), some (vI k), some (vI (cb8_ 0 k))] [] T1 ?_
              refine j_blx (F := fX5) tb_X5 (nn_ _) bk_X5_wordOf_103 bs_X5_wordOf_103 hz (fun K hK => ?_)
              refine rg_i (by omega) ?_
              refine hK 17 [some (vR 105 0), some (vR 82 0), some (vI p), some (vI (-1)), some (vI (k + 1)), some (vI (cb8_ 0 k))] [] T1 ?_
              refine j_drop [some (vR 105 0), some (vR 82 0), some (vI p), some (vI (-1)), some (vI (k + 1)), none] (fun k v hk => ?_) rfl ?_
              · match k, hk with
                | 0, hk => exact hk
                | 1, hk => exact hk
                | 2, hk => exact hk
                | 3, hk => exact hk
                | 4, hk => exact hk
                | 5, hk => cases hk
                | k + 6, hk => cases hk
              refine ih_17 _ ?_ p (-1) (k + 1) T1 (Nat.le_refl _) ?_ ?_ ?_
              · omega
              · exact fr_t (fr_0 _ _) (fr_s hf_17 rfl)
              · omega
              · omega
            · intro b11 b11b
              have e12 : T1 105 0 8 = T 105 0 8 := hf_17 105 0 8 rfl
              rw [e12] at b11 b11b ⊢
              refine rg_i (by omega) ?_
              refine ix_i (by omega) ?_
              intro b13 b13b
              have e14 : T1 500 0 ((T 105 0 8) + q) = T 500 0 ((T 105 0 8) + q) := hf_17 500 0 ((T 105 0 8) + q) rfl
              rw [e14] at b13 b13b ⊢
              refine And.intro (fun c15 => ?_) (fun c15 => ?_)
              · refine hK 103 [some (vR 105 0), some (vR 82 0), some (vI p), some (vI q), some (vI k), some (vI (cb8_ 0 k))] [] T1 ?_
                refine j_blx (F := fX5) tb_X5 (nn_ _) bk_X5_wordOf_103 bs_X5_wordOf_103 hz (fun K hK => ?_)
                refine rg_i (by omega) ?_
                refine hK 17 [some (vR 105 0), some (vR 82 0), some (vI p), some (vI (-1)), some (vI (k + 1)), some (vI (cb8_ 0 k))] [] T1 ?_
                refine j_drop [some (vR 105 0), some (vR 82 0), some (vI p), some (vI (-1)), some (vI (k + 1)), none] (fun k v hk => ?_) rfl ?_
                · match k, hk with
                  | 0, hk => exact hk
                  | 1, hk => exact hk
                  | 2, hk => exact hk
                  | 3, hk => exact hk
                  | 4, hk => exact hk
                  | 5, hk => cases hk
                  | k + 6, hk => cases hk
                refine ih_17 _ ?_ p (-1) (k + 1) T1 (Nat.le_refl _) ?_ ?_ ?_
                · omega
                · exact fr_t (fr_0 _ _) (fr_s hf_17 rfl)
                · omega
                · omega
              · refine rg_i (by omega) ?_
                refine hK 105 [some (vR 105 0), some (vR 82 0), some (vI p), some (vI (q + 1)), some (vI k), some (vI (cb8_ 0 k))] [] T1 ?_
                refine j_blx (F := fX5) tb_X5 (nn_ _) bk_X5_wordOf_105 bs_X5_wordOf_105 hz (fun K hK => ?_)
                refine rg_i (by omega) ?_
                refine hK 17 [some (vR 105 0), some (vR 82 0), some (vI p), some (vI (q + 1)), some (vI (k + 1)), some (vI (cb8_ 0 k))] [] T1 ?_
                refine j_drop [some (vR 105 0), some (vR 82 0), some (vI p), some (vI (q + 1)), some (vI (k + 1)), none] (fun k v hk => ?_) rfl ?_
                · match k, hk with
                  | 0, hk => exact hk
                  | 1, hk => exact hk
                  | 2, hk => exact hk
                  | 3, hk => exact hk
                  | 4, hk => exact hk
                  | 5, hk => cases hk
                  | k + 6, hk => cases hk
                refine ih_17 _ ?_ p (q + 1) (k + 1) T1 (Nat.le_refl _) ?_ ?_ ?_
                · omega
                · exact fr_t (fr_0 _ _) (fr_s hf_17 rfl)
                · omega
                · omega
        · intro b16 b16b
          have e17 : T1 105 0 9 = T 105 0 9 := hf_17 105 0 9 rfl
          rw [e17] at b16 b16b ⊢
          intro b18 b18b
          have e19 : T1 105 0 8 = T 105 0 8 := hf_17 105 0 8 rfl
          rw [e19] at b18 b18b ⊢
          refine rg_i (by omega) ?_
          refine And.intro (fun c20 => ?_) (fun c20 => ?_)
          · refine hK 56 _ [] T1 ?_
            refine j_blx (F := fX5) tb_X5 (nn_ _) bk_X5_wordOf_56 bs_X5_wordOf_56 hz (fun K hK => ?_)
            refine rg_i (by omega) ?_
            refine hK 105 [some (vR 105 0), some (vR 82 0), some (vI (p + 1)), some (vI 0), some (vI k), some (vI (cb8_ 0 k))] [] T1 ?_
            refine j_blx (F := fX5) tb_X5 (nn_ _) bk_X5_wordOf_105 bs_X5_wordOf_105 hz (fun K hK => ?_)
            refine rg_i (by omega) ?_
            refine hK 17 [some (vR 105 0), some (vR 82 0), some (vI (p + 1)), some (vI 0), some (vI (k + 1)), some (vI (cb8_ 0 k))] [] T1 ?_
            refine j_drop [some (vR 105 0), some (vR 82 0), some (vI (p + 1)), some (vI 0), some (vI (k + 1)), none] (fun k v hk => ?_) rfl ?_
            · match k, hk with
              | 0, hk => exact hk
              | 1, hk => exact hk
              | 2, hk => exact hk
              | 3, hk => exact hk
              | 4, hk => exact hk
              | 5, hk => cases hk
              | k + 6, hk => cases hk
            refine ih_17 _ ?_ (p + 1) 0 (k + 1) T1 (Nat.le_refl _) ?_ ?_ ?_
            · omega
            · exact fr_t (fr_0 _ _) (fr_s hf_17 rfl)
            · omega
            · omega
          · refine (show po_X5_wordOf_0 T T1 (some (vI p)) from ?_)
            exact ⟨_, rfl, fr_t (fr_0 _ _) (fr_s hf_17 rfl), by omega⟩
  refine j_blx (F := fX5) tb_X5 (nn_ _) bk_X5_wordOf_0 bs_X5_wordOf_0 hz (fun K hK => ?_)
  refine hK 2 _ [vI 1, vR 105 0] T ?_
  refine j_callV (y := yX5_isOfKind) (Yc := zX5_isOfKind) (rest := []) [vI 1] (ct_X5_isOfKind (T := T)) cl_X5_79 (qd_c (by decide +kernel)) (nn_ _) rfl (rf_of rfl) (Nat.le_of_ble_eq_true rfl) (Nat.le_of_ble_eq_true rfl) (Nat.le_of_ble_eq_true rfl) rfl ?_
  rintro U21 _ ⟨x22, rfl, fU21, qU21⟩
  show J_ zX5_wordOf T (po_X5_wordOf_0 T) 0 0 5 _ [vI x22] U21
  refine j_blx (F := fX5) tb_X5 (nn_ _) bk_X5_wordOf_5 bs_X5_wordOf_5 hz (fun K hK => ?_)
  refine And.intro (fun c23 => ?_) (fun c23 => ?_)
  · refine hK 10 _ [] U21 ?_
    refine j_blx (F := fX5) tb_X5 (nn_ _) bk_X5_wordOf_10 bs_X5_wordOf_10 hz (fun K hK => ?_)
    refine hK 17 [some (vR 105 0), some (vR 82 0), some (vI 0), some (vI 0), some (vI 0), none] [] U21 ?_
    refine c_17 _ 0 0 0 U21 (Nat.le_refl _) ?_ ?_ ?_
    · exact fr_t (fr_0 _ _) (fr_s fU21 rfl)
    · omega
    · show (0 : Int) ≤ _; exact Int.natCast_nonneg _
  · refine (show po_X5_wordOf_0 T U21 (some (vI (-1))) from ?_)
    exact ⟨_, rfl, fr_t (fr_0 _ _) (fr_s fU21 rfl), by omega⟩
abbrev po_X5_wordOf_1 (T : Zt) : Zt → Option Zv → Prop := fun T' r => ∃ x : Int, r = some (vI x) ∧ fr_ [(105, [2, 3])] T T' ∧ (-1 ≤ x ∧ x < 4)
set_option maxHeartbeats 4000000 in
theorem ct_X5_wordOf_1 {T : Zt} : Ct_ yX5_wordOf zX5_wordOf T [vR 105 0, vR 82 1] (po_X5_wordOf_1 T) := by
  refine ct_of pn_5 rfl rfl (Nat.le_of_ble_eq_true rfl) (fun hT hav => ?_)
  have hz : zX5_wordOf.2.2.2.1 = some .boolean → ∀ (T' : Zt) (x : Int), po_X5_wordOf_1 T T' (some (vI x)) → 0 ≤ x ∧ x ≤ 1 := fun h => by cases h
  have hts : 0 ≤ T 105 0 8 ∧ T 105 0 8 ≤ 400 := bd_f hT 105 8 (by decide +kernel : (tf_ 105)[8]? = some (0, 0, 0, 400)) 0
  have hte : 0 ≤ T 105 0 9 ∧ T 105 0 9 ≤ 400 := bd_f hT 105 9 (by decide +kernel : (tf_ 105)[9]? = some (0, 0, 0, 400)) 0
  show J_ zX5_wordOf T (po_X5_wordOf_1 T) 0 0 0 [some (vR 105 0), some (vR 82 1), none, none, none, none] [] T
  have c_17 : ∀ (nn : Nat) (p : Int) (q : Int) (k : Int) (T1 : Zt), ((36 - k).toNat) ≤ nn → (fr_ [(105, [2, 3])] T T1) → (0 ≤ p ∧ -1 ≤ q ∧ q ≤ k ∧ 0 ≤ k ∧ k ≤ 36) → (p ≤ (ct9_ 1 k.toNat : Int)) → J_ zX5_wordOf T (po_X5_wordOf_1 T) 0 0 17 [some (vR 105 0), some (vR 82 1), some (vI p), some (vI q), some (vI k), none] [] T1 := by
    intro nn
    induction nn using Nat.strongRecOn with
    | _ nn ih_17 =>
      intro p q k T1 hm_17 hf_17 i1 i2
      refine j_blx (F := fX5) tb_X5 (nn_ _) bk_X5_wordOf_17 bs_X5_wordOf_17 hz (fun K hK => ?_)
      refine hK 20 _ [vR 82 1, vI k] T1 ?_
      refine j_callK (i := 1) (y := yJ0_length_8abf5) (Yc := zJ0_length_8abf5) (rest := [vI k]) [] (by decide) (ct_J0_length_1 (T := T1)) ck82_X5_92 (by decide +kernel) (by decide) rfl (by decide +kernel) (Nat.le_of_ble_eq_true rfl) (by decide) (by decide) rfl ?_
      rintro _ _ ⟨rfl, rfl⟩
      show J_ zX5_wordOf T (po_X5_wordOf_1 T) 0 0 23 _ [vI 36, vI k] T1
      refine j_blx (F := fX5) tb_X5 (nn_ _) bk_X5_wordOf_23 bs_X5_wordOf_23 hz (fun K hK => ?_)
      refine And.intro (fun c1 => ?_) (fun c1 => ?_)
      · refine hK 111 _ [] T1 ?_
        refine j_blx (F := fX5) tb_X5 (nn_ _) bk_X5_wordOf_111 bs_X5_wordOf_111 hz (fun K hK => ?_)
        refine hK 113 _ [vI 3, vR 105 0] T1 ?_
        refine j_callV (y := yX5_fail) (Yc := zX5_fail) (rest := []) [vI 3] (ct_X5_fail (T := T1) (by omega)) cl_X5_59 (qd_c (by decide +kernel)) (nn_ _) rfl (rf_of rfl) (Nat.le_of_ble_eq_true rfl) (Nat.le_of_ble_eq_true rfl) (Nat.le_of_ble_eq_true rfl) rfl ?_
        rintro U2 _ ⟨x3, rfl, fU2, qU2⟩
        show J_ zX5_wordOf T (po_X5_wordOf_1 T) 0 0 116 _ [vI x3] U2
        refine j_blx (F := fX5) tb_X5 (nn_ _) bk_X5_wordOf_116 bs_X5_wordOf_116 hz (fun K hK => ?_)
        refine (show po_X5_wordOf_1 T U2 (some (vI (-1))) from ?_)
        exact ⟨_, rfl, fr_t (fr_t (fr_0 _ _) (fr_s hf_17 rfl)) (fr_s fU2 rfl), by omega⟩
      · refine hK 29 _ [vI k, vR 82 1] T1 ?_
        refine j_callK (i := 1) (y := yJ0_charAt_5068e) (Yc := zJ0_charAt_5068e) (rest := []) [vI k] (by decide) (ct_J0_charAt_1 (T := T1) (by omega)) ck82_X5_98 (by decide +kernel) (by decide) rfl (by decide +kernel) (Nat.le_of_ble_eq_true rfl) (by decide) (by decide) rfl ?_
        rintro _ _ ⟨rfl, rfl⟩
        show J_ zX5_wordOf T (po_X5_wordOf_1 T) 0 0 32 _ [vI (cb8_ 1 k)] T1
        have hcb := cb8_b (i := 1) (by decide) k
        have htx := tx_q (i := 1) (k := k) (by decide) (by show 0 ≤ k ∧ k < (36 : Int); omega)
        have hnw : (((([14, 4, 7] : List Nat).getD 1 0 : Nat) : Int)) = 4 := by decide
        have htq : cb8_ 1 k = 59 → (ct9_ 1 (k + 1).toNat : Int) = ct9_ 1 k.toNat + 1 := fun h => by have := htx.1; rw [if_pos h] at this; exact this
        have htp : (ct9_ 1 k.toNat : Int) ≤ ct9_ 1 (k + 1).toNat := by have := htx.1; split at this <;> omega
        refine j_blx (F := fX5) tb_X5 (nn_ _) bk_X5_wordOf_32 bs_X5_wordOf_32 hz (fun K hK => ?_)
        refine And.intro (fun c4 => ?_) (fun c4 => ?_)
        · refine hK 64 [some (vR 105 0), some (vR 82 1), some (vI p), some (vI q), some (vI k), some (vI (cb8_ 1 k))] [] T1 ?_
          refine j_blx (F := fX5) tb_X5 (nn_ _) bk_X5_wordOf_64 bs_X5_wordOf_64 hz (fun K hK => ?_)
          refine And.intro (fun c5 => ?_) (fun c5 => ?_)
          · refine hK 103 _ [] T1 ?_
            refine j_blx (F := fX5) tb_X5 (nn_ _) bk_X5_wordOf_103 bs_X5_wordOf_103 hz (fun K hK => ?_)
            refine rg_i (by omega) ?_
            refine hK 17 [some (vR 105 0), some (vR 82 1), some (vI p), some (vI (-1)), some (vI (k + 1)), some (vI (cb8_ 1 k))] [] T1 ?_
            refine j_drop [some (vR 105 0), some (vR 82 1), some (vI p), some (vI (-1)), some (vI (k + 1)), none] (fun k v hk => ?_) rfl ?_
            · match k, hk with
              | 0, hk => exact hk
              | 1, hk => exact hk
              | 2, hk => exact hk
              | 3, hk => exact hk
              | 4, hk => exact hk
              | 5, hk => cases hk
              | k + 6, hk => cases hk
            refine ih_17 _ ?_ p (-1) (k + 1) T1 (Nat.le_refl _) ?_ ?_ ?_
            · omega
            · exact fr_t (fr_0 _ _) (fr_s hf_17 rfl)
            · omega
            · omega
          · intro b6 b6b
            have e7 : T1 105 0 8 = T 105 0 8 := hf_17 105 0 8 rfl
            rw [e7] at b6 b6b ⊢
            refine rg_i (by omega) ?_
            intro b8 b8b
            have e9 : T1 105 0 9 = T 105 0 9 := hf_17 105 0 9 rfl
            rw [e9] at b8 b8b ⊢
            refine And.intro (fun c10 => ?_) (fun c10 => ?_)
            · refine hK 103 [some (vR 105 0), some (vR 82 1), some (vI p), some (vI q), some (vI k), some (vI (cb8_ 1 k))] [] T1 ?_
              refine j_blx (F := fX5) tb_X5 (nn_ _) bk_X5_wordOf_103 bs_X5_wordOf_103 hz (fun K hK => ?_)
              refine rg_i (by omega) ?_
              refine hK 17 [some (vR 105 0), some (vR 82 1), some (vI p), some (vI (-1)), some (vI (k + 1)), some (vI (cb8_ 1 k))] [] T1 ?_
              refine j_drop [some (vR 105 0), some (vR 82 1), some (vI p), some (vI (-1)), some (vI (k + 1)), none] (fun k v hk => ?_) rfl ?_
              · match k, hk with
                | 0, hk => exact hk
                | 1, hk => exact hk
                | 2, hk => exact hk
                | 3, hk => exact hk
                | 4, hk => exact hk
                | 5, hk => cases hk
                | k + 6, hk => cases hk
              refine ih_17 _ ?_ p (-1) (k + 1) T1 (Nat.le_refl _) ?_ ?_ ?_
              · omega
              · exact fr_t (fr_0 _ _) (fr_s hf_17 rfl)
              · omega
              · omega
            · intro b11 b11b
              have e12 : T1 105 0 8 = T 105 0 8 := hf_17 105 0 8 rfl
              rw [e12] at b11 b11b ⊢
              refine rg_i (by omega) ?_
              refine ix_i (by omega) ?_
              intro b13 b13b
              have e14 : T1 500 0 ((T 105 0 8) + q) = T 500 0 ((T 105 0 8) + q) := hf_17 500 0 ((T 105 0 8) + q) rfl
              rw [e14] at b13 b13b ⊢
              refine And.intro (fun c15 => ?_) (fun c15 => ?_)
              · refine hK 103 [some (vR 105 0), some (vR 82 1), some (vI p), some (vI q), some (vI k), some (vI (cb8_ 1 k))] [] T1 ?_
                refine j_blx (F := fX5) tb_X5 (nn_ _) bk_X5_wordOf_103 bs_X5_wordOf_103 hz (fun K hK => ?_)
                refine rg_i (by omega) ?_
                refine hK 17 [some (vR 105 0), some (vR 82 1), some (vI p), some (vI (-1)), some (vI (k + 1)), some (vI (cb8_ 1 k))] [] T1 ?_
                refine j_drop [some (vR 105 0), some (vR 82 1), some (vI p), some (vI (-1)), some (vI (k + 1)), none] (fun k v hk => ?_) rfl ?_
                · match k, hk with
                  | 0, hk => exact hk
                  | 1, hk => exact hk
                  | 2, hk => exact hk
                  | 3, hk => exact hk
                  | 4, hk => exact hk
                  | 5, hk => cases hk
                  | k + 6, hk => cases hk
                refine ih_17 _ ?_ p (-1) (k + 1) T1 (Nat.le_refl _) ?_ ?_ ?_
                · omega
                · exact fr_t (fr_0 _ _) (fr_s hf_17 rfl)
                · omega
                · omega
              · refine rg_i (by omega) ?_
                refine hK 105 [some (vR 105 0), some (vR 82 1), some (vI p), some (vI (q + 1)), some (vI k), some (vI (cb8_ 1 k))] [] T1 ?_
                refine j_blx (F := fX5) tb_X5 (nn_ _) bk_X5_wordOf_105 bs_X5_wordOf_105 hz (fun K hK => ?_)
                refine rg_i (by omega) ?_
                refine hK 17 [some (vR 105 0), some (vR 82 1), some (vI p), some (vI (q + 1)), some (vI (k + 1)), some (vI (cb8_ 1 k))] [] T1 ?_
                refine j_drop [some (vR 105 0), some (vR 82 1), some (vI p), some (vI (q + 1)), some (vI (k + 1)), none] (fun k v hk => ?_) rfl ?_
                · match k, hk with
                  | 0, hk => exact hk
                  | 1, hk => exact hk
                  | 2, hk => exact hk
                  | 3, hk => exact hk
                  | 4, hk => exact hk
                  | 5, hk => cases hk
                  | k + 6, hk => cases hk
                refine ih_17 _ ?_ p (q + 1) (k + 1) T1 (Nat.le_refl _) ?_ ?_ ?_
                · omega
                · exact fr_t (fr_0 _ _) (fr_s hf_17 rfl)
                · omega
                · omega
        · intro b16 b16b
          have e17 : T1 105 0 9 = T 105 0 9 := hf_17 105 0 9 rfl
          rw [e17] at b16 b16b ⊢
          intro b18 b18b
          have e19 : T1 105 0 8 = T 105 0 8 := hf_17 105 0 8 rfl
          rw [e19] at b18 b18b ⊢
          refine rg_i (by omega) ?_
          refine And.intro (fun c20 => ?_) (fun c20 => ?_)
          · refine hK 56 _ [] T1 ?_
            refine j_blx (F := fX5) tb_X5 (nn_ _) bk_X5_wordOf_56 bs_X5_wordOf_56 hz (fun K hK => ?_)
            refine rg_i (by omega) ?_
            refine hK 105 [some (vR 105 0), some (vR 82 1), some (vI (p + 1)), some (vI 0), some (vI k), some (vI (cb8_ 1 k))] [] T1 ?_
            refine j_blx (F := fX5) tb_X5 (nn_ _) bk_X5_wordOf_105 bs_X5_wordOf_105 hz (fun K hK => ?_)
            refine rg_i (by omega) ?_
            refine hK 17 [some (vR 105 0), some (vR 82 1), some (vI (p + 1)), some (vI 0), some (vI (k + 1)), some (vI (cb8_ 1 k))] [] T1 ?_
            refine j_drop [some (vR 105 0), some (vR 82 1), some (vI (p + 1)), some (vI 0), some (vI (k + 1)), none] (fun k v hk => ?_) rfl ?_
            · match k, hk with
              | 0, hk => exact hk
              | 1, hk => exact hk
              | 2, hk => exact hk
              | 3, hk => exact hk
              | 4, hk => exact hk
              | 5, hk => cases hk
              | k + 6, hk => cases hk
            refine ih_17 _ ?_ (p + 1) 0 (k + 1) T1 (Nat.le_refl _) ?_ ?_ ?_
            · omega
            · exact fr_t (fr_0 _ _) (fr_s hf_17 rfl)
            · omega
            · omega
          · refine (show po_X5_wordOf_1 T T1 (some (vI p)) from ?_)
            exact ⟨_, rfl, fr_t (fr_0 _ _) (fr_s hf_17 rfl), by omega⟩
  refine j_blx (F := fX5) tb_X5 (nn_ _) bk_X5_wordOf_0 bs_X5_wordOf_0 hz (fun K hK => ?_)
  refine hK 2 _ [vI 1, vR 105 0] T ?_
  refine j_callV (y := yX5_isOfKind) (Yc := zX5_isOfKind) (rest := []) [vI 1] (ct_X5_isOfKind (T := T)) cl_X5_79 (qd_c (by decide +kernel)) (nn_ _) rfl (rf_of rfl) (Nat.le_of_ble_eq_true rfl) (Nat.le_of_ble_eq_true rfl) (Nat.le_of_ble_eq_true rfl) rfl ?_
  rintro U21 _ ⟨x22, rfl, fU21, qU21⟩
  show J_ zX5_wordOf T (po_X5_wordOf_1 T) 0 0 5 _ [vI x22] U21
  refine j_blx (F := fX5) tb_X5 (nn_ _) bk_X5_wordOf_5 bs_X5_wordOf_5 hz (fun K hK => ?_)
  refine And.intro (fun c23 => ?_) (fun c23 => ?_)
  · refine hK 10 _ [] U21 ?_
    refine j_blx (F := fX5) tb_X5 (nn_ _) bk_X5_wordOf_10 bs_X5_wordOf_10 hz (fun K hK => ?_)
    refine hK 17 [some (vR 105 0), some (vR 82 1), some (vI 0), some (vI 0), some (vI 0), none] [] U21 ?_
    refine c_17 _ 0 0 0 U21 (Nat.le_refl _) ?_ ?_ ?_
    · exact fr_t (fr_0 _ _) (fr_s fU21 rfl)
    · omega
    · show (0 : Int) ≤ _; exact Int.natCast_nonneg _
  · refine (show po_X5_wordOf_1 T U21 (some (vI (-1))) from ?_)
    exact ⟨_, rfl, fr_t (fr_0 _ _) (fr_s fU21 rfl), by omega⟩
abbrev po_X5_wordOf_2 (T : Zt) : Zt → Option Zv → Prop := fun T' r => ∃ x : Int, r = some (vI x) ∧ fr_ [(105, [2, 3])] T T' ∧ (-1 ≤ x ∧ x < 7)
set_option maxHeartbeats 4000000 in
theorem ct_X5_wordOf_2 {T : Zt} : Ct_ yX5_wordOf zX5_wordOf T [vR 105 0, vR 82 2] (po_X5_wordOf_2 T) := by
  refine ct_of pn_5 rfl rfl (Nat.le_of_ble_eq_true rfl) (fun hT hav => ?_)
  have hz : zX5_wordOf.2.2.2.1 = some .boolean → ∀ (T' : Zt) (x : Int), po_X5_wordOf_2 T T' (some (vI x)) → 0 ≤ x ∧ x ≤ 1 := fun h => by cases h
  have hts : 0 ≤ T 105 0 8 ∧ T 105 0 8 ≤ 400 := bd_f hT 105 8 (by decide +kernel : (tf_ 105)[8]? = some (0, 0, 0, 400)) 0
  have hte : 0 ≤ T 105 0 9 ∧ T 105 0 9 ≤ 400 := bd_f hT 105 9 (by decide +kernel : (tf_ 105)[9]? = some (0, 0, 0, 400)) 0
  show J_ zX5_wordOf T (po_X5_wordOf_2 T) 0 0 0 [some (vR 105 0), some (vR 82 2), none, none, none, none] [] T
  have c_17 : ∀ (nn : Nat) (p : Int) (q : Int) (k : Int) (T1 : Zt), ((37 - k).toNat) ≤ nn → (fr_ [(105, [2, 3])] T T1) → (0 ≤ p ∧ -1 ≤ q ∧ q ≤ k ∧ 0 ≤ k ∧ k ≤ 37) → (p ≤ (ct9_ 2 k.toNat : Int)) → J_ zX5_wordOf T (po_X5_wordOf_2 T) 0 0 17 [some (vR 105 0), some (vR 82 2), some (vI p), some (vI q), some (vI k), none] [] T1 := by
    intro nn
    induction nn using Nat.strongRecOn with
    | _ nn ih_17 =>
      intro p q k T1 hm_17 hf_17 i1 i2
      refine j_blx (F := fX5) tb_X5 (nn_ _) bk_X5_wordOf_17 bs_X5_wordOf_17 hz (fun K hK => ?_)
      refine hK 20 _ [vR 82 2, vI k] T1 ?_
      refine j_callK (i := 2) (y := yJ0_length_8abf5) (Yc := zJ0_length_8abf5) (rest := [vI k]) [] (by decide) (ct_J0_length_2 (T := T1)) ck82_X5_92 (by decide +kernel) (by decide) rfl (by decide +kernel) (Nat.le_of_ble_eq_true rfl) (by decide) (by decide) rfl ?_
      rintro _ _ ⟨rfl, rfl⟩
      show J_ zX5_wordOf T (po_X5_wordOf_2 T) 0 0 23 _ [vI 37, vI k] T1
      refine j_blx (F := fX5) tb_X5 (nn_ _) bk_X5_wordOf_23 bs_X5_wordOf_23 hz (fun K hK => ?_)
      refine And.intro (fun c1 => ?_) (fun c1 => ?_)
      · refine hK 111 _ [] T1 ?_
        refine j_blx (F := fX5) tb_X5 (nn_ _) bk_X5_wordOf_111 bs_X5_wordOf_111 hz (fun K hK => ?_)
        refine hK 113 _ [vI 3, vR 105 0] T1 ?_
        refine j_callV (y := yX5_fail) (Yc := zX5_fail) (rest := []) [vI 3] (ct_X5_fail (T := T1) (by omega)) cl_X5_59 (qd_c (by decide +kernel)) (nn_ _) rfl (rf_of rfl) (Nat.le_of_ble_eq_true rfl) (Nat.le_of_ble_eq_true rfl) (Nat.le_of_ble_eq_true rfl) rfl ?_
        rintro U2 _ ⟨x3, rfl, fU2, qU2⟩
        show J_ zX5_wordOf T (po_X5_wordOf_2 T) 0 0 116 _ [vI x3] U2
        refine j_blx (F := fX5) tb_X5 (nn_ _) bk_X5_wordOf_116 bs_X5_wordOf_116 hz (fun K hK => ?_)
        refine (show po_X5_wordOf_2 T U2 (some (vI (-1))) from ?_)
        exact ⟨_, rfl, fr_t (fr_t (fr_0 _ _) (fr_s hf_17 rfl)) (fr_s fU2 rfl), by omega⟩
      · refine hK 29 _ [vI k, vR 82 2] T1 ?_
        refine j_callK (i := 2) (y := yJ0_charAt_5068e) (Yc := zJ0_charAt_5068e) (rest := []) [vI k] (by decide) (ct_J0_charAt_2 (T := T1) (by omega)) ck82_X5_98 (by decide +kernel) (by decide) rfl (by decide +kernel) (Nat.le_of_ble_eq_true rfl) (by decide) (by decide) rfl ?_
        rintro _ _ ⟨rfl, rfl⟩
        show J_ zX5_wordOf T (po_X5_wordOf_2 T) 0 0 32 _ [vI (cb8_ 2 k)] T1
        have hcb := cb8_b (i := 2) (by decide) k
        have htx := tx_q (i := 2) (k := k) (by decide) (by show 0 ≤ k ∧ k < (37 : Int); omega)
        have hnw : (((([14, 4, 7] : List Nat).getD 2 0 : Nat) : Int)) = 7 := by decide
        have htq : cb8_ 2 k = 59 → (ct9_ 2 (k + 1).toNat : Int) = ct9_ 2 k.toNat + 1 := fun h => by have := htx.1; rw [if_pos h] at this; exact this
        have htp : (ct9_ 2 k.toNat : Int) ≤ ct9_ 2 (k + 1).toNat := by have := htx.1; split at this <;> omega
        refine j_blx (F := fX5) tb_X5 (nn_ _) bk_X5_wordOf_32 bs_X5_wordOf_32 hz (fun K hK => ?_)
        refine And.intro (fun c4 => ?_) (fun c4 => ?_)
        · refine hK 64 [some (vR 105 0), some (vR 82 2), some (vI p), some (vI q), some (vI k), some (vI (cb8_ 2 k))] [] T1 ?_
          refine j_blx (F := fX5) tb_X5 (nn_ _) bk_X5_wordOf_64 bs_X5_wordOf_64 hz (fun K hK => ?_)
          refine And.intro (fun c5 => ?_) (fun c5 => ?_)
          · refine hK 103 _ [] T1 ?_
            refine j_blx (F := fX5) tb_X5 (nn_ _) bk_X5_wordOf_103 bs_X5_wordOf_103 hz (fun K hK => ?_)
            refine rg_i (by omega) ?_
            refine hK 17 [some (vR 105 0), some (vR 82 2), some (vI p), some (vI (-1)), some (vI (k + 1)), some (vI (cb8_ 2 k))] [] T1 ?_
            refine j_drop [some (vR 105 0), some (vR 82 2), some (vI p), some (vI (-1)), some (vI (k + 1)), none] (fun k v hk => ?_) rfl ?_
            · match k, hk with
              | 0, hk => exact hk
              | 1, hk => exact hk
              | 2, hk => exact hk
              | 3, hk => exact hk
              | 4, hk => exact hk
              | 5, hk => cases hk
              | k + 6, hk => cases hk
            refine ih_17 _ ?_ p (-1) (k + 1) T1 (Nat.le_refl _) ?_ ?_ ?_
            · omega
            · exact fr_t (fr_0 _ _) (fr_s hf_17 rfl)
            · omega
            · omega
          · intro b6 b6b
            have e7 : T1 105 0 8 = T 105 0 8 := hf_17 105 0 8 rfl
            rw [e7] at b6 b6b ⊢
            refine rg_i (by omega) ?_
            intro b8 b8b
            have e9 : T1 105 0 9 = T 105 0 9 := hf_17 105 0 9 rfl
            rw [e9] at b8 b8b ⊢
            refine And.intro (fun c10 => ?_) (fun c10 => ?_)
            · refine hK 103 [some (vR 105 0), some (vR 82 2), some (vI p), some (vI q), some (vI k), some (vI (cb8_ 2 k))] [] T1 ?_
              refine j_blx (F := fX5) tb_X5 (nn_ _) bk_X5_wordOf_103 bs_X5_wordOf_103 hz (fun K hK => ?_)
              refine rg_i (by omega) ?_
              refine hK 17 [some (vR 105 0), some (vR 82 2), some (vI p), some (vI (-1)), some (vI (k + 1)), some (vI (cb8_ 2 k))] [] T1 ?_
              refine j_drop [some (vR 105 0), some (vR 82 2), some (vI p), some (vI (-1)), some (vI (k + 1)), none] (fun k v hk => ?_) rfl ?_
              · match k, hk with
                | 0, hk => exact hk
                | 1, hk => exact hk
                | 2, hk => exact hk
                | 3, hk => exact hk
                | 4, hk => exact hk
                | 5, hk => cases hk
                | k + 6, hk => cases hk
              refine ih_17 _ ?_ p (-1) (k + 1) T1 (Nat.le_refl _) ?_ ?_ ?_
              · omega
              · exact fr_t (fr_0 _ _) (fr_s hf_17 rfl)
              · omega
              · omega
            · intro b11 b11b
              have e12 : T1 105 0 8 = T 105 0 8 := hf_17 105 0 8 rfl
              rw [e12] at b11 b11b ⊢
              refine rg_i (by omega) ?_
              refine ix_i (by omega) ?_
              intro b13 b13b
              have e14 : T1 500 0 ((T 105 0 8) + q) = T 500 0 ((T 105 0 8) + q) := hf_17 500 0 ((T 105 0 8) + q) rfl
              rw [e14] at b13 b13b ⊢
              refine And.intro (fun c15 => ?_) (fun c15 => ?_)
              · refine hK 103 [some (vR 105 0), some (vR 82 2), some (vI p), some (vI q), some (vI k), some (vI (cb8_ 2 k))] [] T1 ?_
                refine j_blx (F := fX5) tb_X5 (nn_ _) bk_X5_wordOf_103 bs_X5_wordOf_103 hz (fun K hK => ?_)
                refine rg_i (by omega) ?_
                refine hK 17 [some (vR 105 0), some (vR 82 2), some (vI p), some (vI (-1)), some (vI (k + 1)), some (vI (cb8_ 2 k))] [] T1 ?_
                refine j_drop [some (vR 105 0), some (vR 82 2), some (vI p), some (vI (-1)), some (vI (k + 1)), none] (fun k v hk => ?_) rfl ?_
                · match k, hk with
                  | 0, hk => exact hk
                  | 1, hk => exact hk
                  | 2, hk => exact hk
                  | 3, hk => exact hk
                  | 4, hk => exact hk
                  | 5, hk => cases hk
                  | k + 6, hk => cases hk
                refine ih_17 _ ?_ p (-1) (k + 1) T1 (Nat.le_refl _) ?_ ?_ ?_
                · omega
                · exact fr_t (fr_0 _ _) (fr_s hf_17 rfl)
                · omega
                · omega
              · refine rg_i (by omega) ?_
                refine hK 105 [some (vR 105 0), some (vR 82 2), some (vI p), some (vI (q + 1)), some (vI k), some (vI (cb8_ 2 k))] [] T1 ?_
                refine j_blx (F := fX5) tb_X5 (nn_ _) bk_X5_wordOf_105 bs_X5_wordOf_105 hz (fun K hK => ?_)
                refine rg_i (by omega) ?_
                refine hK 17 [some (vR 105 0), some (vR 82 2), some (vI p), some (vI (q + 1)), some (vI (k + 1)), some (vI (cb8_ 2 k))] [] T1 ?_
                refine j_drop [some (vR 105 0), some (vR 82 2), some (vI p), some (vI (q + 1)), some (vI (k + 1)), none] (fun k v hk => ?_) rfl ?_
                · match k, hk with
                  | 0, hk => exact hk
                  | 1, hk => exact hk
                  | 2, hk => exact hk
                  | 3, hk => exact hk
                  | 4, hk => exact hk
                  | 5, hk => cases hk
                  | k + 6, hk => cases hk
                refine ih_17 _ ?_ p (q + 1) (k + 1) T1 (Nat.le_refl _) ?_ ?_ ?_
                · omega
                · exact fr_t (fr_0 _ _) (fr_s hf_17 rfl)
                · omega
                · omega
        · intro b16 b16b
          have e17 : T1 105 0 9 = T 105 0 9 := hf_17 105 0 9 rfl
          rw [e17] at b16 b16b ⊢
          intro b18 b18b
          have e19 : T1 105 0 8 = T 105 0 8 := hf_17 105 0 8 rfl
          rw [e19] at b18 b18b ⊢
          refine rg_i (by omega) ?_
          refine And.intro (fun c20 => ?_) (fun c20 => ?_)
          · refine hK 56 _ [] T1 ?_
            refine j_blx (F := fX5) tb_X5 (nn_ _) bk_X5_wordOf_56 bs_X5_wordOf_56 hz (fun K hK => ?_)
            refine rg_i (by omega) ?_
            refine hK 105 [some (vR 105 0), some (vR 82 2), some (vI (p + 1)), some (vI 0), some (vI k), some (vI (cb8_ 2 k))] [] T1 ?_
            refine j_blx (F := fX5) tb_X5 (nn_ _) bk_X5_wordOf_105 bs_X5_wordOf_105 hz (fun K hK => ?_)
            refine rg_i (by omega) ?_
            refine hK 17 [some (vR 105 0), some (vR 82 2), some (vI (p + 1)), some (vI 0), some (vI (k + 1)), some (vI (cb8_ 2 k))] [] T1 ?_
            refine j_drop [some (vR 105 0), some (vR 82 2), some (vI (p + 1)), some (vI 0), some (vI (k + 1)), none] (fun k v hk => ?_) rfl ?_
            · match k, hk with
              | 0, hk => exact hk
              | 1, hk => exact hk
              | 2, hk => exact hk
              | 3, hk => exact hk
              | 4, hk => exact hk
              | 5, hk => cases hk
              | k + 6, hk => cases hk
            refine ih_17 _ ?_ (p + 1) 0 (k + 1) T1 (Nat.le_refl _) ?_ ?_ ?_
            · omega
            · exact fr_t (fr_0 _ _) (fr_s hf_17 rfl)
            · omega
            · omega
          · refine (show po_X5_wordOf_2 T T1 (some (vI p)) from ?_)
            exact ⟨_, rfl, fr_t (fr_0 _ _) (fr_s hf_17 rfl), by omega⟩
  refine j_blx (F := fX5) tb_X5 (nn_ _) bk_X5_wordOf_0 bs_X5_wordOf_0 hz (fun K hK => ?_)
  refine hK 2 _ [vI 1, vR 105 0] T ?_
  refine j_callV (y := yX5_isOfKind) (Yc := zX5_isOfKind) (rest := []) [vI 1] (ct_X5_isOfKind (T := T)) cl_X5_79 (qd_c (by decide +kernel)) (nn_ _) rfl (rf_of rfl) (Nat.le_of_ble_eq_true rfl) (Nat.le_of_ble_eq_true rfl) (Nat.le_of_ble_eq_true rfl) rfl ?_
  rintro U21 _ ⟨x22, rfl, fU21, qU21⟩
  show J_ zX5_wordOf T (po_X5_wordOf_2 T) 0 0 5 _ [vI x22] U21
  refine j_blx (F := fX5) tb_X5 (nn_ _) bk_X5_wordOf_5 bs_X5_wordOf_5 hz (fun K hK => ?_)
  refine And.intro (fun c23 => ?_) (fun c23 => ?_)
  · refine hK 10 _ [] U21 ?_
    refine j_blx (F := fX5) tb_X5 (nn_ _) bk_X5_wordOf_10 bs_X5_wordOf_10 hz (fun K hK => ?_)
    refine hK 17 [some (vR 105 0), some (vR 82 2), some (vI 0), some (vI 0), some (vI 0), none] [] U21 ?_
    refine c_17 _ 0 0 0 U21 (Nat.le_refl _) ?_ ?_ ?_
    · exact fr_t (fr_0 _ _) (fr_s fU21 rfl)
    · omega
    · show (0 : Int) ≤ _; exact Int.natCast_nonneg _
  · refine (show po_X5_wordOf_2 T U21 (some (vI (-1))) from ?_)
    exact ⟨_, rfl, fr_t (fr_0 _ _) (fr_s fU21 rfl), by omega⟩
/-- the values that were told are within their bounds -/
def VB8_ (T : Zt) : Prop := ∀ k : Int, 0 ≤ k → k < 16 → (sa_ 1).getD k.toNat 0 ≤ T 504 0 k ∧ T 504 0 k ≤ (sa_ 2).getD k.toNat 0
def VC8_ (T : Zt) : Prop := VB8_ T ∧ T 504 0 2 ≤ T 504 0 1
theorem VB8_f {ws : List (Nat × List Int)} {T T' : Zt} (h : VB8_ T) (f : fr_ ws T T') (w : ∀ j, fw_ ws 504 j = false) : VB8_ T' := fun k a b => by
  rw [f 504 0 k (w k)]; exact h k a b
theorem VC8_f {ws : List (Nat × List Int)} {T T' : Zt} (h : VC8_ T) (f : fr_ ws T T') (w : ∀ j, fw_ ws 504 j = false) : VC8_ T' := ⟨VB8_f h.1 f w, by rw [f 504 0 2 (w _), f 504 0 1 (w _)]; exact h.2⟩
theorem VB8_u {T T' : Zt} {s v : Int} (h : VB8_ T) (e : T' = up_ T 504 0 s v) (hv : (sa_ 1).getD s.toNat 0 ≤ v ∧ v ≤ (sa_ 2).getD s.toNat 0) : VB8_ T' := fun k a b => by
  by_cases z : k = s
  · rw [z, up_f e]; exact hv
  · rw [up_g e (fun q => z q.2.2)]; exact h k a b
def at_1 (k : Nat) : Bool := decide ((sa_ 1).getD k 0 ≤ (sa_ 0).getD k 0) && decide ((sa_ 0).getD k 0 ≤ (sa_ 2).getD k 0)
theorem at_a : ∀ k, k < 16 → at_1 k = true := by decide
theorem at_q {k : Int} (h : 0 ≤ k ∧ k < 16) : (sa_ 1).getD k.toNat 0 ≤ (sa_ 0).getD k.toNat 0 ∧ (sa_ 0).getD k.toNat 0 ≤ (sa_ 2).getD k.toNat 0 := by
  have h1 := at_a k.toNat (by omega)
  unfold at_1 at h1
  simpa using h1
abbrev cX5_readRule : ByteArray := prog_7_method_6_code
def yX5_readRule : MethodName := ⟨RX5, "readRule", "(II)Z"⟩
def zX5_readRule : Zm := (RX5, cX5_readRule, 5, (some .boolean), { frames := 3, cells := 0, slots := 0, locals := 68 })
theorem bk_X5_readRule_22 : ck_ fX5 (some .boolean) cX5_readRule 22 [.iload 4, .aload 0, .tableswitch 0 5 9 #[], .if_icmp .ge 53, .iload 3, .iconst 10, .fmul, .aload 0, .tableswitch 0 5 0 #[], .iload 4, .iaload, .fadd, .iconst 48, .fsub, .istore 3, .iinc 4 1, .goto 22] 53 = true := qck_r (nn_ _) (by decide +kernel)
theorem bs_X5_readRule_22 {P : Zt → Option Zv → Prop} (K : Int → Zl → List Zv → Zt → Prop) : sx_ K P [.iload 4, .aload 0, .tableswitch 0 5 9 #[], .if_icmp .ge 53, .iload 3, .iconst 10, .fmul, .aload 0, .tableswitch 0 5 0 #[], .iload 4, .iaload, .fadd, .iconst 48, .fsub, .istore 3, .iinc 4 1, .goto 22] 53 = x_iload 4 (x_aload 0 (x_g0 105 9 0 400 (x_if_icmp .ge 53 K (x_iload 3 (x_iconst 10 (x_fmul (x_aload 0 (x_g1 105 500 (x_iload 4 (x_iaload (x_fadd (x_iconst 48 (x_fsub (x_istore 3 (x_iinc 4 1 (x_goto 22 K)))))))))))))))) := ((xe_iload 4).trans (congrArg (x_iload 4) ((xe_aload 0).trans (congrArg (x_aload 0) ((xe_g0 (kk := 105) rfl tl_5_9).trans (congrArg (x_g0 105 9 0 400) ((xe_if_icmp .ge 53).trans (congrArg (x_if_icmp .ge 53 K) ((xe_iload 3).trans (congrArg (x_iload 3) ((xe_iconst 10).trans (congrArg (x_iconst 10) ((xe_fmul).trans (congrArg (x_fmul) ((xe_aload 0).trans (congrArg (x_aload 0) ((xe_g1 (kk := 105) rfl tl_5_0).trans (congrArg (x_g1 105 500) ((xe_iload 4).trans (congrArg (x_iload 4) ((xe_iaload).trans (congrArg (x_iaload) ((xe_fadd).trans (congrArg (x_fadd) ((xe_iconst 48).trans (congrArg (x_iconst 48) ((xe_fsub).trans (congrArg (x_fsub) ((xe_istore 3).trans (congrArg (x_istore 3) ((xe_iinc 4 1).trans (congrArg (x_iinc 4 1) (xe_goto 22)))))))))))))))))))))))))))))))))
theorem bk_X5_readRule_53 : ck_ fX5 (some .boolean) cX5_readRule 53 [.iload 3] 54 = true := qck_r (nn_ _) (by decide +kernel)
theorem bs_X5_readRule_53 {P : Zt → Option Zv → Prop} (K : Int → Zl → List Zv → Zt → Prop) : sx_ K P [.iload 3] 54 = x_iload 3 (K 54) := ((xe_iload 3).trans (congrArg (x_iload 3) xe_nil))
theorem bk_X5_readRule_57 : ck_ fX5 (some .boolean) cX5_readRule 57 [.iload 1] 58 = true := qck_r (nn_ _) (by decide +kernel)
theorem bs_X5_readRule_57 {P : Zt → Option Zv → Prop} (K : Int → Zl → List Zv → Zt → Prop) : sx_ K P [.iload 1] 58 = x_iload 1 (K 58) := ((xe_iload 1).trans (congrArg (x_iload 1) xe_nil))
theorem bk_X5_readRule_59 : ck_ fX5 (some .boolean) cX5_readRule 59 [.if_icmp .lt 67, .iload 3, .iload 2, .if_icmp .le 73, .aload 0, .iconst 4] 69 = true := qck_r (nn_ _) (by decide +kernel)
theorem bs_X5_readRule_59 {P : Zt → Option Zv → Prop} (K : Int → Zl → List Zv → Zt → Prop) : sx_ K P [.if_icmp .lt 67, .iload 3, .iload 2, .if_icmp .le 73, .aload 0, .iconst 4] 69 = x_if_icmp .lt 67 K (x_iload 3 (x_iload 2 (x_if_icmp .le 73 K (x_aload 0 (x_iconst 4 (K 69)))))) := ((xe_if_icmp .lt 67).trans (congrArg (x_if_icmp .lt 67 K) ((xe_iload 3).trans (congrArg (x_iload 3) ((xe_iload 2).trans (congrArg (x_iload 2) ((xe_if_icmp .le 73).trans (congrArg (x_if_icmp .le 73 K) ((xe_aload 0).trans (congrArg (x_aload 0) ((xe_iconst 4).trans (congrArg (x_iconst 4) xe_nil))))))))))))
theorem bk_X5_readRule_67 : ck_ fX5 (some .boolean) cX5_readRule 67 [.aload 0, .iconst 4] 69 = true := qck_r (nn_ _) (by decide +kernel)
theorem bs_X5_readRule_67 {P : Zt → Option Zv → Prop} (K : Int → Zl → List Zv → Zt → Prop) : sx_ K P [.aload 0, .iconst 4] 69 = x_aload 0 (x_iconst 4 (K 69)) := ((xe_aload 0).trans (congrArg (x_aload 0) ((xe_iconst 4).trans (congrArg (x_iconst 4) xe_nil))))
theorem bk_X5_readRule_72 : ck_ fX5 (some .boolean) cX5_readRule 72 [.ireturn] 73 = true := qck_r (nn_ _) (by decide +kernel)
theorem bs_X5_readRule_72 {P : Zt → Option Zv → Prop} (K : Int → Zl → List Zv → Zt → Prop) : sx_ K P [.ireturn] 73 = x_ireturn P := (xe_ireturn)
theorem bk_X5_readRule_73 : ck_ fX5 (some .boolean) cX5_readRule 73 [.aload 0, .tableswitch 0 5 4 #[], .iload 1, .iload 3, .iastore, .iconst 1, .ireturn] 82 = true := qck_r (nn_ _) (by decide +kernel)
theorem bs_X5_readRule_73 {P : Zt → Option Zv → Prop} (K : Int → Zl → List Zv → Zt → Prop) : sx_ K P [.aload 0, .tableswitch 0 5 4 #[], .iload 1, .iload 3, .iastore, .iconst 1, .ireturn] 82 = x_aload 0 (x_g1 105 504 (x_iload 1 (x_iload 3 (x_iastore (x_iconst 1 (x_ireturn P)))))) := ((xe_aload 0).trans (congrArg (x_aload 0) ((xe_g1 (kk := 105) rfl tl_5_4).trans (congrArg (x_g1 105 504) ((xe_iload 1).trans (congrArg (x_iload 1) ((xe_iload 3).trans (congrArg (x_iload 3) ((xe_iastore).trans (congrArg (x_iastore) ((xe_iconst 1).trans (congrArg (x_iconst 1) (xe_ireturn)))))))))))))
theorem bk_X5_readRule_0 : ck_ fX5 (some .boolean) cX5_readRule 0 [.aload 0] 1 = true := qck_r (nn_ _) (by decide +kernel)
theorem bs_X5_readRule_0 {P : Zt → Option Zv → Prop} (K : Int → Zl → List Zv → Zt → Prop) : sx_ K P [.aload 0] 1 = x_aload 0 (K 1) := ((xe_aload 0).trans (congrArg (x_aload 0) xe_nil))
set_option maxRecDepth 100000 in
theorem cl_X5_43 : cv_ RX5 43 yX5_nextToken zX5_nextToken 5 0 := ⟨gi_V (lw_b2 206 (by decide +kernel) rfl : Cond.methodLink RX5 43 yX5_nextToken ∈ lw_g) (lw_b2 208 (by decide +kernel) rfl : Cond.instanceMethod yX5_nextToken ∈ lw_g) (lw_sel 111 rfl : Cond.selects yX5_nextToken.cls yX5_nextToken yX5_nextToken ∈ lw_g) (lw_b1 2 (by decide +kernel) rfl : Cond.initialized yX5_nextToken.cls ∈ lw_g) (lw_b2 209 rfl rfl : Cond.code yX5_nextToken cX5_nextToken 2 none ∈ lw_g), ⟨by decide, by decide, by decide +kernel⟩, ⟨_, _, rfl⟩⟩
theorem bk_X5_readRule_4 : ck_ fX5 (some .boolean) cX5_readRule 4 [.aload 0, .iconst 2] 6 = true := qck_r (nn_ _) (by decide +kernel)
theorem bs_X5_readRule_4 {P : Zt → Option Zv → Prop} (K : Int → Zl → List Zv → Zt → Prop) : sx_ K P [.aload 0, .iconst 2] 6 = x_aload 0 (x_iconst 2 (K 6)) := ((xe_aload 0).trans (congrArg (x_aload 0) ((xe_iconst 2).trans (congrArg (x_iconst 2) xe_nil))))
theorem bk_X5_readRule_9 : ck_ fX5 (some .boolean) cX5_readRule 9 [.ifCond .ne 14, .iconst 0, .ireturn] 14 = true := qck_r (nn_ _) (by decide +kernel)
theorem bs_X5_readRule_9 {P : Zt → Option Zv → Prop} (K : Int → Zl → List Zv → Zt → Prop) : sx_ K P [.ifCond .ne 14, .iconst 0, .ireturn] 14 = x_ifCond .ne 14 K (x_iconst 0 (x_ireturn P)) := ((xe_ifCond .ne 14).trans (congrArg (x_ifCond .ne 14 K) ((xe_iconst 0).trans (congrArg (x_iconst 0) (xe_ireturn)))))
theorem bk_X5_readRule_14 : ck_ fX5 (some .boolean) cX5_readRule 14 [.iconst 0, .istore 3, .aload 0, .tableswitch 0 5 8 #[], .istore 4] 22 = true := qck_r (nn_ _) (by decide +kernel)
theorem bs_X5_readRule_14 {P : Zt → Option Zv → Prop} (K : Int → Zl → List Zv → Zt → Prop) : sx_ K P [.iconst 0, .istore 3, .aload 0, .tableswitch 0 5 8 #[], .istore 4] 22 = x_iconst 0 (x_istore 3 (x_aload 0 (x_g0 105 8 0 400 (x_istore 4 (K 22))))) := ((xe_iconst 0).trans (congrArg (x_iconst 0) ((xe_istore 3).trans (congrArg (x_istore 3) ((xe_aload 0).trans (congrArg (x_aload 0) ((xe_g0 (kk := 105) rfl tl_5_8).trans (congrArg (x_g0 105 8 0 400) ((xe_istore 4).trans (congrArg (x_istore 4) xe_nil))))))))))
abbrev po_X5_readRule (T : Zt) (s m : Int) : Zt → Option Zv → Prop := fun T' r => ∃ x : Int, r = some (vI x) ∧ fr_ [(105, [7, 8, 9, 2, 3]), (504, [])] T T' ∧ ((0 ≤ x ∧ x ≤ 1) ∧ (x = 1 → VB8_ T' ∧ T' 504 0 s ≤ m ∧ ∀ j, j ≠ s → T' 504 0 j = T 504 0 j))
set_option maxHeartbeats 4000000 in
theorem ct_X5_readRule {T : Zt} {s m : Int} (hs : 0 ≤ s ∧ s < 16) (hm : m ≤ (sa_ 2).getD s.toNat 0) (hvb : VB8_ T) : Ct_ yX5_readRule zX5_readRule T [vR 105 0, vI s, vI m] (po_X5_readRule T s m) := by
  refine ct_of pn_5 rfl rfl (Nat.le_of_ble_eq_true rfl) (fun hT hav => ?_)
  have hr_s : -2147483648 ≤ s ∧ s ≤ 2147483647 := hav (vI s) (by simp)
  have hr_m : -2147483648 ≤ m ∧ m ≤ 2147483647 := hav (vI m) (by simp)
  have hz : zX5_readRule.2.2.2.1 = some .boolean → ∀ (T' : Zt) (x : Int), po_X5_readRule T s m T' (some (vI x)) → 0 ≤ x ∧ x ≤ 1 := fun _ T' x h => by obtain ⟨y, e, -, hy, -⟩ := h; cases e; omega
  have hb1 := sa_b 1 (by decide) s.toNat (by omega)
  have hb2 := sa_b 2 (by decide) s.toNat (by omega)
  show J_ zX5_readRule T (po_X5_readRule T s m) 0 0 0 [some (vR 105 0), some (vI s), some (vI m), none, none] [] T
  have c_22 : ∀ (nn : Nat) (n : Int) (k : Int) (T1 : Zt), ((400 - k).toNat) ≤ nn → (fr_ [(105, [7, 8, 9, 2, 3])] T T1) → (0 ≤ k) → J_ zX5_readRule T (po_X5_readRule T s m) 0 0 22 [some (vR 105 0), some (vI s), some (vI m), some (vI n), some (vI k)] [] T1 := by
    intro nn
    induction nn using Nat.strongRecOn with
    | _ nn ih_22 =>
      intro n k T1 hm_22 hf_22 i1
      refine j_blx (F := fX5) tb_X5 (nn_ _) bk_X5_readRule_22 bs_X5_readRule_22 hz (fun K hK => ?_)
      intro b1 b1b
      refine And.intro (fun c2 => ?_) (fun c2 => ?_)
      · refine hK 53 _ [] T1 ?_
        refine j_blx (F := fX5) tb_X5 (nn_ _) bk_X5_readRule_53 bs_X5_readRule_53 hz (fun K hK => ?_)
        refine hK 54 _ [vI n] T1 ?_
        refine j_gs81 (pc := 54) (i := 1) (by decide) (by decide) (lw_b3 58 (by decide +kernel) rfl : Cond.fieldLink RX5 87 "SportsHouse$RuleText" (sn_ 1) "[I" ∈ lw_g) (by decide +kernel) ?_
        show J_ zX5_readRule T (po_X5_readRule T s m) 0 0 57 _ [vR 81 1, vI n] T1
        refine j_blx (F := fX5) tb_X5 (nn_ _) bk_X5_readRule_57 bs_X5_readRule_57 hz (fun K hK => ?_)
        refine hK 58 _ [vI s, vR 81 1, vI n] T1 ?_
        refine j_ld81 (pc := 58) (i := 1) (by decide) (by decide) (by omega) (by omega) (by decide +kernel) ?_
        have y3 := sa_b 1 (by decide) s.toNat (by omega)
        show J_ zX5_readRule T (po_X5_readRule T s m) 0 0 59 _ [vI ((sa_ 1).getD s.toNat 0), vI n] T1
        refine j_blx (F := fX5) tb_X5 (nn_ _) bk_X5_readRule_59 bs_X5_readRule_59 hz (fun K hK => ?_)
        refine And.intro (fun c4 => ?_) (fun c4 => ?_)
        · refine hK 67 _ [] T1 ?_
          refine j_blx (F := fX5) tb_X5 (nn_ _) bk_X5_readRule_67 bs_X5_readRule_67 hz (fun K hK => ?_)
          refine hK 69 _ [vI 4, vR 105 0] T1 ?_
          refine j_callV (y := yX5_fail) (Yc := zX5_fail) (rest := []) [vI 4] (ct_X5_fail (T := T1) (by omega)) cl_X5_59 (qd_c (by decide +kernel)) (nn_ _) rfl (rf_of rfl) (Nat.le_of_ble_eq_true rfl) (Nat.le_of_ble_eq_true rfl) (Nat.le_of_ble_eq_true rfl) rfl ?_
          rintro U5 _ ⟨x6, rfl, fU5, qU5⟩
          show J_ zX5_readRule T (po_X5_readRule T s m) 0 0 72 _ [vI x6] U5
          refine j_blx (F := fX5) tb_X5 (nn_ _) bk_X5_readRule_72 bs_X5_readRule_72 hz (fun K hK => ?_)
          refine (show po_X5_readRule T s m U5 (some (vI x6)) from ?_)
          have e7 : U5 504 0 s = T 504 0 s := (fU5 504 0 s rfl).trans (hf_22 504 0 s rfl)
          exact ⟨_, rfl, fr_t (fr_t (fr_0 _ _) (fr_s hf_22 rfl)) (fr_s fU5 rfl), by omega, fun h => by omega⟩
        · refine And.intro (fun c8 => ?_) (fun c8 => ?_)
          · refine hK 73 _ [] T1 ?_
            refine j_blx (F := fX5) tb_X5 (nn_ _) bk_X5_readRule_73 bs_X5_readRule_73 hz (fun K hK => ?_)
            refine iy_i (by omega) (by omega) ?_
            refine x_nm (fun U9 hU9 => ?_)
            have e10 := up_f hU9
            refine (show po_X5_readRule T s m U9 (some (vI 1)) from ?_)
            have e11 : U9 504 0 s = n := up_f hU9
            exact ⟨_, rfl, fr_u (fr_t (fr_0 _ _) (fr_s hf_22 rfl)) hU9 rfl, by omega, fun _ => ⟨VB8_u (VB8_f hvb (show fr_ [(105, [7, 8, 9, 2, 3])] T T1 from fr_t (fr_0 _ _) (fr_s hf_22 rfl)) (fun _ => rfl)) hU9 (by omega), by rw [up_f hU9]; omega, fun j hj => (up_g hU9 (fun z => hj z.2.2)).trans ((show fr_ [(105, [7, 8, 9, 2, 3])] T T1 from fr_t (fr_0 _ _) (fr_s hf_22 rfl)) 504 0 j rfl)⟩⟩
          · refine hK 69 _ [vI 4, vR 105 0] T1 ?_
            refine j_callV (y := yX5_fail) (Yc := zX5_fail) (rest := []) [vI 4] (ct_X5_fail (T := T1) (by omega)) cl_X5_59 (qd_c (by decide +kernel)) (nn_ _) rfl (rf_of rfl) (Nat.le_of_ble_eq_true rfl) (Nat.le_of_ble_eq_true rfl) (Nat.le_of_ble_eq_true rfl) rfl ?_
            rintro U12 _ ⟨x13, rfl, fU12, qU12⟩
            show J_ zX5_readRule T (po_X5_readRule T s m) 0 0 72 _ [vI x13] U12
            refine j_blx (F := fX5) tb_X5 (nn_ _) bk_X5_readRule_72 bs_X5_readRule_72 hz (fun K hK => ?_)
            refine (show po_X5_readRule T s m U12 (some (vI x13)) from ?_)
            have e14 : U12 504 0 s = T 504 0 s := (fU12 504 0 s rfl).trans (hf_22 504 0 s rfl)
            exact ⟨_, rfl, fr_t (fr_t (fr_0 _ _) (fr_s hf_22 rfl)) (fr_s fU12 rfl), by omega, fun h => by omega⟩
      · intro w15 w15b
        refine ix_i (by omega) ?_
        intro b16 b16b
        have e17 : T1 500 0 k = T 500 0 k := hf_22 500 0 k rfl
        rw [e17] at b16 b16b ⊢
        intro w18 w18b
        intro w19 w19b
        refine rg_i (by omega) ?_
        refine hK 22 [some (vR 105 0), some (vI s), some (vI m), some (vI (wr_ ((wr_ ((wr_ (n * 10)) + (T 500 0 k))) - 48))), some (vI (k + 1))] [] T1 ?_
        refine ih_22 _ ?_ (wr_ ((wr_ ((wr_ (n * 10)) + (T 500 0 k))) - 48)) (k + 1) T1 (Nat.le_refl _) ?_ ?_
        · omega
        · exact fr_t (fr_0 _ _) (fr_s hf_22 rfl)
        · omega
  refine j_blx (F := fX5) tb_X5 (nn_ _) bk_X5_readRule_0 bs_X5_readRule_0 hz (fun K hK => ?_)
  refine hK 1 _ [vR 105 0] T ?_
  refine j_callV (y := yX5_nextToken) (Yc := zX5_nextToken) (rest := []) [] (ct_X5_nextToken (T := T)) cl_X5_43 (qd_c (by decide +kernel)) (nn_ _) rfl (rf_of rfl) (Nat.le_of_ble_eq_true rfl) (Nat.le_of_ble_eq_true rfl) (Nat.le_of_ble_eq_true rfl) rfl ?_
  rintro U20 _ ⟨rfl, fU20, qU20⟩
  show J_ zX5_readRule T (po_X5_readRule T s m) 0 0 4 _ [] U20
  refine j_blx (F := fX5) tb_X5 (nn_ _) bk_X5_readRule_4 bs_X5_readRule_4 hz (fun K hK => ?_)
  refine hK 6 _ [vI 2, vR 105 0] U20 ?_
  refine j_callV (y := yX5_isOfKind) (Yc := zX5_isOfKind) (rest := []) [vI 2] (ct_X5_isOfKind (T := U20)) cl_X5_79 (qd_c (by decide +kernel)) (nn_ _) rfl (rf_of rfl) (Nat.le_of_ble_eq_true rfl) (Nat.le_of_ble_eq_true rfl) (Nat.le_of_ble_eq_true rfl) rfl ?_
  rintro U21 _ ⟨x22, rfl, fU21, qU21⟩
  show J_ zX5_readRule T (po_X5_readRule T s m) 0 0 9 _ [vI x22] U21
  refine j_blx (F := fX5) tb_X5 (nn_ _) bk_X5_readRule_9 bs_X5_readRule_9 hz (fun K hK => ?_)
  refine And.intro (fun c23 => ?_) (fun c23 => ?_)
  · refine hK 14 _ [] U21 ?_
    refine j_blx (F := fX5) tb_X5 (nn_ _) bk_X5_readRule_14 bs_X5_readRule_14 hz (fun K hK => ?_)
    intro b24 b24b
    have e25 : U21 105 0 8 = U20 105 0 8 := fU21 105 0 8 rfl
    rw [e25] at b24 b24b ⊢
    refine hK 22 [some (vR 105 0), some (vI s), some (vI m), some (vI 0), some (vI (U20 105 0 8))] [] U21 ?_
    refine c_22 _ 0 (U20 105 0 8) U21 (Nat.le_refl _) ?_ ?_
    · exact fr_t (fr_t (fr_0 _ _) (fr_s fU20 rfl)) (fr_s fU21 rfl)
    · omega
  · refine (show po_X5_readRule T s m U21 (some (vI 0)) from ?_)
    have e26 : U21 504 0 s = T 504 0 s := (fU21 504 0 s rfl).trans (fU20 504 0 s rfl)
    exact ⟨_, rfl, fr_t (fr_t (fr_0 _ _) (fr_s fU20 rfl)) (fr_s fU21 rfl), by omega, fun h => by omega⟩
abbrev cX5_readPoints : ByteArray := prog_7_method_5_code
def yX5_readPoints : MethodName := ⟨RX5, "readPoints", "()Z"⟩
def zX5_readPoints : Zm := (RX5, cX5_readPoints, 1, (some .boolean), { frames := 4, cells := 0, slots := 0, locals := 92 })
theorem bk_X5_readPoints_0 : ck_ fX5 (some .boolean) cX5_readPoints 0 [.aload 0, .iconst 1] 2 = true := qck_r (nn_ _) (by decide +kernel)
theorem bs_X5_readPoints_0 {P : Zt → Option Zv → Prop} (K : Int → Zl → List Zv → Zt → Prop) : sx_ K P [.aload 0, .iconst 1] 2 = x_aload 0 (x_iconst 1 (K 2)) := ((xe_aload 0).trans (congrArg (x_aload 0) ((xe_iconst 1).trans (congrArg (x_iconst 1) xe_nil))))
theorem bk_X5_readPoints_5 : ck_ fX5 (some .boolean) cX5_readPoints 5 [.iconst 1] 6 = true := qck_r (nn_ _) (by decide +kernel)
theorem bs_X5_readPoints_5 {P : Zt → Option Zv → Prop} (K : Int → Zl → List Zv → Zt → Prop) : sx_ K P [.iconst 1] 6 = x_iconst 1 (K 6) := ((xe_iconst 1).trans (congrArg (x_iconst 1) xe_nil))
set_option maxRecDepth 100000 in
theorem cl_X5_75 : cv_ RX5 75 yX5_readRule zX5_readRule 5 2 := ⟨gi_V (lw_b3 54 (by decide +kernel) rfl : Cond.methodLink RX5 75 yX5_readRule ∈ lw_g) (lw_b3 56 (by decide +kernel) rfl : Cond.instanceMethod yX5_readRule ∈ lw_g) (lw_sel 114 rfl : Cond.selects yX5_readRule.cls yX5_readRule yX5_readRule ∈ lw_g) (lw_b1 2 (by decide +kernel) rfl : Cond.initialized yX5_readRule.cls ∈ lw_g) (lw_b3 57 rfl rfl : Cond.code yX5_readRule cX5_readRule 5 (some .boolean) ∈ lw_g), ⟨by decide, by decide, by decide +kernel⟩, ⟨_, _, rfl⟩⟩
theorem bk_X5_readPoints_10 : ck_ fX5 (some .boolean) cX5_readPoints 10 [.ifCond .eq 45, .aload 0, .iconst 2, .aload 0, .tableswitch 0 5 4 #[], .iconst 1, .iaload] 21 = true := qck_r (nn_ _) (by decide +kernel)
theorem bs_X5_readPoints_10 {P : Zt → Option Zv → Prop} (K : Int → Zl → List Zv → Zt → Prop) : sx_ K P [.ifCond .eq 45, .aload 0, .iconst 2, .aload 0, .tableswitch 0 5 4 #[], .iconst 1, .iaload] 21 = x_ifCond .eq 45 K (x_aload 0 (x_iconst 2 (x_aload 0 (x_g1 105 504 (x_iconst 1 (x_iaload (K 21))))))) := ((xe_ifCond .eq 45).trans (congrArg (x_ifCond .eq 45 K) ((xe_aload 0).trans (congrArg (x_aload 0) ((xe_iconst 2).trans (congrArg (x_iconst 2) ((xe_aload 0).trans (congrArg (x_aload 0) ((xe_g1 (kk := 105) rfl tl_5_4).trans (congrArg (x_g1 105 504) ((xe_iconst 1).trans (congrArg (x_iconst 1) ((xe_iaload).trans (congrArg (x_iaload) xe_nil))))))))))))))
theorem bk_X5_readPoints_45 : ck_ fX5 (some .boolean) cX5_readPoints 45 [.iconst 0, .ireturn] 47 = true := qck_r (nn_ _) (by decide +kernel)
theorem bs_X5_readPoints_45 {P : Zt → Option Zv → Prop} (K : Int → Zl → List Zv → Zt → Prop) : sx_ K P [.iconst 0, .ireturn] 47 = x_iconst 0 (x_ireturn P) := ((xe_iconst 0).trans (congrArg (x_iconst 0) (xe_ireturn)))
theorem bk_X5_readPoints_24 : ck_ fX5 (some .boolean) cX5_readPoints 24 [.ifCond .eq 45, .aload 0, .iconst 3, .aload 0, .tableswitch 0 5 4 #[], .iconst 2, .iaload] 35 = true := qck_r (nn_ _) (by decide +kernel)
theorem bs_X5_readPoints_24 {P : Zt → Option Zv → Prop} (K : Int → Zl → List Zv → Zt → Prop) : sx_ K P [.ifCond .eq 45, .aload 0, .iconst 3, .aload 0, .tableswitch 0 5 4 #[], .iconst 2, .iaload] 35 = x_ifCond .eq 45 K (x_aload 0 (x_iconst 3 (x_aload 0 (x_g1 105 504 (x_iconst 2 (x_iaload (K 35))))))) := ((xe_ifCond .eq 45).trans (congrArg (x_ifCond .eq 45 K) ((xe_aload 0).trans (congrArg (x_aload 0) ((xe_iconst 3).trans (congrArg (x_iconst 3) ((xe_aload 0).trans (congrArg (x_aload 0) ((xe_g1 (kk := 105) rfl tl_5_4).trans (congrArg (x_g1 105 504) ((xe_iconst 2).trans (congrArg (x_iconst 2) ((xe_iaload).trans (congrArg (x_iaload) xe_nil))))))))))))))
theorem bk_X5_readPoints_38 : ck_ fX5 (some .boolean) cX5_readPoints 38 [.ifCond .eq 45, .iconst 1, .goto 46] 45 = true := qck_r (nn_ _) (by decide +kernel)
theorem bs_X5_readPoints_38 {P : Zt → Option Zv → Prop} (K : Int → Zl → List Zv → Zt → Prop) : sx_ K P [.ifCond .eq 45, .iconst 1, .goto 46] 45 = x_ifCond .eq 45 K (x_iconst 1 (x_goto 46 K)) := ((xe_ifCond .eq 45).trans (congrArg (x_ifCond .eq 45 K) ((xe_iconst 1).trans (congrArg (x_iconst 1) (xe_goto 46)))))
theorem bk_X5_readPoints_46 : ck_ fX5 (some .boolean) cX5_readPoints 46 [.ireturn] 47 = true := qck_r (nn_ _) (by decide +kernel)
theorem bs_X5_readPoints_46 {P : Zt → Option Zv → Prop} (K : Int → Zl → List Zv → Zt → Prop) : sx_ K P [.ireturn] 47 = x_ireturn P := (xe_ireturn)
abbrev po_X5_readPoints (T : Zt) : Zt → Option Zv → Prop := fun T' r => ∃ x : Int, r = some (vI x) ∧ fr_ [(105, [7, 8, 9, 2, 3]), (504, [])] T T' ∧ ((0 ≤ x ∧ x ≤ 1) ∧ (x = 1 → VC8_ T'))
set_option maxHeartbeats 4000000 in
theorem ct_X5_readPoints {T : Zt} (hvc : VC8_ T) : Ct_ yX5_readPoints zX5_readPoints T [vR 105 0] (po_X5_readPoints T) := by
  refine ct_of pn_5 rfl rfl (Nat.le_of_ble_eq_true rfl) (fun hT hav => ?_)
  have hz : zX5_readPoints.2.2.2.1 = some .boolean → ∀ (T' : Zt) (x : Int), po_X5_readPoints T T' (some (vI x)) → 0 ≤ x ∧ x ≤ 1 := fun _ T' x h => by obtain ⟨y, e, -, hy, -⟩ := h; cases e; omega
  show J_ zX5_readPoints T (po_X5_readPoints T) 0 0 0 [some (vR 105 0)] [] T
  refine j_blx (F := fX5) tb_X5 (nn_ _) bk_X5_readPoints_0 bs_X5_readPoints_0 hz (fun K hK => ?_)
  refine hK 2 _ [vI 1, vR 105 0] T ?_
  refine j_gs81 (pc := 2) (i := 2) (by decide) (by decide) (lw_b3 52 (by decide +kernel) rfl : Cond.fieldLink RX5 72 "SportsHouse$RuleText" (sn_ 2) "[I" ∈ lw_g) (by decide +kernel) ?_
  show J_ zX5_readPoints T (po_X5_readPoints T) 0 0 5 _ [vR 81 2, vI 1, vR 105 0] T
  refine j_blx (F := fX5) tb_X5 (nn_ _) bk_X5_readPoints_5 bs_X5_readPoints_5 hz (fun K hK => ?_)
  refine hK 6 _ [vI 1, vR 81 2, vI 1, vR 105 0] T ?_
  refine j_ld81 (pc := 6) (i := 2) (by decide) (by decide) (by omega) (by omega) (by decide +kernel) ?_
  have y1 := sa_b 2 (by decide) (1 : Int).toNat (by omega)
  show J_ zX5_readPoints T (po_X5_readPoints T) 0 0 7 _ [vI ((sa_ 2).getD (1 : Int).toNat 0), vI 1, vR 105 0] T
  refine j_callV (y := yX5_readRule) (Yc := zX5_readRule) (rest := []) [vI 1, vI ((sa_ 2).getD (1 : Int).toNat 0)] (ct_X5_readRule (T := T) (by omega) (by decide) hvc.1) cl_X5_75 (qd_c (by decide +kernel)) (nn_ _) rfl (rf_of rfl) (Nat.le_of_ble_eq_true rfl) (Nat.le_of_ble_eq_true rfl) (Nat.le_of_ble_eq_true rfl) rfl ?_
  rintro U2 _ ⟨x3, rfl, fU2, hx3, qU2⟩
  show J_ zX5_readPoints T (po_X5_readPoints T) 0 0 10 _ [vI x3] U2
  refine j_blx (F := fX5) tb_X5 (nn_ _) bk_X5_readPoints_10 bs_X5_readPoints_10 hz (fun K hK => ?_)
  refine And.intro (fun c4 => ?_) (fun c4 => ?_)
  · refine hK 45 _ [] U2 ?_
    refine j_blx (F := fX5) tb_X5 (nn_ _) bk_X5_readPoints_45 bs_X5_readPoints_45 hz (fun K hK => ?_)
    refine (show po_X5_readPoints T U2 (some (vI 0)) from ?_)
    exact ⟨_, rfl, fr_t (fr_0 _ _) (fr_s fU2 rfl), by omega, fun h => by omega⟩
  · refine ix_i (by omega) ?_
    intro b5 b5b
    refine hK 21 _ [vI (U2 504 0 1), vI 2, vR 105 0] U2 ?_
    have y6 := (qU2 (by omega)).2
    have y7 : (sa_ 2).getD (Int.toNat 2) 0 = 9 := by decide
    have y8 := (qU2 (by omega)).1 1 (by omega) (by omega)
    have y9 : (sa_ 2).getD (Int.toNat 1) 0 = 9 := by decide
    refine j_callV (y := yX5_readRule) (Yc := zX5_readRule) (rest := []) [vI 2, vI (U2 504 0 1)] (ct_X5_readRule (T := U2) (by omega) (by omega) (qU2 (by omega)).1) cl_X5_75 (qd_c (by decide +kernel)) (nn_ _) rfl (rf_of rfl) (Nat.le_of_ble_eq_true rfl) (Nat.le_of_ble_eq_true rfl) (Nat.le_of_ble_eq_true rfl) rfl ?_
    rintro U10 _ ⟨x11, rfl, fU10, hx11, qU10⟩
    show J_ zX5_readPoints T (po_X5_readPoints T) 0 0 24 _ [vI x11] U10
    refine j_blx (F := fX5) tb_X5 (nn_ _) bk_X5_readPoints_24 bs_X5_readPoints_24 hz (fun K hK => ?_)
    refine And.intro (fun c12 => ?_) (fun c12 => ?_)
    · refine hK 45 _ [] U10 ?_
      refine j_blx (F := fX5) tb_X5 (nn_ _) bk_X5_readPoints_45 bs_X5_readPoints_45 hz (fun K hK => ?_)
      refine (show po_X5_readPoints T U10 (some (vI 0)) from ?_)
      exact ⟨_, rfl, fr_t (fr_t (fr_0 _ _) (fr_s fU2 rfl)) (fr_s fU10 rfl), by omega, fun h => by omega⟩
    · refine ix_i (by omega) ?_
      intro b13 b13b
      refine hK 35 _ [vI (U10 504 0 2), vI 3, vR 105 0] U10 ?_
      have y14 := (qU10 (by omega)).2
      have y15 : (sa_ 2).getD (Int.toNat 3) 0 = 9 := by decide
      have y16 := (qU10 (by omega)).1 2 (by omega) (by omega)
      have y17 : (sa_ 2).getD (Int.toNat 2) 0 = 9 := by decide
      refine j_callV (y := yX5_readRule) (Yc := zX5_readRule) (rest := []) [vI 3, vI (U10 504 0 2)] (ct_X5_readRule (T := U10) (by omega) (by omega) (qU10 (by omega)).1) cl_X5_75 (qd_c (by decide +kernel)) (nn_ _) rfl (rf_of rfl) (Nat.le_of_ble_eq_true rfl) (Nat.le_of_ble_eq_true rfl) (Nat.le_of_ble_eq_true rfl) rfl ?_
      rintro U18 _ ⟨x19, rfl, fU18, hx19, qU18⟩
      show J_ zX5_readPoints T (po_X5_readPoints T) 0 0 38 _ [vI x19] U18
      refine j_blx (F := fX5) tb_X5 (nn_ _) bk_X5_readPoints_38 bs_X5_readPoints_38 hz (fun K hK => ?_)
      refine And.intro (fun c20 => ?_) (fun c20 => ?_)
      · refine hK 45 _ [] U18 ?_
        refine j_blx (F := fX5) tb_X5 (nn_ _) bk_X5_readPoints_45 bs_X5_readPoints_45 hz (fun K hK => ?_)
        refine (show po_X5_readPoints T U18 (some (vI 0)) from ?_)
        exact ⟨_, rfl, fr_t (fr_t (fr_t (fr_0 _ _) (fr_s fU2 rfl)) (fr_s fU10 rfl)) (fr_s fU18 rfl), by omega, fun h => by omega⟩
      · refine hK 46 _ [vI 1] U18 ?_
        refine j_blx (F := fX5) tb_X5 (nn_ _) bk_X5_readPoints_46 bs_X5_readPoints_46 hz (fun K hK => ?_)
        refine (show po_X5_readPoints T U18 (some (vI 1)) from ?_)
        have g1 := qU18 (by omega)
        have g2 := qU10 (by omega)
        have g3 := g1.2.2 1 (by omega)
        have g4 := g1.2.2 2 (by omega)
        have g5 := g2.2.1
        have g6 := g2.2.2 1 (by omega)
        exact ⟨_, rfl, fr_t (fr_t (fr_t (fr_0 _ _) (fr_s fU2 rfl)) (fr_s fU10 rfl)) (fr_s fU18 rfl), by omega, fun _ => ⟨g1.1, by omega⟩⟩
abbrev cX5_readSport : ByteArray := prog_7_method_4_code
def yX5_readSport : MethodName := ⟨RX5, "readSport", "()Z"⟩
def zX5_readSport : Zm := (RX5, cX5_readSport, 2, (some .boolean), { frames := 5, cells := 0, slots := 0, locals := 110 })
theorem bk_X5_readSport_0 : ck_ fX5 (some .boolean) cX5_readSport 0 [.aload 0] 1 = true := qck_r (nn_ _) (by decide +kernel)
theorem bs_X5_readSport_0 {P : Zt → Option Zv → Prop} (K : Int → Zl → List Zv → Zt → Prop) : sx_ K P [.aload 0] 1 = x_aload 0 (K 1) := ((xe_aload 0).trans (congrArg (x_aload 0) xe_nil))
theorem bk_X5_readSport_4 : ck_ fX5 (some .boolean) cX5_readSport 4 [.aload 0] 5 = true := qck_r (nn_ _) (by decide +kernel)
theorem bs_X5_readSport_4 {P : Zt → Option Zv → Prop} (K : Int → Zl → List Zv → Zt → Prop) : sx_ K P [.aload 0] 5 = x_aload 0 (K 5) := ((xe_aload 0).trans (congrArg (x_aload 0) xe_nil))
set_option maxRecDepth 100000 in
theorem cl_X5_55 : cv_ RX5 55 yX5_wordOf zX5_wordOf 5 1 := ⟨gi_V (lw_b2 223 (by decide +kernel) rfl : Cond.methodLink RX5 55 yX5_wordOf ∈ lw_g) (lw_b2 225 (by decide +kernel) rfl : Cond.instanceMethod yX5_wordOf ∈ lw_g) (lw_sel 118 rfl : Cond.selects yX5_wordOf.cls yX5_wordOf yX5_wordOf ∈ lw_g) (lw_b1 2 (by decide +kernel) rfl : Cond.initialized yX5_wordOf.cls ∈ lw_g) (lw_b2 226 rfl rfl : Cond.code yX5_wordOf cX5_wordOf 6 (some .int) ∈ lw_g), ⟨by decide, by decide, by decide +kernel⟩, ⟨_, _, rfl⟩⟩
theorem bk_X5_readSport_10 : ck_ fX5 (some .boolean) cX5_readSport 10 [.istore 1, .iload 1, .iconst (-1), .if_icmp .ne 18, .iconst 0, .ireturn] 18 = true := qck_r (nn_ _) (by decide +kernel)
theorem bs_X5_readSport_10 {P : Zt → Option Zv → Prop} (K : Int → Zl → List Zv → Zt → Prop) : sx_ K P [.istore 1, .iload 1, .iconst (-1), .if_icmp .ne 18, .iconst 0, .ireturn] 18 = x_istore 1 (x_iload 1 (x_iconst (-1) (x_if_icmp .ne 18 K (x_iconst 0 (x_ireturn P))))) := ((xe_istore 1).trans (congrArg (x_istore 1) ((xe_iload 1).trans (congrArg (x_iload 1) ((xe_iconst (-1)).trans (congrArg (x_iconst (-1)) ((xe_if_icmp .ne 18).trans (congrArg (x_if_icmp .ne 18 K) ((xe_iconst 0).trans (congrArg (x_iconst 0) (xe_ireturn)))))))))))
theorem bk_X5_readSport_18 : ck_ fX5 (some .boolean) cX5_readSport 18 [.aload 0, .tableswitch 0 5 4 #[], .iconst 0, .iload 1, .iastore, .iconst 1, .ireturn] 27 = true := qck_r (nn_ _) (by decide +kernel)
theorem bs_X5_readSport_18 {P : Zt → Option Zv → Prop} (K : Int → Zl → List Zv → Zt → Prop) : sx_ K P [.aload 0, .tableswitch 0 5 4 #[], .iconst 0, .iload 1, .iastore, .iconst 1, .ireturn] 27 = x_aload 0 (x_g1 105 504 (x_iconst 0 (x_iload 1 (x_iastore (x_iconst 1 (x_ireturn P)))))) := ((xe_aload 0).trans (congrArg (x_aload 0) ((xe_g1 (kk := 105) rfl tl_5_4).trans (congrArg (x_g1 105 504) ((xe_iconst 0).trans (congrArg (x_iconst 0) ((xe_iload 1).trans (congrArg (x_iload 1) ((xe_iastore).trans (congrArg (x_iastore) ((xe_iconst 1).trans (congrArg (x_iconst 1) (xe_ireturn)))))))))))))
abbrev po_X5_readSport (T : Zt) : Zt → Option Zv → Prop := fun T' r => ∃ x : Int, r = some (vI x) ∧ fr_ [(105, [7, 8, 9, 2, 3]), (504, [])] T T' ∧ ((0 ≤ x ∧ x ≤ 1) ∧ (x = 1 → VC8_ T'))
set_option maxHeartbeats 4000000 in
theorem ct_X5_readSport {T : Zt} (hvc : VC8_ T) : Ct_ yX5_readSport zX5_readSport T [vR 105 0] (po_X5_readSport T) := by
  refine ct_of pn_5 rfl rfl (Nat.le_of_ble_eq_true rfl) (fun hT hav => ?_)
  have hz : zX5_readSport.2.2.2.1 = some .boolean → ∀ (T' : Zt) (x : Int), po_X5_readSport T T' (some (vI x)) → 0 ≤ x ∧ x ≤ 1 := fun _ T' x h => by obtain ⟨y, e, -, hy, -⟩ := h; cases e; omega
  show J_ zX5_readSport T (po_X5_readSport T) 0 0 0 [some (vR 105 0), none] [] T
  refine j_blx (F := fX5) tb_X5 (nn_ _) bk_X5_readSport_0 bs_X5_readSport_0 hz (fun K hK => ?_)
  refine hK 1 _ [vR 105 0] T ?_
  refine j_callV (y := yX5_nextToken) (Yc := zX5_nextToken) (rest := []) [] (ct_X5_nextToken (T := T)) cl_X5_43 (qd_c (by decide +kernel)) (nn_ _) rfl (rf_of rfl) (Nat.le_of_ble_eq_true rfl) (Nat.le_of_ble_eq_true rfl) (Nat.le_of_ble_eq_true rfl) rfl ?_
  rintro U1 _ ⟨rfl, fU1, qU1⟩
  show J_ zX5_readSport T (po_X5_readSport T) 0 0 4 _ [] U1
  refine j_blx (F := fX5) tb_X5 (nn_ _) bk_X5_readSport_4 bs_X5_readSport_4 hz (fun K hK => ?_)
  refine hK 5 _ [vR 105 0] U1 ?_
  refine j_ldcS (pc := 5) (i := 1) (by decide) rfl (by decide) rfl (by decide +kernel) ?_
  show J_ zX5_readSport T (po_X5_readSport T) 0 0 7 _ [vR 82 1, vR 105 0] U1
  refine j_callV (y := yX5_wordOf) (Yc := zX5_wordOf) (rest := []) [vR 82 1] (ct_X5_wordOf_1 (T := U1)) cl_X5_55 (qd_c (by decide +kernel)) (nn_ _) rfl (rf_of rfl) (Nat.le_of_ble_eq_true rfl) (Nat.le_of_ble_eq_true rfl) (Nat.le_of_ble_eq_true rfl) rfl ?_
  rintro U2 _ ⟨x3, rfl, fU2, qU2⟩
  show J_ zX5_readSport T (po_X5_readSport T) 0 0 10 _ [vI x3] U2
  refine j_blx (F := fX5) tb_X5 (nn_ _) bk_X5_readSport_10 bs_X5_readSport_10 hz (fun K hK => ?_)
  refine And.intro (fun c4 => ?_) (fun c4 => ?_)
  · refine hK 18 [some (vR 105 0), some (vI x3)] [] U2 ?_
    refine j_blx (F := fX5) tb_X5 (nn_ _) bk_X5_readSport_18 bs_X5_readSport_18 hz (fun K hK => ?_)
    refine iy_i (by omega) (by omega) ?_
    refine x_nm (fun U5 hU5 => ?_)
    have e6 := up_f hU5
    refine (show po_X5_readSport T U5 (some (vI 1)) from ?_)
    have g0 := VC8_f hvc (show fr_ [(105, [7, 8, 9, 2, 3])] T U2 from fr_t (fr_t (fr_0 _ _) (fr_s fU1 rfl)) (fr_s fU2 rfl)) (fun _ => rfl)
    exact ⟨_, rfl, fr_u (fr_t (fr_t (fr_0 _ _) (fr_s fU1 rfl)) (fr_s fU2 rfl)) hU5 rfl, by omega, fun _ => ⟨VB8_u g0.1 hU5 ⟨by show (0 : Int) ≤ _; omega, by show _ ≤ (3 : Int); omega⟩, by rw [up_g hU5 (fun z => by omega), up_g hU5 (fun z => by omega)]; exact g0.2⟩⟩
  · refine (show po_X5_readSport T U2 (some (vI 0)) from ?_)
    exact ⟨_, rfl, fr_t (fr_t (fr_0 _ _) (fr_s fU1 rfl)) (fr_s fU2 rfl), by omega, fun h => by omega⟩
abbrev cX5_readOrder : ByteArray := prog_7_method_7_code
def yX5_readOrder : MethodName := ⟨RX5, "readOrder", "()Z"⟩
def zX5_readOrder : Zm := (RX5, cX5_readOrder, 4, (some .boolean), { frames := 5, cells := 0, slots := 0, locals := 110 })
theorem bk_X5_readOrder_4 : ck_ fX5 (some .boolean) cX5_readOrder 4 [.iload 2, .iconst 7, .if_icmp .gt 94, .aload 0] 11 = true := qck_r (nn_ _) (by decide +kernel)
theorem bs_X5_readOrder_4 {P : Zt → Option Zv → Prop} (K : Int → Zl → List Zv → Zt → Prop) : sx_ K P [.iload 2, .iconst 7, .if_icmp .gt 94, .aload 0] 11 = x_iload 2 (x_iconst 7 (x_if_icmp .gt 94 K (x_aload 0 (K 11)))) := ((xe_iload 2).trans (congrArg (x_iload 2) ((xe_iconst 7).trans (congrArg (x_iconst 7) ((xe_if_icmp .gt 94).trans (congrArg (x_if_icmp .gt 94 K) ((xe_aload 0).trans (congrArg (x_aload 0) xe_nil))))))))
theorem bk_X5_readOrder_94 : ck_ fX5 (some .boolean) cX5_readOrder 94 [.iconst 0, .ireturn] 96 = true := qck_r (nn_ _) (by decide +kernel)
theorem bs_X5_readOrder_94 {P : Zt → Option Zv → Prop} (K : Int → Zl → List Zv → Zt → Prop) : sx_ K P [.iconst 0, .ireturn] 96 = x_iconst 0 (x_ireturn P) := ((xe_iconst 0).trans (congrArg (x_iconst 0) (xe_ireturn)))
theorem bk_X5_readOrder_14 : ck_ fX5 (some .boolean) cX5_readOrder 14 [.aload 0] 15 = true := qck_r (nn_ _) (by decide +kernel)
theorem bs_X5_readOrder_14 {P : Zt → Option Zv → Prop} (K : Int → Zl → List Zv → Zt → Prop) : sx_ K P [.aload 0] 15 = x_aload 0 (K 15) := ((xe_aload 0).trans (congrArg (x_aload 0) xe_nil))
theorem bk_X5_readOrder_20 : ck_ fX5 (some .boolean) cX5_readOrder 20 [.istore 3, .iload 3, .iconst (-1), .if_icmp .ne 28, .iconst 0, .ireturn] 28 = true := qck_r (nn_ _) (by decide +kernel)
theorem bs_X5_readOrder_20 {P : Zt → Option Zv → Prop} (K : Int → Zl → List Zv → Zt → Prop) : sx_ K P [.istore 3, .iload 3, .iconst (-1), .if_icmp .ne 28, .iconst 0, .ireturn] 28 = x_istore 3 (x_iload 3 (x_iconst (-1) (x_if_icmp .ne 28 K (x_iconst 0 (x_ireturn P))))) := ((xe_istore 3).trans (congrArg (x_istore 3) ((xe_iload 3).trans (congrArg (x_iload 3) ((xe_iconst (-1)).trans (congrArg (x_iconst (-1)) ((xe_if_icmp .ne 28).trans (congrArg (x_if_icmp .ne 28 K) ((xe_iconst 0).trans (congrArg (x_iconst 0) (xe_ireturn)))))))))))
theorem bk_X5_readOrder_28 : ck_ fX5 (some .boolean) cX5_readOrder 28 [.iload 1, .iload 3, .ishr, .iconst 1, .iand, .ifCond .ne 42, .iload 2, .iconst 7, .if_icmp .lt 48, .aload 0, .iconst 5] 44 = true := qck_r (nn_ _) (by decide +kernel)
theorem bs_X5_readOrder_28 {P : Zt → Option Zv → Prop} (K : Int → Zl → List Zv → Zt → Prop) : sx_ K P [.iload 1, .iload 3, .ishr, .iconst 1, .iand, .ifCond .ne 42, .iload 2, .iconst 7, .if_icmp .lt 48, .aload 0, .iconst 5] 44 = x_iload 1 (x_iload 3 (x_ishr (x_iconst 1 (x_iand (x_ifCond .ne 42 K (x_iload 2 (x_iconst 7 (x_if_icmp .lt 48 K (x_aload 0 (x_iconst 5 (K 44))))))))))) := ((xe_iload 1).trans (congrArg (x_iload 1) ((xe_iload 3).trans (congrArg (x_iload 3) ((xe_ishr).trans (congrArg (x_ishr) ((xe_iconst 1).trans (congrArg (x_iconst 1) ((xe_iand).trans (congrArg (x_iand) ((xe_ifCond .ne 42).trans (congrArg (x_ifCond .ne 42 K) ((xe_iload 2).trans (congrArg (x_iload 2) ((xe_iconst 7).trans (congrArg (x_iconst 7) ((xe_if_icmp .lt 48).trans (congrArg (x_if_icmp .lt 48 K) ((xe_aload 0).trans (congrArg (x_aload 0) ((xe_iconst 5).trans (congrArg (x_iconst 5) xe_nil))))))))))))))))))))))
theorem bk_X5_readOrder_42 : ck_ fX5 (some .boolean) cX5_readOrder 42 [.aload 0, .iconst 5] 44 = true := qck_r (nn_ _) (by decide +kernel)
theorem bs_X5_readOrder_42 {P : Zt → Option Zv → Prop} (K : Int → Zl → List Zv → Zt → Prop) : sx_ K P [.aload 0, .iconst 5] 44 = x_aload 0 (x_iconst 5 (K 44)) := ((xe_aload 0).trans (congrArg (x_aload 0) ((xe_iconst 5).trans (congrArg (x_iconst 5) xe_nil))))
theorem bk_X5_readOrder_47 : ck_ fX5 (some .boolean) cX5_readOrder 47 [.ireturn] 48 = true := qck_r (nn_ _) (by decide +kernel)
theorem bs_X5_readOrder_47 {P : Zt → Option Zv → Prop} (K : Int → Zl → List Zv → Zt → Prop) : sx_ K P [.ireturn] 48 = x_ireturn P := (xe_ireturn)
theorem bk_X5_readOrder_48 : ck_ fX5 (some .boolean) cX5_readOrder 48 [.iload 1, .iconst 1, .iload 3, .ishl, .ior, .istore 1, .aload 0, .tableswitch 0 5 5 #[], .iload 2, .iload 3, .iastore, .aload 0, .tableswitch 0 5 4 #[], .iconst 4, .iload 2, .iconst 1, .iadd, .iastore, .aload 0] 71 = true := qck_r (nn_ _) (by decide +kernel)
theorem bs_X5_readOrder_48 {P : Zt → Option Zv → Prop} (K : Int → Zl → List Zv → Zt → Prop) : sx_ K P [.iload 1, .iconst 1, .iload 3, .ishl, .ior, .istore 1, .aload 0, .tableswitch 0 5 5 #[], .iload 2, .iload 3, .iastore, .aload 0, .tableswitch 0 5 4 #[], .iconst 4, .iload 2, .iconst 1, .iadd, .iastore, .aload 0] 71 = x_iload 1 (x_iconst 1 (x_iload 3 (x_ishl (x_ior (x_istore 1 (x_aload 0 (x_g1 105 505 (x_iload 2 (x_iload 3 (x_iastore (x_aload 0 (x_g1 105 504 (x_iconst 4 (x_iload 2 (x_iconst 1 (x_iadd (x_iastore (x_aload 0 (K 71))))))))))))))))))) := ((xe_iload 1).trans (congrArg (x_iload 1) ((xe_iconst 1).trans (congrArg (x_iconst 1) ((xe_iload 3).trans (congrArg (x_iload 3) ((xe_ishl).trans (congrArg (x_ishl) ((xe_ior).trans (congrArg (x_ior) ((xe_istore 1).trans (congrArg (x_istore 1) ((xe_aload 0).trans (congrArg (x_aload 0) ((xe_g1 (kk := 105) rfl tl_5_5).trans (congrArg (x_g1 105 505) ((xe_iload 2).trans (congrArg (x_iload 2) ((xe_iload 3).trans (congrArg (x_iload 3) ((xe_iastore).trans (congrArg (x_iastore) ((xe_aload 0).trans (congrArg (x_aload 0) ((xe_g1 (kk := 105) rfl tl_5_4).trans (congrArg (x_g1 105 504) ((xe_iconst 4).trans (congrArg (x_iconst 4) ((xe_iload 2).trans (congrArg (x_iload 2) ((xe_iconst 1).trans (congrArg (x_iconst 1) ((xe_iadd).trans (congrArg (x_iadd) ((xe_iastore).trans (congrArg (x_iastore) ((xe_aload 0).trans (congrArg (x_aload 0) xe_nil))))))))))))))))))))))))))))))))))))))
theorem bk_X5_readOrder_74 : ck_ fX5 (some .boolean) cX5_readOrder 74 [.aload 0, .tableswitch 0 5 7 #[], .iconst 4, .if_icmp .eq 88, .aload 0, .iconst 3] 84 = true := qck_r (nn_ _) (by decide +kernel)
theorem bs_X5_readOrder_74 {P : Zt → Option Zv → Prop} (K : Int → Zl → List Zv → Zt → Prop) : sx_ K P [.aload 0, .tableswitch 0 5 7 #[], .iconst 4, .if_icmp .eq 88, .aload 0, .iconst 3] 84 = x_aload 0 (x_g0 105 7 0 5 (x_iconst 4 (x_if_icmp .eq 88 K (x_aload 0 (x_iconst 3 (K 84)))))) := ((xe_aload 0).trans (congrArg (x_aload 0) ((xe_g0 (kk := 105) rfl tl_5_7).trans (congrArg (x_g0 105 7 0 5) ((xe_iconst 4).trans (congrArg (x_iconst 4) ((xe_if_icmp .eq 88).trans (congrArg (x_if_icmp .eq 88 K) ((xe_aload 0).trans (congrArg (x_aload 0) ((xe_iconst 3).trans (congrArg (x_iconst 3) xe_nil))))))))))))
theorem bk_X5_readOrder_88 : ck_ fX5 (some .boolean) cX5_readOrder 88 [.iinc 2 1, .goto 4] 94 = true := qck_r (nn_ _) (by decide +kernel)
theorem bs_X5_readOrder_88 {P : Zt → Option Zv → Prop} (K : Int → Zl → List Zv → Zt → Prop) : sx_ K P [.iinc 2 1, .goto 4] 94 = x_iinc 2 1 (x_goto 4 K) := ((xe_iinc 2 1).trans (congrArg (x_iinc 2 1) (xe_goto 4)))
theorem bk_X5_readOrder_87 : ck_ fX5 (some .boolean) cX5_readOrder 87 [.ireturn] 88 = true := qck_r (nn_ _) (by decide +kernel)
theorem bs_X5_readOrder_87 {P : Zt → Option Zv → Prop} (K : Int → Zl → List Zv → Zt → Prop) : sx_ K P [.ireturn] 88 = x_ireturn P := (xe_ireturn)
theorem bk_X5_readOrder_0 : ck_ fX5 (some .boolean) cX5_readOrder 0 [.iconst 0, .istore 1, .iconst 0, .istore 2] 4 = true := qck_r (nn_ _) (by decide +kernel)
theorem bs_X5_readOrder_0 {P : Zt → Option Zv → Prop} (K : Int → Zl → List Zv → Zt → Prop) : sx_ K P [.iconst 0, .istore 1, .iconst 0, .istore 2] 4 = x_iconst 0 (x_istore 1 (x_iconst 0 (x_istore 2 (K 4)))) := ((xe_iconst 0).trans (congrArg (x_iconst 0) ((xe_istore 1).trans (congrArg (x_istore 1) ((xe_iconst 0).trans (congrArg (x_iconst 0) ((xe_istore 2).trans (congrArg (x_istore 2) xe_nil))))))))
abbrev po_X5_readOrder (T : Zt) : Zt → Option Zv → Prop := fun T' r => ∃ x : Int, r = some (vI x) ∧ fr_ [(105, [7, 8, 9, 2, 3]), (504, []), (505, [])] T T' ∧ ((0 ≤ x ∧ x ≤ 1) ∧ (x = 1 → VC8_ T'))
set_option maxHeartbeats 4000000 in
theorem ct_X5_readOrder {T : Zt} (hvc : VC8_ T) : Ct_ yX5_readOrder zX5_readOrder T [vR 105 0] (po_X5_readOrder T) := by
  refine ct_of pn_5 rfl rfl (Nat.le_of_ble_eq_true rfl) (fun hT hav => ?_)
  have hz : zX5_readOrder.2.2.2.1 = some .boolean → ∀ (T' : Zt) (x : Int), po_X5_readOrder T T' (some (vI x)) → 0 ≤ x ∧ x ≤ 1 := fun _ T' x h => by obtain ⟨y, e, -, hy, -⟩ := h; cases e; omega
  show J_ zX5_readOrder T (po_X5_readOrder T) 0 0 0 [some (vR 105 0), none, none, none] [] T
  have c_4 : ∀ (nn : Nat) (b : Int) (k : Int) (T1 : Zt), ((8 - k).toNat) ≤ nn → (fr_ [(105, [7, 8, 9, 2, 3]), (504, []), (505, [])] T T1) → (0 ≤ k ∧ k ≤ 8) → (VC8_ T1) → J_ zX5_readOrder T (po_X5_readOrder T) 0 0 4 [some (vR 105 0), some (vI b), some (vI k), none] [] T1 := by
    intro nn
    induction nn using Nat.strongRecOn with
    | _ nn ih_4 =>
      intro b k T1 hm_4 hf_4 i1 vc1
      refine j_blx (F := fX5) tb_X5 (nn_ _) bk_X5_readOrder_4 bs_X5_readOrder_4 hz (fun K hK => ?_)
      refine And.intro (fun c1 => ?_) (fun c1 => ?_)
      · refine hK 94 _ [] T1 ?_
        refine j_blx (F := fX5) tb_X5 (nn_ _) bk_X5_readOrder_94 bs_X5_readOrder_94 hz (fun K hK => ?_)
        refine (show po_X5_readOrder T T1 (some (vI 0)) from ?_)
        exact ⟨_, rfl, fr_t (fr_0 _ _) (fr_s hf_4 rfl), by omega, fun h => by omega⟩
      · refine hK 11 _ [vR 105 0] T1 ?_
        refine j_callV (y := yX5_nextToken) (Yc := zX5_nextToken) (rest := []) [] (ct_X5_nextToken (T := T1)) cl_X5_43 (qd_c (by decide +kernel)) (nn_ _) rfl (rf_of rfl) (Nat.le_of_ble_eq_true rfl) (Nat.le_of_ble_eq_true rfl) (Nat.le_of_ble_eq_true rfl) rfl ?_
        rintro U2 _ ⟨rfl, fU2, qU2⟩
        show J_ zX5_readOrder T (po_X5_readOrder T) 0 0 14 _ [] U2
        refine j_blx (F := fX5) tb_X5 (nn_ _) bk_X5_readOrder_14 bs_X5_readOrder_14 hz (fun K hK => ?_)
        refine hK 15 _ [vR 105 0] U2 ?_
        refine j_ldcS (pc := 15) (i := 2) (by decide) rfl (by decide) rfl (by decide +kernel) ?_
        show J_ zX5_readOrder T (po_X5_readOrder T) 0 0 17 _ [vR 82 2, vR 105 0] U2
        refine j_callV (y := yX5_wordOf) (Yc := zX5_wordOf) (rest := []) [vR 82 2] (ct_X5_wordOf_2 (T := U2)) cl_X5_55 (qd_c (by decide +kernel)) (nn_ _) rfl (rf_of rfl) (Nat.le_of_ble_eq_true rfl) (Nat.le_of_ble_eq_true rfl) (Nat.le_of_ble_eq_true rfl) rfl ?_
        rintro U3 _ ⟨x4, rfl, fU3, qU3⟩
        show J_ zX5_readOrder T (po_X5_readOrder T) 0 0 20 _ [vI x4] U3
        refine j_blx (F := fX5) tb_X5 (nn_ _) bk_X5_readOrder_20 bs_X5_readOrder_20 hz (fun K hK => ?_)
        refine And.intro (fun c5 => ?_) (fun c5 => ?_)
        · refine hK 28 [some (vR 105 0), some (vI b), some (vI k), some (vI x4)] [] U3 ?_
          refine j_blx (F := fX5) tb_X5 (nn_ _) bk_X5_readOrder_28 bs_X5_readOrder_28 hz (fun K hK => ?_)
          intro w6 w6b
          intro w7 w7b
          refine And.intro (fun c8 => ?_) (fun c8 => ?_)
          · refine hK 42 _ [] U3 ?_
            refine j_blx (F := fX5) tb_X5 (nn_ _) bk_X5_readOrder_42 bs_X5_readOrder_42 hz (fun K hK => ?_)
            refine hK 44 _ [vI 5, vR 105 0] U3 ?_
            refine j_callV (y := yX5_fail) (Yc := zX5_fail) (rest := []) [vI 5] (ct_X5_fail (T := U3) (by omega)) cl_X5_59 (qd_c (by decide +kernel)) (nn_ _) rfl (rf_of rfl) (Nat.le_of_ble_eq_true rfl) (Nat.le_of_ble_eq_true rfl) (Nat.le_of_ble_eq_true rfl) rfl ?_
            rintro U9 _ ⟨x10, rfl, fU9, qU9⟩
            show J_ zX5_readOrder T (po_X5_readOrder T) 0 0 47 _ [vI x10] U9
            refine j_blx (F := fX5) tb_X5 (nn_ _) bk_X5_readOrder_47 bs_X5_readOrder_47 hz (fun K hK => ?_)
            refine (show po_X5_readOrder T U9 (some (vI x10)) from ?_)
            exact ⟨_, rfl, fr_t (fr_t (fr_t (fr_t (fr_0 _ _) (fr_s hf_4 rfl)) (fr_s fU2 rfl)) (fr_s fU3 rfl)) (fr_s fU9 rfl), by omega, fun h => by omega⟩
          · refine And.intro (fun c11 => ?_) (fun c11 => ?_)
            · refine hK 48 _ [] U3 ?_
              refine j_blx (F := fX5) tb_X5 (nn_ _) bk_X5_readOrder_48 bs_X5_readOrder_48 hz (fun K hK => ?_)
              intro w12 w12b
              intro w13 w13b
              refine iy_i (by omega) (by omega) ?_
              refine x_nm (fun U14 hU14 => ?_)
              have e15 := up_f hU14
              refine rg_i (by omega) ?_
              refine iy_i (by omega) (by omega) ?_
              refine x_nm (fun U16 hU16 => ?_)
              have e17 := up_f hU16
              refine hK 71 [some (vR 105 0), some (vI (or_ b (sl_ 1 x4))), some (vI k), some (vI x4)] [vR 105 0] U16 ?_
              refine j_callV (y := yX5_nextToken) (Yc := zX5_nextToken) (rest := []) [] (ct_X5_nextToken (T := U16)) cl_X5_43 (qd_c (by decide +kernel)) (nn_ _) rfl (rf_of rfl) (Nat.le_of_ble_eq_true rfl) (Nat.le_of_ble_eq_true rfl) (Nat.le_of_ble_eq_true rfl) rfl ?_
              rintro U18 _ ⟨rfl, fU18, qU18⟩
              show J_ zX5_readOrder T (po_X5_readOrder T) 0 0 74 _ [] U18
              refine j_blx (F := fX5) tb_X5 (nn_ _) bk_X5_readOrder_74 bs_X5_readOrder_74 hz (fun K hK => ?_)
              intro b19 b19b
              refine And.intro (fun c20 => ?_) (fun c20 => ?_)
              · refine hK 88 _ [] U18 ?_
                refine j_blx (F := fX5) tb_X5 (nn_ _) bk_X5_readOrder_88 bs_X5_readOrder_88 hz (fun K hK => ?_)
                refine rg_i (by omega) ?_
                refine hK 4 [some (vR 105 0), some (vI (or_ b (sl_ 1 x4))), some (vI (k + 1)), some (vI x4)] [] U18 ?_
                refine j_drop [some (vR 105 0), some (vI (or_ b (sl_ 1 x4))), some (vI (k + 1)), none] (fun k v hk => ?_) rfl ?_
                · match k, hk with
                  | 0, hk => exact hk
                  | 1, hk => exact hk
                  | 2, hk => exact hk
                  | 3, hk => cases hk
                  | k + 4, hk => cases hk
                refine ih_4 _ ?_ (or_ b (sl_ 1 x4)) (k + 1) U18 (Nat.le_refl _) ?_ ?_ ?_
                · omega
                · exact fr_t (fr_u (fr_u (fr_t (fr_t (fr_t (fr_0 _ _) (fr_s hf_4 rfl)) (fr_s fU2 rfl)) (fr_s fU3 rfl)) hU14 rfl) hU16 rfl) (fr_s fU18 rfl)
                · omega
                · have g1 := VC8_f vc1 (show fr_ [(105, [7, 8, 9, 2, 3]), (505, [])] T1 U14 from fr_u (fr_t (fr_t (fr_0 _ _) (fr_s fU2 rfl)) (fr_s fU3 rfl)) hU14 rfl) (fun _ => rfl)
                  have g2 : VC8_ U16 := ⟨VB8_u g1.1 hU16 ⟨by show (0 : Int) ≤ _; omega, by show _ ≤ (7 : Int); omega⟩, by rw [up_g hU16 (fun z => by omega), up_g hU16 (fun z => by omega)]; exact g1.2⟩
                  exact VC8_f g2 (show fr_ [(105, [7, 8, 9, 2, 3])] U16 U18 from fr_t (fr_0 _ _) (fr_s fU18 rfl)) (fun _ => rfl)
              · refine hK 84 [some (vR 105 0), some (vI (or_ b (sl_ 1 x4))), some (vI k), some (vI x4)] [vI 3, vR 105 0] U18 ?_
                refine j_callV (y := yX5_isOfKind) (Yc := zX5_isOfKind) (rest := []) [vI 3] (ct_X5_isOfKind (T := U18)) cl_X5_79 (qd_c (by decide +kernel)) (nn_ _) rfl (rf_of rfl) (Nat.le_of_ble_eq_true rfl) (Nat.le_of_ble_eq_true rfl) (Nat.le_of_ble_eq_true rfl) rfl ?_
                rintro U21 _ ⟨x22, rfl, fU21, qU21⟩
                show J_ zX5_readOrder T (po_X5_readOrder T) 0 0 87 _ [vI x22] U21
                refine j_blx (F := fX5) tb_X5 (nn_ _) bk_X5_readOrder_87 bs_X5_readOrder_87 hz (fun K hK => ?_)
                refine (show po_X5_readOrder T U21 (some (vI x22)) from ?_)
                have g23 := VC8_f vc1 (show fr_ [(105, [7, 8, 9, 2, 3]), (505, [])] T1 U14 from fr_u (fr_t (fr_t (fr_0 _ _) (fr_s fU2 rfl)) (fr_s fU3 rfl)) hU14 rfl) (fun _ => rfl)
                have g24 : VC8_ U16 := ⟨VB8_u g23.1 hU16 ⟨by show (0 : Int) ≤ _; omega, by show _ ≤ (7 : Int); omega⟩, by rw [up_g hU16 (fun z => by omega), up_g hU16 (fun z => by omega)]; exact g23.2⟩
                exact ⟨_, rfl, fr_t (fr_t (fr_u (fr_u (fr_t (fr_t (fr_t (fr_0 _ _) (fr_s hf_4 rfl)) (fr_s fU2 rfl)) (fr_s fU3 rfl)) hU14 rfl) hU16 rfl) (fr_s fU18 rfl)) (fr_s fU21 rfl), by omega, fun _ => VC8_f g24 (show fr_ [(105, [7, 8, 9, 2, 3])] U16 U21 from fr_t (fr_t (fr_0 _ _) (fr_s fU18 rfl)) (fr_s fU21 rfl)) (fun _ => rfl)⟩
            · refine hK 44 [some (vR 105 0), some (vI b), some (vI k), some (vI x4)] [vI 5, vR 105 0] U3 ?_
              refine j_callV (y := yX5_fail) (Yc := zX5_fail) (rest := []) [vI 5] (ct_X5_fail (T := U3) (by omega)) cl_X5_59 (qd_c (by decide +kernel)) (nn_ _) rfl (rf_of rfl) (Nat.le_of_ble_eq_true rfl) (Nat.le_of_ble_eq_true rfl) (Nat.le_of_ble_eq_true rfl) rfl ?_
              rintro U25 _ ⟨x26, rfl, fU25, qU25⟩
              show J_ zX5_readOrder T (po_X5_readOrder T) 0 0 47 _ [vI x26] U25
              refine j_blx (F := fX5) tb_X5 (nn_ _) bk_X5_readOrder_47 bs_X5_readOrder_47 hz (fun K hK => ?_)
              refine (show po_X5_readOrder T U25 (some (vI x26)) from ?_)
              exact ⟨_, rfl, fr_t (fr_t (fr_t (fr_t (fr_0 _ _) (fr_s hf_4 rfl)) (fr_s fU2 rfl)) (fr_s fU3 rfl)) (fr_s fU25 rfl), by omega, fun h => by omega⟩
        · refine (show po_X5_readOrder T U3 (some (vI 0)) from ?_)
          exact ⟨_, rfl, fr_t (fr_t (fr_t (fr_0 _ _) (fr_s hf_4 rfl)) (fr_s fU2 rfl)) (fr_s fU3 rfl), by omega, fun h => by omega⟩
  refine j_blx (F := fX5) tb_X5 (nn_ _) bk_X5_readOrder_0 bs_X5_readOrder_0 hz (fun K hK => ?_)
  refine hK 4 [some (vR 105 0), some (vI 0), some (vI 0), none] [] T ?_
  refine c_4 _ 0 0 T (Nat.le_refl _) ?_ ?_ ?_
  · exact fr_0 _ _
  · omega
  · exact hvc

