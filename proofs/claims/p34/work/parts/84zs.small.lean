/-- the club of a person on a day: of the latest span that holds the day -/
noncomputable def cnn_ (T : Zt) (p d : Int) : Nat → Int
  | 0 => -1
  | n + 1 => cz_ (T 217 0 (n : Int) = p ∧ T 219 0 (n : Int) ≤ d ∧ d ≤ T 220 0 (n : Int)) (T 218 0 (n : Int)) (cnn_ T p d n)
noncomputable def co9_c (T : Zt) (p d : Int) : Int := cnn_ T p d (T 111 0 16).toNat
theorem cnn_t {T : Zt} {p d : Int} {n : Nat} (h : T 217 0 (n : Int) = p ∧ T 219 0 (n : Int) ≤ d ∧ d ≤ T 220 0 (n : Int)) : cnn_ T p d (n + 1) = T 218 0 (n : Int) := cz_t h
theorem cnn_f {T : Zt} {p d : Int} {n : Nat} (h : ¬ (T 217 0 (n : Int) = p ∧ T 219 0 (n : Int) ≤ d ∧ d ≤ T 220 0 (n : Int))) : cnn_ T p d (n + 1) = cnn_ T p d n := cz_f h
theorem cnn_v {T : Zt} {p d v : Int} (h0 : 0 ≤ v) (hv : T 217 0 v = p ∧ T 219 0 v ≤ d ∧ d ≤ T 220 0 v) : ∀ n : Nat, v < (n : Int) → (∀ j, v < j → j < (n : Int) → ¬ (T 217 0 j = p ∧ T 219 0 j ≤ d ∧ d ≤ T 220 0 j)) → cnn_ T p d n = T 218 0 v
  | 0, h, _ => absurd h (by omega)
  | n + 1, h, g => by
    by_cases z : v = (n : Int)
    · rw [cnn_t (by rw [← z]; exact hv), z]
    · rw [cnn_f (g (n : Int) (by omega) (by omega))]
      exact cnn_v h0 hv n (by omega) (fun j a b => g j a (by omega))
theorem cnn_0 {T : Zt} {p d : Int} : ∀ n : Nat, (∀ j, 0 ≤ j → j < (n : Int) → ¬ (T 217 0 j = p ∧ T 219 0 j ≤ d ∧ d ≤ T 220 0 j)) → cnn_ T p d n = -1
  | 0, _ => rfl
  | n + 1, g => by
    rw [cnn_f (g (n : Int) (by omega) (by omega))]
    exact cnn_0 n (fun j a b => g j a (by omega))
theorem cnn_b {T : Zt} (hT : ok_T T) {p d : Int} : ∀ n : Nat, -1 ≤ cnn_ T p d n ∧ cnn_ T p d n ≤ 11
  | 0 => by
    show (-1 : Int) ≤ -1 ∧ (-1 : Int) ≤ 11
    decide
  | n + 1 => by
    by_cases z : T 217 0 (n : Int) = p ∧ T 219 0 (n : Int) ≤ d ∧ d ≤ T 220 0 (n : Int)
    · rw [cnn_t z]
      have y := bd_a hT 218 (by decide +kernel : ta_ 218 = some (1, some 300, 0, 11)) 0 (show (0 : Int) ≤ (n : Int) by omega)
      omega
    · rw [cnn_f z]; exact cnn_b hT n
theorem fs_n {T : Zt} {p d m : Int} (h : SPR_ T) (hf : FSP_ T p d d m) (hm : 0 ≤ m) : ∀ j, m ≤ j → j < T 111 0 16 → ¬ (T 217 0 j = p ∧ T 219 0 j ≤ d ∧ d ≤ T 220 0 j) := fun j a b c => by
  have e1 := h.1
  have e2 := h.2.1 j (by omega) (by omega)
  refine hf j a (by omega) c.1 ⟨?_, ?_⟩
  · rw [e2.2.1]; exact c.2.1
  · rw [e2.2.2]; exact c.2.2
theorem co_t {T : Zt} {p d m v : Int} (hs : SPR_ T) (h : lpz_ T p m v) (hf : FSP_ T p d d m) (hv : v ≠ -1) (hm : m ≤ T 108 0 5) (h1 : T 567 0 v ≤ d) (h2 : d ≤ T 568 0 v) : T 566 0 v = co9_c T p d := by
  rcases h with z | z
  · exact absurd z.1 hv
  · obtain ⟨z0, z1, z2, z3⟩ := z
    have e1 := hs.1
    have e2 := hs.2.1 v z0 (by omega)
    unfold co9_c
    rw [cnn_v (v := v) z0 ⟨z2, by rw [← e2.2.1]; exact h1, by rw [← e2.2.2]; exact h2⟩ (T 111 0 16).toNat (by omega) (fun j a b c => by
      by_cases y : j < m
      · exact z3 j a y c.1
      · exact fs_n hs hf (by omega) j (by omega) (by omega) c)]
    exact e2.1
theorem co_f {T : Zt} {p d : Int} (hs : SPR_ T) (hf : FSP_ T p d d 0) : co9_c T p d = -1 := cnn_0 _ (fun j a b => fs_n hs hf (by decide) j a (by omega))
theorem bk_X2_scoreOf_e_0 : ck_ fX2 (some .int) cX2_scoreOf 0 [.aload 0, .tableswitch 0 2 6 #[], .iconst (-1), .if_icmp .eq 31, .iload 1, .aload 0, .tableswitch 0 2 6 #[], .if_icmp .ne 20, .iconst 0, .goto 30] 20 = true := qck_r (nn_ _) (by decide +kernel)
theorem bs_X2_scoreOf_e_0 {P : Zt → Option Zv → Prop} (K : Int → Zl → List Zv → Zt → Prop) : sx_ K P [.aload 0, .tableswitch 0 2 6 #[], .iconst (-1), .if_icmp .eq 31, .iload 1, .aload 0, .tableswitch 0 2 6 #[], .if_icmp .ne 20, .iconst 0, .goto 30] 20 = x_aload 0 (x_g0 102 6 (-1) 1 (x_iconst (-1) (x_if_icmp .eq 31 K (x_iload 1 (x_aload 0 (x_g0 102 6 (-1) 1 (x_if_icmp .ne 20 K (x_iconst 0 (x_goto 30 K))))))))) := ((xe_aload 0).trans (congrArg (x_aload 0) ((xe_g0 (kk := 102) rfl tl_2_6).trans (congrArg (x_g0 102 6 (-1) 1) ((xe_iconst (-1)).trans (congrArg (x_iconst (-1)) ((xe_if_icmp .eq 31).trans (congrArg (x_if_icmp .eq 31 K) ((xe_iload 1).trans (congrArg (x_iload 1) ((xe_aload 0).trans (congrArg (x_aload 0) ((xe_g0 (kk := 102) rfl tl_2_6).trans (congrArg (x_g0 102 6 (-1) 1) ((xe_if_icmp .ne 20).trans (congrArg (x_if_icmp .ne 20 K) ((xe_iconst 0).trans (congrArg (x_iconst 0) (xe_goto 30)))))))))))))))))))
theorem bk_X2_scoreOf_e_31 : ck_ fX2 (some .int) cX2_scoreOf 31 [.aload 0, .tableswitch 0 2 10 #[], .ifnonnull 42, .iconst 0, .goto 51] 42 = true := qck_r (nn_ _) (by decide +kernel)
theorem bs_X2_scoreOf_e_31 {P : Zt → Option Zv → Prop} (K : Int → Zl → List Zv → Zt → Prop) : sx_ K P [.aload 0, .tableswitch 0 2 10 #[], .ifnonnull 42, .iconst 0, .goto 51] 42 = x_aload 0 (x_g4 102 103 10 (x_ifnonnull 42 K (x_iconst 0 (x_goto 51 K)))) := ((xe_aload 0).trans (congrArg (x_aload 0) ((xe_g4 (kk := 102) rfl tl_2_10).trans (congrArg (x_g4 102 103 10) ((xe_ifnonnull 42).trans (congrArg (x_ifnonnull 42 K) ((xe_iconst 0).trans (congrArg (x_iconst 0) (xe_goto 51)))))))))
theorem bk_X2_scoreOf_e_51 : ck_ fX2 (some .int) cX2_scoreOf 51 [.ireturn] 52 = true := qck_r (nn_ _) (by decide +kernel)
theorem bs_X2_scoreOf_e_51 {P : Zt → Option Zv → Prop} (K : Int → Zl → List Zv → Zt → Prop) : sx_ K P [.ireturn] 52 = x_ireturn P := (xe_ireturn)
theorem bk_X2_scoreOf_e_42 : ck_ fX2 (some .int) cX2_scoreOf 42 [.aload 0, .tableswitch 0 2 10 #[], .tableswitch 0 3 8 #[], .iload 1, .iaload, .ireturn] 52 = true := qck_r (nn_ _) (by decide +kernel)
theorem bs_X2_scoreOf_e_42 {P : Zt → Option Zv → Prop} (K : Int → Zl → List Zv → Zt → Prop) : sx_ K P [.aload 0, .tableswitch 0 2 10 #[], .tableswitch 0 3 8 #[], .iload 1, .iaload, .ireturn] 52 = x_aload 0 (x_g4 102 103 10 (x_g2 103 468 (x_iload 1 (x_iaload (x_ireturn P))))) := ((xe_aload 0).trans (congrArg (x_aload 0) ((xe_g4 (kk := 102) rfl tl_2_10).trans (congrArg (x_g4 102 103 10) ((xe_g2 (kk := 103) rfl tl_3_8).trans (congrArg (x_g2 103 468) ((xe_iload 1).trans (congrArg (x_iload 1) ((xe_iaload).trans (congrArg (x_iaload) (xe_ireturn)))))))))))
theorem bk_X2_scoreOf_e_20 : ck_ fX2 (some .int) cX2_scoreOf 20 [.aload 0, .tableswitch 0 2 0 #[], .tableswitch 0 0 1 #[], .iconst 12, .iaload, .ireturn] 31 = true := qck_r (nn_ _) (by decide +kernel)
theorem bs_X2_scoreOf_e_20 {P : Zt → Option Zv → Prop} (K : Int → Zl → List Zv → Zt → Prop) : sx_ K P [.aload 0, .tableswitch 0 2 0 #[], .tableswitch 0 0 1 #[], .iconst 12, .iaload, .ireturn] 31 = x_aload 0 (x_g3 102 100 0 (x_g2 100 401 (x_iconst 12 (x_iaload (x_ireturn P))))) := ((xe_aload 0).trans (congrArg (x_aload 0) ((xe_g3 (kk := 102) rfl tl_2_0).trans (congrArg (x_g3 102 100 0) ((xe_g2 (kk := 100) rfl tl_0_1).trans (congrArg (x_g2 100 401) ((xe_iconst 12).trans (congrArg (x_iconst 12) ((xe_iaload).trans (congrArg (x_iaload) (xe_ireturn)))))))))))
theorem bk_X2_scoreOf_e_30 : ck_ fX2 (some .int) cX2_scoreOf 30 [.ireturn] 31 = true := qck_r (nn_ _) (by decide +kernel)
theorem bs_X2_scoreOf_e_30 {P : Zt → Option Zv → Prop} (K : Int → Zl → List Zv → Zt → Prop) : sx_ K P [.ireturn] 31 = x_ireturn P := (xe_ireturn)
abbrev po_X2_scoreOf_e (T : Zt) (p : Int) (s : Int) : Zt → Option Zv → Prop := fun T' r => T = T' ∧ ∃ x : Int, r = some (vI x) ∧ ((T 102 p 6 ≠ -1 ∧ ((s = T 102 p 6 ∧ x = 0) ∨ (s ≠ T 102 p 6 ∧ x = T 401 (T 102 p 0) 12))) ∨ (T 102 p 6 = -1 ∧ ((T 102 p 10 = 0 ∧ x = 0) ∨ (T 102 p 10 ≠ 0 ∧ x = T 468 p s))))
set_option maxHeartbeats 4000000 in
theorem ct_X2_scoreOf_e {T : Zt} {p : Int} {s : Int} (h1 : 0 ≤ s ∧ s ≤ 1) : Ct_ yX2_scoreOf zX2_scoreOf T [vR 102 p, vI s] (po_X2_scoreOf_e T p s) := by
  refine ct_of pn_2 rfl rfl (Nat.le_of_ble_eq_true rfl) (fun hT hav => ?_)
  have hr_s : -2147483648 ≤ s ∧ s ≤ 2147483647 := hav (vI s) (List.mem_cons_of_mem _ List.mem_cons_self)
  have hz : zX2_scoreOf.2.2.2.1 = some .boolean → ∀ (T' : Zt) (x : Int), po_X2_scoreOf_e T p s T' (some (vI x)) → 0 ≤ x ∧ x ≤ 1 := fun h => by cases h
  show J_ zX2_scoreOf T (po_X2_scoreOf_e T p s) 0 0 0 [some (vR 102 p), some (vI s)] [] T
  refine j_blx (F := fX2) tb_X2 (nn_ _) bk_X2_scoreOf_e_0 bs_X2_scoreOf_e_0 hz (fun K hK => ?_)
  intro b1 b1b
  refine And.intro (fun c2 => ?_) (fun c2 => ?_)
  · refine hK 31 _ [] T ?_
    refine j_blx (F := fX2) tb_X2 (nn_ _) bk_X2_scoreOf_e_31 bs_X2_scoreOf_e_31 hz (fun K hK => ?_)
    refine And.intro (fun c3 => ?_) (fun c3 => ?_)
    · refine hK 51 _ [vI 0] T ?_
      refine j_blx (F := fX2) tb_X2 (nn_ _) bk_X2_scoreOf_e_51 bs_X2_scoreOf_e_51 hz (fun K hK => ?_)
      refine (show po_X2_scoreOf_e T p s T (some (vI 0)) from ?_)
      exact ⟨rfl, _, rfl, by omega⟩
    · refine hK 42 _ [] T ?_
      refine j_blx (F := fX2) tb_X2 (nn_ _) bk_X2_scoreOf_e_42 bs_X2_scoreOf_e_42 hz (fun K hK => ?_)
      refine And.intro (fun c4 => ?_) (fun c4 => ?_)
      · exact absurd c4 (by omega)
      · refine ix_i (by omega) ?_
        intro b5 b5b
        refine (show po_X2_scoreOf_e T p s T (some (vI (T 468 p s))) from ?_)
        exact ⟨rfl, _, rfl, by omega⟩
  · intro b6 b6b
    refine And.intro (fun c7 => ?_) (fun c7 => ?_)
    · refine hK 20 _ [] T ?_
      refine j_blx (F := fX2) tb_X2 (nn_ _) bk_X2_scoreOf_e_20 bs_X2_scoreOf_e_20 hz (fun K hK => ?_)
      refine ix_i (by omega) ?_
      intro b9 b9b
      refine (show po_X2_scoreOf_e T p s T (some (vI (T 401 (T 102 p 0) 12))) from ?_)
      exact ⟨rfl, _, rfl, by omega⟩
    · refine hK 30 _ [vI 0] T ?_
      refine j_blx (F := fX2) tb_X2 (nn_ _) bk_X2_scoreOf_e_30 bs_X2_scoreOf_e_30 hz (fun K hK => ?_)
      refine (show po_X2_scoreOf_e T p s T (some (vI 0)) from ?_)
      exact ⟨rfl, _, rfl, by omega⟩
theorem bk_X2_isDecided_e_0 : ck_ fX2 (some .boolean) cX2_isDecided 0 [.aload 0] 1 = true := qck_r (nn_ _) (by decide +kernel)
theorem bs_X2_isDecided_e_0 {P : Zt → Option Zv → Prop} (K : Int → Zl → List Zv → Zt → Prop) : sx_ K P [.aload 0] 1 = x_aload 0 (K 1) := ((xe_aload 0).trans (congrArg (x_aload 0) xe_nil))
theorem bk_X2_isDecided_e_4 : ck_ fX2 (some .boolean) cX2_isDecided 4 [.iconst 2, .if_icmp .lt 12, .iconst 1, .goto 13] 12 = true := qck_r (nn_ _) (by decide +kernel)
theorem bs_X2_isDecided_e_4 {P : Zt → Option Zv → Prop} (K : Int → Zl → List Zv → Zt → Prop) : sx_ K P [.iconst 2, .if_icmp .lt 12, .iconst 1, .goto 13] 12 = x_iconst 2 (x_if_icmp .lt 12 K (x_iconst 1 (x_goto 13 K))) := ((xe_iconst 2).trans (congrArg (x_iconst 2) ((xe_if_icmp .lt 12).trans (congrArg (x_if_icmp .lt 12 K) ((xe_iconst 1).trans (congrArg (x_iconst 1) (xe_goto 13)))))))
theorem bk_X2_isDecided_e_12 : ck_ fX2 (some .boolean) cX2_isDecided 12 [.iconst 0, .ireturn] 14 = true := qck_r (nn_ _) (by decide +kernel)
theorem bs_X2_isDecided_e_12 {P : Zt → Option Zv → Prop} (K : Int → Zl → List Zv → Zt → Prop) : sx_ K P [.iconst 0, .ireturn] 14 = x_iconst 0 (x_ireturn P) := ((xe_iconst 0).trans (congrArg (x_iconst 0) (xe_ireturn)))
theorem bk_X2_isDecided_e_13 : ck_ fX2 (some .boolean) cX2_isDecided 13 [.ireturn] 14 = true := qck_r (nn_ _) (by decide +kernel)
theorem bs_X2_isDecided_e_13 {P : Zt → Option Zv → Prop} (K : Int → Zl → List Zv → Zt → Prop) : sx_ K P [.ireturn] 14 = x_ireturn P := (xe_ireturn)
abbrev po_X2_isDecided_e (T : Zt) (p : Int) : Zt → Option Zv → Prop := fun T' r => T = T' ∧ ∃ x : Int, r = some (vI x) ∧ ((x = 1 ∧ (T 102 p 6 ≠ -1 ∨ (T 102 p 10 ≠ 0 ∧ T 103 p 3 ≠ 0))) ∨ (x = 0 ∧ ¬ (T 102 p 6 ≠ -1 ∨ (T 102 p 10 ≠ 0 ∧ T 103 p 3 ≠ 0))))
set_option maxHeartbeats 4000000 in
theorem ct_X2_isDecided_e {T : Zt} {p : Int} : Ct_ yX2_isDecided zX2_isDecided T [vR 102 p] (po_X2_isDecided_e T p) := by
  refine ct_of pn_2 rfl rfl (Nat.le_of_ble_eq_true rfl) (fun hT hav => ?_)
  have hz : zX2_isDecided.2.2.2.1 = some .boolean → ∀ (T' : Zt) (x : Int), po_X2_isDecided_e T p T' (some (vI x)) → 0 ≤ x ∧ x ≤ 1 := fun _ T' x h => by obtain ⟨-, y, e, hy⟩ := h; cases e; omega
  show J_ zX2_isDecided T (po_X2_isDecided_e T p) 0 0 0 [some (vR 102 p)] [] T
  refine j_blx (F := fX2) tb_X2 (nn_ _) bk_X2_isDecided_e_0 bs_X2_isDecided_e_0 hz (fun K hK => ?_)
  refine hK 1 _ [vR 102 p] T ?_
  refine j_callV (y := yX2_phaseOfLife) (Yc := zX2_phaseOfLife) (rest := []) [] (ct_X2_phaseOfLife_e (T := T)) cl_X2_54 (qd_c (by decide +kernel)) (nn_ _) rfl (rf_of rfl) (Nat.le_of_ble_eq_true rfl) (Nat.le_of_ble_eq_true rfl) (Nat.le_of_ble_eq_true rfl) rfl ?_
  rintro _ _ ⟨rfl, x1, rfl, hx1⟩
  show J_ zX2_isDecided T (po_X2_isDecided_e T p) 0 0 4 _ [vI x1] T
  refine j_blx (F := fX2) tb_X2 (nn_ _) bk_X2_isDecided_e_4 bs_X2_isDecided_e_4 hz (fun K hK => ?_)
  refine And.intro (fun c2 => ?_) (fun c2 => ?_)
  · refine hK 12 _ [] T ?_
    refine j_blx (F := fX2) tb_X2 (nn_ _) bk_X2_isDecided_e_12 bs_X2_isDecided_e_12 hz (fun K hK => ?_)
    refine (show po_X2_isDecided_e T p T (some (vI 0)) from ?_)
    exact ⟨rfl, _, rfl, Or.inr ⟨rfl, by omega⟩⟩
  · refine hK 13 _ [vI 1] T ?_
    refine j_blx (F := fX2) tb_X2 (nn_ _) bk_X2_isDecided_e_13 bs_X2_isDecided_e_13 hz (fun K hK => ?_)
    refine (show po_X2_isDecided_e T p T (some (vI 1)) from ?_)
    exact ⟨rfl, _, rfl, Or.inl ⟨rfl, by omega⟩⟩
theorem bk_X10_match_e_0 : ck_ fX10 (some .int) cX10_match 0 [.aload 0, .iload 1] 2 = true := qck_r (nn_ _) (by decide +kernel)
theorem bs_X10_match_e_0 {P : Zt → Option Zv → Prop} (K : Int → Zl → List Zv → Zt → Prop) : sx_ K P [.aload 0, .iload 1] 2 = x_aload 0 (x_iload 1 (K 2)) := ((xe_aload 0).trans (congrArg (x_aload 0) ((xe_iload 1).trans (congrArg (x_iload 1) xe_nil))))
theorem bk_X10_match_e_5 : ck_ fX10 (some .int) cX10_match 5 [.ifCond .ne 11, .iconst (-2), .ireturn] 11 = true := qck_r (nn_ _) (by decide +kernel)
theorem bs_X10_match_e_5 {P : Zt → Option Zv → Prop} (K : Int → Zl → List Zv → Zt → Prop) : sx_ K P [.ifCond .ne 11, .iconst (-2), .ireturn] 11 = x_ifCond .ne 11 K (x_iconst (-2) (x_ireturn P)) := ((xe_ifCond .ne 11).trans (congrArg (x_ifCond .ne 11 K) ((xe_iconst (-2)).trans (congrArg (x_iconst (-2)) (xe_ireturn)))))
theorem bk_X10_match_e_11 : ck_ fX10 (some .int) cX10_match 11 [.aload 0, .tableswitch 0 10 2 #[], .tableswitch 0 6 3 #[], .iload 1, .aaload, .astore 3, .iload 2] 22 = true := qck_r (nn_ _) (by decide +kernel)
theorem bs_X10_match_e_11 {P : Zt → Option Zv → Prop} (K : Int → Zl → List Zv → Zt → Prop) : sx_ K P [.aload 0, .tableswitch 0 10 2 #[], .tableswitch 0 6 3 #[], .iload 1, .aaload, .astore 3, .iload 2] 22 = x_aload 0 (x_g1 110 106 (x_g1 106 523 (x_iload 1 (x_aaload (x_astore 3 (x_iload 2 (K 22))))))) := ((xe_aload 0).trans (congrArg (x_aload 0) ((xe_g1 (kk := 110) rfl tl_10_2).trans (congrArg (x_g1 110 106) ((xe_g1 (kk := 106) rfl tl_6_3).trans (congrArg (x_g1 106 523) ((xe_iload 1).trans (congrArg (x_iload 1) ((xe_aaload).trans (congrArg (x_aaload) ((xe_astore 3).trans (congrArg (x_astore 3) ((xe_iload 2).trans (congrArg (x_iload 2) xe_nil))))))))))))))
theorem bk_X10_match_e_68 : ck_ fX10 (some .int) cX10_match 68 [.aload 3, .tableswitch 0 2 0 #[], .tableswitch 0 0 0 #[], .ireturn] 76 = true := qck_r (nn_ _) (by decide +kernel)
theorem bs_X10_match_e_68 {P : Zt → Option Zv → Prop} (K : Int → Zl → List Zv → Zt → Prop) : sx_ K P [.aload 3, .tableswitch 0 2 0 #[], .tableswitch 0 0 0 #[], .ireturn] 76 = x_aload 3 (x_g3 102 100 0 (x_g0 100 0 0 3 (x_ireturn P))) := ((xe_aload 3).trans (congrArg (x_aload 3) ((xe_g3 (kk := 102) rfl tl_2_0).trans (congrArg (x_g3 102 100 0) ((xe_g0 (kk := 100) rfl tl_0_0).trans (congrArg (x_g0 100 0 0 3) (xe_ireturn)))))))
theorem bk_X10_match_e_76 : ck_ fX10 (some .int) cX10_match 76 [.aload 3, .tableswitch 0 2 2 #[], .ireturn] 81 = true := qck_r (nn_ _) (by decide +kernel)
theorem bs_X10_match_e_76 {P : Zt → Option Zv → Prop} (K : Int → Zl → List Zv → Zt → Prop) : sx_ K P [.aload 3, .tableswitch 0 2 2 #[], .ireturn] 81 = x_aload 3 (x_g0 102 2 (-2147483648) 2147483647 (x_ireturn P)) := ((xe_aload 3).trans (congrArg (x_aload 3) ((xe_g0 (kk := 102) rfl tl_2_2).trans (congrArg (x_g0 102 2 (-2147483648) 2147483647) (xe_ireturn)))))
theorem bk_X10_match_e_81 : ck_ fX10 (some .int) cX10_match 81 [.aload 3, .tableswitch 0 2 3 #[], .ireturn] 86 = true := qck_r (nn_ _) (by decide +kernel)
theorem bs_X10_match_e_81 {P : Zt → Option Zv → Prop} (K : Int → Zl → List Zv → Zt → Prop) : sx_ K P [.aload 3, .tableswitch 0 2 3 #[], .ireturn] 86 = x_aload 3 (x_g0 102 3 0 11 (x_ireturn P)) := ((xe_aload 3).trans (congrArg (x_aload 3) ((xe_g0 (kk := 102) rfl tl_2_3).trans (congrArg (x_g0 102 3 0 11) (xe_ireturn)))))
theorem bk_X10_match_e_86 : ck_ fX10 (some .int) cX10_match 86 [.aload 3, .tableswitch 0 2 4 #[], .ireturn] 91 = true := qck_r (nn_ _) (by decide +kernel)
theorem bs_X10_match_e_86 {P : Zt → Option Zv → Prop} (K : Int → Zl → List Zv → Zt → Prop) : sx_ K P [.aload 3, .tableswitch 0 2 4 #[], .ireturn] 91 = x_aload 3 (x_g0 102 4 0 11 (x_ireturn P)) := ((xe_aload 3).trans (congrArg (x_aload 3) ((xe_g0 (kk := 102) rfl tl_2_4).trans (congrArg (x_g0 102 4 0 11) (xe_ireturn)))))
theorem bk_X10_match_e_91 : ck_ fX10 (some .int) cX10_match 91 [.aload 3, .tableswitch 0 2 5 #[], .ireturn] 96 = true := qck_r (nn_ _) (by decide +kernel)
theorem bs_X10_match_e_91 {P : Zt → Option Zv → Prop} (K : Int → Zl → List Zv → Zt → Prop) : sx_ K P [.aload 3, .tableswitch 0 2 5 #[], .ireturn] 96 = x_aload 3 (x_g0 102 5 0 999 (x_ireturn P)) := ((xe_aload 3).trans (congrArg (x_aload 3) ((xe_g0 (kk := 102) rfl tl_2_5).trans (congrArg (x_g0 102 5 0 999) (xe_ireturn)))))
theorem bk_X10_match_e_96 : ck_ fX10 (some .int) cX10_match 96 [.aload 3] 97 = true := qck_r (nn_ _) (by decide +kernel)
theorem bs_X10_match_e_96 {P : Zt → Option Zv → Prop} (K : Int → Zl → List Zv → Zt → Prop) : sx_ K P [.aload 3] 97 = x_aload 3 (K 97) := ((xe_aload 3).trans (congrArg (x_aload 3) xe_nil))
theorem bk_X10_match_e_100 : ck_ fX10 (some .int) cX10_match 100 [.ireturn] 101 = true := qck_r (nn_ _) (by decide +kernel)
theorem bs_X10_match_e_100 {P : Zt → Option Zv → Prop} (K : Int → Zl → List Zv → Zt → Prop) : sx_ K P [.ireturn] 101 = x_ireturn P := (xe_ireturn)
theorem bk_X10_match_e_101 : ck_ fX10 (some .int) cX10_match 101 [.aload 3, .iconst 0] 103 = true := qck_r (nn_ _) (by decide +kernel)
theorem bs_X10_match_e_101 {P : Zt → Option Zv → Prop} (K : Int → Zl → List Zv → Zt → Prop) : sx_ K P [.aload 3, .iconst 0] 103 = x_aload 3 (x_iconst 0 (K 103)) := ((xe_aload 3).trans (congrArg (x_aload 3) ((xe_iconst 0).trans (congrArg (x_iconst 0) xe_nil))))
theorem bk_X10_match_e_106 : ck_ fX10 (some .int) cX10_match 106 [.ireturn] 107 = true := qck_r (nn_ _) (by decide +kernel)
theorem bs_X10_match_e_106 {P : Zt → Option Zv → Prop} (K : Int → Zl → List Zv → Zt → Prop) : sx_ K P [.ireturn] 107 = x_ireturn P := (xe_ireturn)
theorem bk_X10_match_e_107 : ck_ fX10 (some .int) cX10_match 107 [.aload 3, .iconst 1] 109 = true := qck_r (nn_ _) (by decide +kernel)
theorem bs_X10_match_e_107 {P : Zt → Option Zv → Prop} (K : Int → Zl → List Zv → Zt → Prop) : sx_ K P [.aload 3, .iconst 1] 109 = x_aload 3 (x_iconst 1 (K 109)) := ((xe_aload 3).trans (congrArg (x_aload 3) ((xe_iconst 1).trans (congrArg (x_iconst 1) xe_nil))))
theorem bk_X10_match_e_112 : ck_ fX10 (some .int) cX10_match 112 [.ireturn] 113 = true := qck_r (nn_ _) (by decide +kernel)
theorem bs_X10_match_e_112 {P : Zt → Option Zv → Prop} (K : Int → Zl → List Zv → Zt → Prop) : sx_ K P [.ireturn] 113 = x_ireturn P := (xe_ireturn)
theorem bk_X10_match_e_113 : ck_ fX10 (some .int) cX10_match 113 [.iconst (-3), .ireturn] 116 = true := qck_r (nn_ _) (by decide +kernel)
theorem bs_X10_match_e_113 {P : Zt → Option Zv → Prop} (K : Int → Zl → List Zv → Zt → Prop) : sx_ K P [.iconst (-3), .ireturn] 116 = x_iconst (-3) (x_ireturn P) := ((xe_iconst (-3)).trans (congrArg (x_iconst (-3)) (xe_ireturn)))
abbrev po_X10_match_e (T : Zt) (m w : Int) : Zt → Option Zv → Prop := fun T' r => T = T' ∧ ∃ x : Int, r = some (vI x) ∧ ((x = -2 ∧ ¬ (0 ≤ m ∧ m < T 106 0 4)) ∨ ((0 ≤ m ∧ m < T 106 0 4) ∧ ((w = 0 ∧ x = T 100 (T 102 m 0) 0) ∨ (w = 1 ∧ x = T 102 m 2) ∨ (w = 2 ∧ x = T 102 m 3) ∨ (w = 3 ∧ x = T 102 m 4) ∨ (w = 4 ∧ x = T 102 m 5) ∨ (w = 5 ∧ ((T 102 m 6 ≠ -1 ∧ x = 3) ∨ (T 102 m 6 = -1 ∧ ((T 102 m 10 = 0 ∧ x = 0) ∨ (T 102 m 10 ≠ 0 ∧ ((T 103 m 3 = 0 ∧ x = 1) ∨ (T 103 m 3 ≠ 0 ∧ x = 2))))))) ∨ (w = 6 ∧ ((T 102 m 6 ≠ -1 ∧ ((0 = T 102 m 6 ∧ x = 0) ∨ (0 ≠ T 102 m 6 ∧ x = T 401 (T 102 m 0) 12))) ∨ (T 102 m 6 = -1 ∧ ((T 102 m 10 = 0 ∧ x = 0) ∨ (T 102 m 10 ≠ 0 ∧ x = T 468 m 0))))) ∨ (w = 7 ∧ ((T 102 m 6 ≠ -1 ∧ ((1 = T 102 m 6 ∧ x = 0) ∨ (1 ≠ T 102 m 6 ∧ x = T 401 (T 102 m 0) 12))) ∨ (T 102 m 6 = -1 ∧ ((T 102 m 10 = 0 ∧ x = 0) ∨ (T 102 m 10 ≠ 0 ∧ x = T 468 m 1))))) ∨ (¬ (0 ≤ w ∧ w ≤ 7) ∧ x = -3))))
set_option maxHeartbeats 4000000 in
theorem ct_X10_match_e {T : Zt} {m w : Int} (hka : KA_ T) : Ct_ yX10_match zX10_match T [vR 110 0, vI m, vI w] (po_X10_match_e T m w) := by
  refine ct_of pn_10 rfl rfl (Nat.le_of_ble_eq_true rfl) (fun hT hav => ?_)
  have hr_m : -2147483648 ≤ m ∧ m ≤ 2147483647 := hav (vI m) (List.mem_cons_of_mem _ List.mem_cons_self)
  have hr_w : -2147483648 ≤ w ∧ w ≤ 2147483647 := hav (vI w) (List.mem_cons_of_mem _ (List.mem_cons_of_mem _ List.mem_cons_self))
  have hz : zX10_match.2.2.2.1 = some .boolean → ∀ (T' : Zt) (x : Int), po_X10_match_e T m w T' (some (vI x)) → 0 ≤ x ∧ x ≤ 1 := fun h => by cases h
  have hb_matchCount : 0 ≤ T 106 0 4 ∧ T 106 0 4 ≤ 400 := bd_f hT 106 4 tl_6_4 0
  show J_ zX10_match T (po_X10_match_e T m w) 0 0 0 [some (vR 110 0), some (vI m), some (vI w), none] [] T
  refine j_blx (F := fX10) tb_X10 (nn_ _) bk_X10_match_e_0 bs_X10_match_e_0 hz (fun K hK => ?_)
  refine hK 2 _ [vI m, vR 110 0] T ?_
  refine j_callV (y := yX10_isMatch) (Yc := zX10_isMatch) (rest := []) [vI m] (ct_X10_isMatch (T := T)) cl_X10_195 (qd_c (by decide +kernel)) (nn_ _) rfl (rf_of rfl) (Nat.le_of_ble_eq_true rfl) (Nat.le_of_ble_eq_true rfl) (Nat.le_of_ble_eq_true rfl) rfl ?_
  rintro _ _ ⟨rfl, x1, rfl, hx1⟩
  show J_ zX10_match T (po_X10_match_e T m w) 0 0 5 _ [vI x1] T
  refine j_blx (F := fX10) tb_X10 (nn_ _) bk_X10_match_e_5 bs_X10_match_e_5 hz (fun K hK => ?_)
  refine And.intro (fun c2 => ?_) (fun c2 => ?_)
  · replace hx1 := hx1.resolve_right (fun z => c2 z.1)
    clear c2
    refine hK 11 _ [] T ?_
    refine j_blx (F := fX10) tb_X10 (nn_ _) bk_X10_match_e_11 bs_X10_match_e_11 hz (fun K hK => ?_)
    refine ix_i (by omega) ?_
    refine And.intro (fun c3 => ?_) (fun c3 => ?_)
    · exact absurd (show T 523 0 (m) = 0 by omega) (hka.2 _ (by omega) (by omega))
    · refine hK 22 [some (vR 110 0), some (vI m), some (vI w), some (vR 102 m)] [vI w] T ?_
      by_cases z4_0 : w = 0
      · refine j_tsI (pc := 22) 0 (off := 46) (tgt := 68) (by decide) ds_X10_match_22 (by omega) (by decide) rfl (by decide) (by decide) ?_
        refine j_blx (F := fX10) tb_X10 (nn_ _) bk_X10_match_e_68 bs_X10_match_e_68 hz (fun K hK => ?_)
        intro b6 b6b
        refine (show po_X10_match_e T m w T (some (vI (T 100 (T 102 m 0) 0))) from ?_)
        refine ⟨rfl, _, rfl, ?_⟩
        first
        | assumption
        | refine Or.inl ?_
          refine And.intro ?_ ?_
          · first | omega | rfl
          · first | omega | rfl
        | refine Or.inr ?_
          refine And.intro ?_ ?_
          · refine And.intro ?_ ?_
            · first | omega | rfl
            · first | omega | rfl
          · first
            | assumption
            | refine Or.inl ?_
              refine And.intro ?_ ?_
              · first | omega | rfl
              · first | omega | rfl
            | refine Or.inr ?_
              first
              | assumption
              | refine Or.inl ?_
                refine And.intro ?_ ?_
                · first | omega | rfl
                · first | omega | rfl
              | refine Or.inr ?_
                first
                | assumption
                | refine Or.inl ?_
                  refine And.intro ?_ ?_
                  · first | omega | rfl
                  · first | omega | rfl
                | refine Or.inr ?_
                  first
                  | assumption
                  | refine Or.inl ?_
                    refine And.intro ?_ ?_
                    · first | omega | rfl
                    · first | omega | rfl
                  | refine Or.inr ?_
                    first
                    | assumption
                    | refine Or.inl ?_
                      refine And.intro ?_ ?_
                      · first | omega | rfl
                      · first | omega | rfl
                    | refine Or.inr ?_
                      first
                      | assumption
                      | refine Or.inl ?_
                        refine And.intro ?_ ?_
                        · first | omega | rfl
                        · first
                          | assumption
                          | refine Or.inl ?_
                            refine And.intro ?_ ?_
                            · first | omega | rfl
                            · first | omega | rfl
                          | refine Or.inr ?_
                            refine And.intro ?_ ?_
                            · first | omega | rfl
                            · first
                              | assumption
                              | refine Or.inl ?_
                                refine And.intro ?_ ?_
                                · first | omega | rfl
                                · first | omega | rfl
                              | refine Or.inr ?_
                                refine And.intro ?_ ?_
                                · first | omega | rfl
                                · first
                                  | assumption
                                  | refine Or.inl ?_
                                    refine And.intro ?_ ?_
                                    · first | omega | rfl
                                    · first | omega | rfl
                                  | refine Or.inr ?_
                                    refine And.intro ?_ ?_
                                    · first | omega | rfl
                                    · first | omega | rfl
                                  | omega
                              | omega
                          | omega
                      | refine Or.inr ?_
                        first
                        | assumption
                        | refine Or.inl ?_
                          refine And.intro ?_ ?_
                          · first | omega | rfl
                          · first
                            | assumption
                            | refine Or.inl ?_
                              refine And.intro ?_ ?_
                              · first | omega | rfl
                              · first
                                | assumption
                                | refine Or.inl ?_
                                  refine And.intro ?_ ?_
                                  · first | omega | rfl
                                  · first | omega | rfl
                                | refine Or.inr ?_
                                  refine And.intro ?_ ?_
                                  · first | omega | rfl
                                  · first | omega | rfl
                                | omega
                            | refine Or.inr ?_
                              refine And.intro ?_ ?_
                              · first | omega | rfl
                              · first
                                | assumption
                                | refine Or.inl ?_
                                  refine And.intro ?_ ?_
                                  · first | omega | rfl
                                  · first | omega | rfl
                                | refine Or.inr ?_
                                  refine And.intro ?_ ?_
                                  · first | omega | rfl
                                  · first | omega | rfl
                                | omega
                            | omega
                        | refine Or.inr ?_
                          first
                          | assumption
                          | refine Or.inl ?_
                            refine And.intro ?_ ?_
                            · first | omega | rfl
                            · first
                              | assumption
                              | refine Or.inl ?_
                                refine And.intro ?_ ?_
                                · first | omega | rfl
                                · first
                                  | assumption
                                  | refine Or.inl ?_
                                    refine And.intro ?_ ?_
                                    · first | omega | rfl
                                    · first | omega | rfl
                                  | refine Or.inr ?_
                                    refine And.intro ?_ ?_
                                    · first | omega | rfl
                                    · first | omega | rfl
                                  | omega
                              | refine Or.inr ?_
                                refine And.intro ?_ ?_
                                · first | omega | rfl
                                · first
                                  | assumption
                                  | refine Or.inl ?_
                                    refine And.intro ?_ ?_
                                    · first | omega | rfl
                                    · first | omega | rfl
                                  | refine Or.inr ?_
                                    refine And.intro ?_ ?_
                                    · first | omega | rfl
                                    · first | omega | rfl
                                  | omega
                              | omega
                          | refine Or.inr ?_
                            refine And.intro ?_ ?_
                            · first | omega | rfl
                            · first | omega | rfl
      by_cases z4_1 : w = 1
      · refine j_tsI (pc := 22) 1 (off := 54) (tgt := 76) (by decide) ds_X10_match_22 (by omega) (by decide) rfl (by decide) (by decide) ?_
        refine j_blx (F := fX10) tb_X10 (nn_ _) bk_X10_match_e_76 bs_X10_match_e_76 hz (fun K hK => ?_)
        intro b7 b7b
        refine (show po_X10_match_e T m w T (some (vI (T 102 m 2))) from ?_)
        refine ⟨rfl, _, rfl, ?_⟩
        first
        | assumption
        | refine Or.inl ?_
          refine And.intro ?_ ?_
          · first | omega | rfl
          · first | omega | rfl
        | refine Or.inr ?_
          refine And.intro ?_ ?_
          · refine And.intro ?_ ?_
            · first | omega | rfl
            · first | omega | rfl
          · first
            | assumption
            | refine Or.inl ?_
              refine And.intro ?_ ?_
              · first | omega | rfl
              · first | omega | rfl
            | refine Or.inr ?_
              first
              | assumption
              | refine Or.inl ?_
                refine And.intro ?_ ?_
                · first | omega | rfl
                · first | omega | rfl
              | refine Or.inr ?_
                first
                | assumption
                | refine Or.inl ?_
                  refine And.intro ?_ ?_
                  · first | omega | rfl
                  · first | omega | rfl
                | refine Or.inr ?_
                  first
                  | assumption
                  | refine Or.inl ?_
                    refine And.intro ?_ ?_
                    · first | omega | rfl
                    · first | omega | rfl
                  | refine Or.inr ?_
                    first
                    | assumption
                    | refine Or.inl ?_
                      refine And.intro ?_ ?_
                      · first | omega | rfl
                      · first | omega | rfl
                    | refine Or.inr ?_
                      first
                      | assumption
                      | refine Or.inl ?_
                        refine And.intro ?_ ?_
                        · first | omega | rfl
                        · first
                          | assumption
                          | refine Or.inl ?_
                            refine And.intro ?_ ?_
                            · first | omega | rfl
                            · first | omega | rfl
                          | refine Or.inr ?_
                            refine And.intro ?_ ?_
                            · first | omega | rfl
                            · first
                              | assumption
                              | refine Or.inl ?_
                                refine And.intro ?_ ?_
                                · first | omega | rfl
                                · first | omega | rfl
                              | refine Or.inr ?_
                                refine And.intro ?_ ?_
                                · first | omega | rfl
                                · first
                                  | assumption
                                  | refine Or.inl ?_
                                    refine And.intro ?_ ?_
                                    · first | omega | rfl
                                    · first | omega | rfl
                                  | refine Or.inr ?_
                                    refine And.intro ?_ ?_
                                    · first | omega | rfl
                                    · first | omega | rfl
                                  | omega
                              | omega
                          | omega
                      | refine Or.inr ?_
                        first
                        | assumption
                        | refine Or.inl ?_
                          refine And.intro ?_ ?_
                          · first | omega | rfl
                          · first
                            | assumption
                            | refine Or.inl ?_
                              refine And.intro ?_ ?_
                              · first | omega | rfl
                              · first
                                | assumption
                                | refine Or.inl ?_
                                  refine And.intro ?_ ?_
                                  · first | omega | rfl
                                  · first | omega | rfl
                                | refine Or.inr ?_
                                  refine And.intro ?_ ?_
                                  · first | omega | rfl
                                  · first | omega | rfl
                                | omega
                            | refine Or.inr ?_
                              refine And.intro ?_ ?_
                              · first | omega | rfl
                              · first
                                | assumption
                                | refine Or.inl ?_
                                  refine And.intro ?_ ?_
                                  · first | omega | rfl
                                  · first | omega | rfl
                                | refine Or.inr ?_
                                  refine And.intro ?_ ?_
                                  · first | omega | rfl
                                  · first | omega | rfl
                                | omega
                            | omega
                        | refine Or.inr ?_
                          first
                          | assumption
                          | refine Or.inl ?_
                            refine And.intro ?_ ?_
                            · first | omega | rfl
                            · first
                              | assumption
                              | refine Or.inl ?_
                                refine And.intro ?_ ?_
                                · first | omega | rfl
                                · first
                                  | assumption
                                  | refine Or.inl ?_
                                    refine And.intro ?_ ?_
                                    · first | omega | rfl
                                    · first | omega | rfl
                                  | refine Or.inr ?_
                                    refine And.intro ?_ ?_
                                    · first | omega | rfl
                                    · first | omega | rfl
                                  | omega
                              | refine Or.inr ?_
                                refine And.intro ?_ ?_
                                · first | omega | rfl
                                · first
                                  | assumption
                                  | refine Or.inl ?_
                                    refine And.intro ?_ ?_
                                    · first | omega | rfl
                                    · first | omega | rfl
                                  | refine Or.inr ?_
                                    refine And.intro ?_ ?_
                                    · first | omega | rfl
                                    · first | omega | rfl
                                  | omega
                              | omega
                          | refine Or.inr ?_
                            refine And.intro ?_ ?_
                            · first | omega | rfl
                            · first | omega | rfl
      by_cases z4_2 : w = 2
      · refine j_tsI (pc := 22) 2 (off := 59) (tgt := 81) (by decide) ds_X10_match_22 (by omega) (by decide) rfl (by decide) (by decide) ?_
        refine j_blx (F := fX10) tb_X10 (nn_ _) bk_X10_match_e_81 bs_X10_match_e_81 hz (fun K hK => ?_)
        intro b8 b8b
        refine (show po_X10_match_e T m w T (some (vI (T 102 m 3))) from ?_)
        refine ⟨rfl, _, rfl, ?_⟩
        first
        | assumption
        | refine Or.inl ?_
          refine And.intro ?_ ?_
          · first | omega | rfl
          · first | omega | rfl
        | refine Or.inr ?_
          refine And.intro ?_ ?_
          · refine And.intro ?_ ?_
            · first | omega | rfl
            · first | omega | rfl
          · first
            | assumption
            | refine Or.inl ?_
              refine And.intro ?_ ?_
              · first | omega | rfl
              · first | omega | rfl
            | refine Or.inr ?_
              first
              | assumption
              | refine Or.inl ?_
                refine And.intro ?_ ?_
                · first | omega | rfl
                · first | omega | rfl
              | refine Or.inr ?_
                first
                | assumption
                | refine Or.inl ?_
                  refine And.intro ?_ ?_
                  · first | omega | rfl
                  · first | omega | rfl
                | refine Or.inr ?_
                  first
                  | assumption
                  | refine Or.inl ?_
                    refine And.intro ?_ ?_
                    · first | omega | rfl
                    · first | omega | rfl
                  | refine Or.inr ?_
                    first
                    | assumption
                    | refine Or.inl ?_
                      refine And.intro ?_ ?_
                      · first | omega | rfl
                      · first | omega | rfl
                    | refine Or.inr ?_
                      first
                      | assumption
                      | refine Or.inl ?_
                        refine And.intro ?_ ?_
                        · first | omega | rfl
                        · first
                          | assumption
                          | refine Or.inl ?_
                            refine And.intro ?_ ?_
                            · first | omega | rfl
                            · first | omega | rfl
                          | refine Or.inr ?_
                            refine And.intro ?_ ?_
                            · first | omega | rfl
                            · first
                              | assumption
                              | refine Or.inl ?_
                                refine And.intro ?_ ?_
                                · first | omega | rfl
                                · first | omega | rfl
                              | refine Or.inr ?_
                                refine And.intro ?_ ?_
                                · first | omega | rfl
                                · first
                                  | assumption
                                  | refine Or.inl ?_
                                    refine And.intro ?_ ?_
                                    · first | omega | rfl
                                    · first | omega | rfl
                                  | refine Or.inr ?_
                                    refine And.intro ?_ ?_
                                    · first | omega | rfl
                                    · first | omega | rfl
                                  | omega
                              | omega
                          | omega
                      | refine Or.inr ?_
                        first
                        | assumption
                        | refine Or.inl ?_
                          refine And.intro ?_ ?_
                          · first | omega | rfl
                          · first
                            | assumption
                            | refine Or.inl ?_
                              refine And.intro ?_ ?_
                              · first | omega | rfl
                              · first
                                | assumption
                                | refine Or.inl ?_
                                  refine And.intro ?_ ?_
                                  · first | omega | rfl
                                  · first | omega | rfl
                                | refine Or.inr ?_
                                  refine And.intro ?_ ?_
                                  · first | omega | rfl
                                  · first | omega | rfl
                                | omega
                            | refine Or.inr ?_
                              refine And.intro ?_ ?_
                              · first | omega | rfl
                              · first
                                | assumption
                                | refine Or.inl ?_
                                  refine And.intro ?_ ?_
                                  · first | omega | rfl
                                  · first | omega | rfl
                                | refine Or.inr ?_
                                  refine And.intro ?_ ?_
                                  · first | omega | rfl
                                  · first | omega | rfl
                                | omega
                            | omega
                        | refine Or.inr ?_
                          first
                          | assumption
                          | refine Or.inl ?_
                            refine And.intro ?_ ?_
                            · first | omega | rfl
                            · first
                              | assumption
                              | refine Or.inl ?_
                                refine And.intro ?_ ?_
                                · first | omega | rfl
                                · first
                                  | assumption
                                  | refine Or.inl ?_
                                    refine And.intro ?_ ?_
                                    · first | omega | rfl
                                    · first | omega | rfl
                                  | refine Or.inr ?_
                                    refine And.intro ?_ ?_
                                    · first | omega | rfl
                                    · first | omega | rfl
                                  | omega
                              | refine Or.inr ?_
                                refine And.intro ?_ ?_
                                · first | omega | rfl
                                · first
                                  | assumption
                                  | refine Or.inl ?_
                                    refine And.intro ?_ ?_
                                    · first | omega | rfl
                                    · first | omega | rfl
                                  | refine Or.inr ?_
                                    refine And.intro ?_ ?_
                                    · first | omega | rfl
                                    · first | omega | rfl
                                  | omega
                              | omega
                          | refine Or.inr ?_
                            refine And.intro ?_ ?_
                            · first | omega | rfl
                            · first | omega | rfl
      by_cases z4_3 : w = 3
      · refine j_tsI (pc := 22) 3 (off := 64) (tgt := 86) (by decide) ds_X10_match_22 (by omega) (by decide) rfl (by decide) (by decide) ?_
        refine j_blx (F := fX10) tb_X10 (nn_ _) bk_X10_match_e_86 bs_X10_match_e_86 hz (fun K hK => ?_)
        intro b9 b9b
        refine (show po_X10_match_e T m w T (some (vI (T 102 m 4))) from ?_)
        refine ⟨rfl, _, rfl, ?_⟩
        first
        | assumption
        | refine Or.inl ?_
          refine And.intro ?_ ?_
          · first | omega | rfl
          · first | omega | rfl
        | refine Or.inr ?_
          refine And.intro ?_ ?_
          · refine And.intro ?_ ?_
            · first | omega | rfl
            · first | omega | rfl
          · first
            | assumption
            | refine Or.inl ?_
              refine And.intro ?_ ?_
              · first | omega | rfl
              · first | omega | rfl
            | refine Or.inr ?_
              first
              | assumption
              | refine Or.inl ?_
                refine And.intro ?_ ?_
                · first | omega | rfl
                · first | omega | rfl
              | refine Or.inr ?_
                first
                | assumption
                | refine Or.inl ?_
                  refine And.intro ?_ ?_
                  · first | omega | rfl
                  · first | omega | rfl
                | refine Or.inr ?_
                  first
                  | assumption
                  | refine Or.inl ?_
                    refine And.intro ?_ ?_
                    · first | omega | rfl
                    · first | omega | rfl
                  | refine Or.inr ?_
                    first
                    | assumption
                    | refine Or.inl ?_
                      refine And.intro ?_ ?_
                      · first | omega | rfl
                      · first | omega | rfl
                    | refine Or.inr ?_
                      first
                      | assumption
                      | refine Or.inl ?_
                        refine And.intro ?_ ?_
                        · first | omega | rfl
                        · first
                          | assumption
                          | refine Or.inl ?_
                            refine And.intro ?_ ?_
                            · first | omega | rfl
                            · first | omega | rfl
                          | refine Or.inr ?_
                            refine And.intro ?_ ?_
                            · first | omega | rfl
                            · first
                              | assumption
                              | refine Or.inl ?_
                                refine And.intro ?_ ?_
                                · first | omega | rfl
                                · first | omega | rfl
                              | refine Or.inr ?_
                                refine And.intro ?_ ?_
                                · first | omega | rfl
                                · first
                                  | assumption
                                  | refine Or.inl ?_
                                    refine And.intro ?_ ?_
                                    · first | omega | rfl
                                    · first | omega | rfl
                                  | refine Or.inr ?_
                                    refine And.intro ?_ ?_
                                    · first | omega | rfl
                                    · first | omega | rfl
                                  | omega
                              | omega
                          | omega
                      | refine Or.inr ?_
                        first
                        | assumption
                        | refine Or.inl ?_
                          refine And.intro ?_ ?_
                          · first | omega | rfl
                          · first
                            | assumption
                            | refine Or.inl ?_
                              refine And.intro ?_ ?_
                              · first | omega | rfl
                              · first
                                | assumption
                                | refine Or.inl ?_
                                  refine And.intro ?_ ?_
                                  · first | omega | rfl
                                  · first | omega | rfl
                                | refine Or.inr ?_
                                  refine And.intro ?_ ?_
                                  · first | omega | rfl
                                  · first | omega | rfl
                                | omega
                            | refine Or.inr ?_
                              refine And.intro ?_ ?_
                              · first | omega | rfl
                              · first
                                | assumption
                                | refine Or.inl ?_
                                  refine And.intro ?_ ?_
                                  · first | omega | rfl
                                  · first | omega | rfl
                                | refine Or.inr ?_
                                  refine And.intro ?_ ?_
                                  · first | omega | rfl
                                  · first | omega | rfl
                                | omega
                            | omega
                        | refine Or.inr ?_
                          first
                          | assumption
                          | refine Or.inl ?_
                            refine And.intro ?_ ?_
                            · first | omega | rfl
                            · first
                              | assumption
                              | refine Or.inl ?_
                                refine And.intro ?_ ?_
                                · first | omega | rfl
                                · first
                                  | assumption
                                  | refine Or.inl ?_
                                    refine And.intro ?_ ?_
                                    · first | omega | rfl
                                    · first | omega | rfl
                                  | refine Or.inr ?_
                                    refine And.intro ?_ ?_
                                    · first | omega | rfl
                                    · first | omega | rfl
                                  | omega
                              | refine Or.inr ?_
                                refine And.intro ?_ ?_
                                · first | omega | rfl
                                · first
                                  | assumption
                                  | refine Or.inl ?_
                                    refine And.intro ?_ ?_
                                    · first | omega | rfl
                                    · first | omega | rfl
                                  | refine Or.inr ?_
                                    refine And.intro ?_ ?_
                                    · first | omega | rfl
                                    · first | omega | rfl
                                  | omega
                              | omega
                          | refine Or.inr ?_
                            refine And.intro ?_ ?_
                            · first | omega | rfl
                            · first | omega | rfl
      by_cases z4_4 : w = 4
      · refine j_tsI (pc := 22) 4 (off := 69) (tgt := 91) (by decide) ds_X10_match_22 (by omega) (by decide) rfl (by decide) (by decide) ?_
        refine j_blx (F := fX10) tb_X10 (nn_ _) bk_X10_match_e_91 bs_X10_match_e_91 hz (fun K hK => ?_)
        intro b10 b10b
        refine (show po_X10_match_e T m w T (some (vI (T 102 m 5))) from ?_)
        refine ⟨rfl, _, rfl, ?_⟩
        first
        | assumption
        | refine Or.inl ?_
          refine And.intro ?_ ?_
          · first | omega | rfl
          · first | omega | rfl
        | refine Or.inr ?_
          refine And.intro ?_ ?_
          · refine And.intro ?_ ?_
            · first | omega | rfl
            · first | omega | rfl
          · first
            | assumption
            | refine Or.inl ?_
              refine And.intro ?_ ?_
              · first | omega | rfl
              · first | omega | rfl
            | refine Or.inr ?_
              first
              | assumption
              | refine Or.inl ?_
                refine And.intro ?_ ?_
                · first | omega | rfl
                · first | omega | rfl
              | refine Or.inr ?_
                first
                | assumption
                | refine Or.inl ?_
                  refine And.intro ?_ ?_
                  · first | omega | rfl
                  · first | omega | rfl
                | refine Or.inr ?_
                  first
                  | assumption
                  | refine Or.inl ?_
                    refine And.intro ?_ ?_
                    · first | omega | rfl
                    · first | omega | rfl
                  | refine Or.inr ?_
                    first
                    | assumption
                    | refine Or.inl ?_
                      refine And.intro ?_ ?_
                      · first | omega | rfl
                      · first | omega | rfl
                    | refine Or.inr ?_
                      first
                      | assumption
                      | refine Or.inl ?_
                        refine And.intro ?_ ?_
                        · first | omega | rfl
                        · first
                          | assumption
                          | refine Or.inl ?_
                            refine And.intro ?_ ?_
                            · first | omega | rfl
                            · first | omega | rfl
                          | refine Or.inr ?_
                            refine And.intro ?_ ?_
                            · first | omega | rfl
                            · first
                              | assumption
                              | refine Or.inl ?_
                                refine And.intro ?_ ?_
                                · first | omega | rfl
                                · first | omega | rfl
                              | refine Or.inr ?_
                                refine And.intro ?_ ?_
                                · first | omega | rfl
                                · first
                                  | assumption
                                  | refine Or.inl ?_
                                    refine And.intro ?_ ?_
                                    · first | omega | rfl
                                    · first | omega | rfl
                                  | refine Or.inr ?_
                                    refine And.intro ?_ ?_
                                    · first | omega | rfl
                                    · first | omega | rfl
                                  | omega
                              | omega
                          | omega
                      | refine Or.inr ?_
                        first
                        | assumption
                        | refine Or.inl ?_
                          refine And.intro ?_ ?_
                          · first | omega | rfl
                          · first
                            | assumption
                            | refine Or.inl ?_
                              refine And.intro ?_ ?_
                              · first | omega | rfl
                              · first
                                | assumption
                                | refine Or.inl ?_
                                  refine And.intro ?_ ?_
                                  · first | omega | rfl
                                  · first | omega | rfl
                                | refine Or.inr ?_
                                  refine And.intro ?_ ?_
                                  · first | omega | rfl
                                  · first | omega | rfl
                                | omega
                            | refine Or.inr ?_
                              refine And.intro ?_ ?_
                              · first | omega | rfl
                              · first
                                | assumption
                                | refine Or.inl ?_
                                  refine And.intro ?_ ?_
                                  · first | omega | rfl
                                  · first | omega | rfl
                                | refine Or.inr ?_
                                  refine And.intro ?_ ?_
                                  · first | omega | rfl
                                  · first | omega | rfl
                                | omega
                            | omega
                        | refine Or.inr ?_
                          first
                          | assumption
                          | refine Or.inl ?_
                            refine And.intro ?_ ?_
                            · first | omega | rfl
                            · first
                              | assumption
                              | refine Or.inl ?_
                                refine And.intro ?_ ?_
                                · first | omega | rfl
                                · first
                                  | assumption
                                  | refine Or.inl ?_
                                    refine And.intro ?_ ?_
                                    · first | omega | rfl
                                    · first | omega | rfl
                                  | refine Or.inr ?_
                                    refine And.intro ?_ ?_
                                    · first | omega | rfl
                                    · first | omega | rfl
                                  | omega
                              | refine Or.inr ?_
                                refine And.intro ?_ ?_
                                · first | omega | rfl
                                · first
                                  | assumption
                                  | refine Or.inl ?_
                                    refine And.intro ?_ ?_
                                    · first | omega | rfl
                                    · first | omega | rfl
                                  | refine Or.inr ?_
                                    refine And.intro ?_ ?_
                                    · first | omega | rfl
                                    · first | omega | rfl
                                  | omega
                              | omega
                          | refine Or.inr ?_
                            refine And.intro ?_ ?_
                            · first | omega | rfl
                            · first | omega | rfl
      by_cases z4_5 : w = 5
      · refine j_tsI (pc := 22) 5 (off := 74) (tgt := 96) (by decide) ds_X10_match_22 (by omega) (by decide) rfl (by decide) (by decide) ?_
        refine j_blx (F := fX10) tb_X10 (nn_ _) bk_X10_match_e_96 bs_X10_match_e_96 hz (fun K hK => ?_)
        refine hK 97 _ [vR 102 m] T ?_
        refine j_callV (y := yX2_phaseOfLife) (Yc := zX2_phaseOfLife) (rest := []) [] (ct_X2_phaseOfLife_e (T := T)) cl_X10_223 (qd_c (by decide +kernel)) (nn_ _) rfl (rf_of rfl) (Nat.le_of_ble_eq_true rfl) (Nat.le_of_ble_eq_true rfl) (Nat.le_of_ble_eq_true rfl) rfl ?_
        rintro _ _ ⟨rfl, x11, rfl, hx11⟩
        show J_ zX10_match T (po_X10_match_e T m w) 0 0 100 _ [vI x11] T
        refine j_blx (F := fX10) tb_X10 (nn_ _) bk_X10_match_e_100 bs_X10_match_e_100 hz (fun K hK => ?_)
        refine (show po_X10_match_e T m w T (some (vI x11)) from ?_)
        refine ⟨rfl, _, rfl, ?_⟩
        first
        | assumption
        | refine Or.inl ?_
          refine And.intro ?_ ?_
          · first | omega | rfl
          · first | omega | rfl
        | refine Or.inr ?_
          refine And.intro ?_ ?_
          · refine And.intro ?_ ?_
            · first | omega | rfl
            · first | omega | rfl
          · first
            | assumption
            | refine Or.inl ?_
              refine And.intro ?_ ?_
              · first | omega | rfl
              · first | omega | rfl
            | refine Or.inr ?_
              first
              | assumption
              | refine Or.inl ?_
                refine And.intro ?_ ?_
                · first | omega | rfl
                · first | omega | rfl
              | refine Or.inr ?_
                first
                | assumption
                | refine Or.inl ?_
                  refine And.intro ?_ ?_
                  · first | omega | rfl
                  · first | omega | rfl
                | refine Or.inr ?_
                  first
                  | assumption
                  | refine Or.inl ?_
                    refine And.intro ?_ ?_
                    · first | omega | rfl
                    · first | omega | rfl
                  | refine Or.inr ?_
                    first
                    | assumption
                    | refine Or.inl ?_
                      refine And.intro ?_ ?_
                      · first | omega | rfl
                      · first | omega | rfl
                    | refine Or.inr ?_
                      first
                      | assumption
                      | refine Or.inl ?_
                        refine And.intro ?_ ?_
                        · first | omega | rfl
                        · first
                          | assumption
                          | refine Or.inl ?_
                            refine And.intro ?_ ?_
                            · first | omega | rfl
                            · first | omega | rfl
                          | refine Or.inr ?_
                            refine And.intro ?_ ?_
                            · first | omega | rfl
                            · first
                              | assumption
                              | refine Or.inl ?_
                                refine And.intro ?_ ?_
                                · first | omega | rfl
                                · first | omega | rfl
                              | refine Or.inr ?_
                                refine And.intro ?_ ?_
                                · first | omega | rfl
                                · first
                                  | assumption
                                  | refine Or.inl ?_
                                    refine And.intro ?_ ?_
                                    · first | omega | rfl
                                    · first | omega | rfl
                                  | refine Or.inr ?_
                                    refine And.intro ?_ ?_
                                    · first | omega | rfl
                                    · first | omega | rfl
                                  | omega
                              | omega
                          | omega
                      | refine Or.inr ?_
                        first
                        | assumption
                        | refine Or.inl ?_
                          refine And.intro ?_ ?_
                          · first | omega | rfl
                          · first
                            | assumption
                            | refine Or.inl ?_
                              refine And.intro ?_ ?_
                              · first | omega | rfl
                              · first
                                | assumption
                                | refine Or.inl ?_
                                  refine And.intro ?_ ?_
                                  · first | omega | rfl
                                  · first | omega | rfl
                                | refine Or.inr ?_
                                  refine And.intro ?_ ?_
                                  · first | omega | rfl
                                  · first | omega | rfl
                                | omega
                            | refine Or.inr ?_
                              refine And.intro ?_ ?_
                              · first | omega | rfl
                              · first
                                | assumption
                                | refine Or.inl ?_
                                  refine And.intro ?_ ?_
                                  · first | omega | rfl
                                  · first | omega | rfl
                                | refine Or.inr ?_
                                  refine And.intro ?_ ?_
                                  · first | omega | rfl
                                  · first | omega | rfl
                                | omega
                            | omega
                        | refine Or.inr ?_
                          first
                          | assumption
                          | refine Or.inl ?_
                            refine And.intro ?_ ?_
                            · first | omega | rfl
                            · first
                              | assumption
                              | refine Or.inl ?_
                                refine And.intro ?_ ?_
                                · first | omega | rfl
                                · first
                                  | assumption
                                  | refine Or.inl ?_
                                    refine And.intro ?_ ?_
                                    · first | omega | rfl
                                    · first | omega | rfl
                                  | refine Or.inr ?_
                                    refine And.intro ?_ ?_
                                    · first | omega | rfl
                                    · first | omega | rfl
                                  | omega
                              | refine Or.inr ?_
                                refine And.intro ?_ ?_
                                · first | omega | rfl
                                · first
                                  | assumption
                                  | refine Or.inl ?_
                                    refine And.intro ?_ ?_
                                    · first | omega | rfl
                                    · first | omega | rfl
                                  | refine Or.inr ?_
                                    refine And.intro ?_ ?_
                                    · first | omega | rfl
                                    · first | omega | rfl
                                  | omega
                              | omega
                          | refine Or.inr ?_
                            refine And.intro ?_ ?_
                            · first | omega | rfl
                            · first | omega | rfl
      by_cases z4_6 : w = 6
      · refine j_tsI (pc := 22) 6 (off := 79) (tgt := 101) (by decide) ds_X10_match_22 (by omega) (by decide) rfl (by decide) (by decide) ?_
        refine j_blx (F := fX10) tb_X10 (nn_ _) bk_X10_match_e_101 bs_X10_match_e_101 hz (fun K hK => ?_)
        refine hK 103 _ [vI 0, vR 102 m] T ?_
        refine j_callV (y := yX2_scoreOf) (Yc := zX2_scoreOf) (rest := []) [vI 0] (ct_X2_scoreOf_e (T := T) (by omega)) cl_X10_226 (qd_c (by decide +kernel)) (nn_ _) rfl (rf_of rfl) (Nat.le_of_ble_eq_true rfl) (Nat.le_of_ble_eq_true rfl) (Nat.le_of_ble_eq_true rfl) rfl ?_
        rintro _ _ ⟨rfl, x12, rfl, hx12⟩
        show J_ zX10_match T (po_X10_match_e T m w) 0 0 106 _ [vI x12] T
        refine j_blx (F := fX10) tb_X10 (nn_ _) bk_X10_match_e_106 bs_X10_match_e_106 hz (fun K hK => ?_)
        refine (show po_X10_match_e T m w T (some (vI x12)) from ?_)
        refine ⟨rfl, _, rfl, ?_⟩
        first
        | assumption
        | refine Or.inl ?_
          refine And.intro ?_ ?_
          · first | omega | rfl
          · first | omega | rfl
        | refine Or.inr ?_
          refine And.intro ?_ ?_
          · refine And.intro ?_ ?_
            · first | omega | rfl
            · first | omega | rfl
          · first
            | assumption
            | refine Or.inl ?_
              refine And.intro ?_ ?_
              · first | omega | rfl
              · first | omega | rfl
            | refine Or.inr ?_
              first
              | assumption
              | refine Or.inl ?_
                refine And.intro ?_ ?_
                · first | omega | rfl
                · first | omega | rfl
              | refine Or.inr ?_
                first
                | assumption
                | refine Or.inl ?_
                  refine And.intro ?_ ?_
                  · first | omega | rfl
                  · first | omega | rfl
                | refine Or.inr ?_
                  first
                  | assumption
                  | refine Or.inl ?_
                    refine And.intro ?_ ?_
                    · first | omega | rfl
                    · first | omega | rfl
                  | refine Or.inr ?_
                    first
                    | assumption
                    | refine Or.inl ?_
                      refine And.intro ?_ ?_
                      · first | omega | rfl
                      · first | omega | rfl
                    | refine Or.inr ?_
                      first
                      | assumption
                      | refine Or.inl ?_
                        refine And.intro ?_ ?_
                        · first | omega | rfl
                        · first
                          | assumption
                          | refine Or.inl ?_
                            refine And.intro ?_ ?_
                            · first | omega | rfl
                            · first | omega | rfl
                          | refine Or.inr ?_
                            refine And.intro ?_ ?_
                            · first | omega | rfl
                            · first
                              | assumption
                              | refine Or.inl ?_
                                refine And.intro ?_ ?_
                                · first | omega | rfl
                                · first | omega | rfl
                              | refine Or.inr ?_
                                refine And.intro ?_ ?_
                                · first | omega | rfl
                                · first
                                  | assumption
                                  | refine Or.inl ?_
                                    refine And.intro ?_ ?_
                                    · first | omega | rfl
                                    · first | omega | rfl
                                  | refine Or.inr ?_
                                    refine And.intro ?_ ?_
                                    · first | omega | rfl
                                    · first | omega | rfl
                                  | omega
                              | omega
                          | omega
                      | refine Or.inr ?_
                        first
                        | assumption
                        | refine Or.inl ?_
                          refine And.intro ?_ ?_
                          · first | omega | rfl
                          · first
                            | assumption
                            | refine Or.inl ?_
                              refine And.intro ?_ ?_
                              · first | omega | rfl
                              · first
                                | assumption
                                | refine Or.inl ?_
                                  refine And.intro ?_ ?_
                                  · first | omega | rfl
                                  · first | omega | rfl
                                | refine Or.inr ?_
                                  refine And.intro ?_ ?_
                                  · first | omega | rfl
                                  · first | omega | rfl
                                | omega
                            | refine Or.inr ?_
                              refine And.intro ?_ ?_
                              · first | omega | rfl
                              · first
                                | assumption
                                | refine Or.inl ?_
                                  refine And.intro ?_ ?_
                                  · first | omega | rfl
                                  · first | omega | rfl
                                | refine Or.inr ?_
                                  refine And.intro ?_ ?_
                                  · first | omega | rfl
                                  · first | omega | rfl
                                | omega
                            | omega
                        | refine Or.inr ?_
                          first
                          | assumption
                          | refine Or.inl ?_
                            refine And.intro ?_ ?_
                            · first | omega | rfl
                            · first
                              | assumption
                              | refine Or.inl ?_
                                refine And.intro ?_ ?_
                                · first | omega | rfl
                                · first
                                  | assumption
                                  | refine Or.inl ?_
                                    refine And.intro ?_ ?_
                                    · first | omega | rfl
                                    · first | omega | rfl
                                  | refine Or.inr ?_
                                    refine And.intro ?_ ?_
                                    · first | omega | rfl
                                    · first | omega | rfl
                                  | omega
                              | refine Or.inr ?_
                                refine And.intro ?_ ?_
                                · first | omega | rfl
                                · first
                                  | assumption
                                  | refine Or.inl ?_
                                    refine And.intro ?_ ?_
                                    · first | omega | rfl
                                    · first | omega | rfl
                                  | refine Or.inr ?_
                                    refine And.intro ?_ ?_
                                    · first | omega | rfl
                                    · first | omega | rfl
                                  | omega
                              | omega
                          | refine Or.inr ?_
                            refine And.intro ?_ ?_
                            · first | omega | rfl
                            · first | omega | rfl
      by_cases z4_7 : w = 7
      · refine j_tsI (pc := 22) 7 (off := 85) (tgt := 107) (by decide) ds_X10_match_22 (by omega) (by decide) rfl (by decide) (by decide) ?_
        refine j_blx (F := fX10) tb_X10 (nn_ _) bk_X10_match_e_107 bs_X10_match_e_107 hz (fun K hK => ?_)
        refine hK 109 _ [vI 1, vR 102 m] T ?_
        refine j_callV (y := yX2_scoreOf) (Yc := zX2_scoreOf) (rest := []) [vI 1] (ct_X2_scoreOf_e (T := T) (by omega)) cl_X10_226 (qd_c (by decide +kernel)) (nn_ _) rfl (rf_of rfl) (Nat.le_of_ble_eq_true rfl) (Nat.le_of_ble_eq_true rfl) (Nat.le_of_ble_eq_true rfl) rfl ?_
        rintro _ _ ⟨rfl, x13, rfl, hx13⟩
        show J_ zX10_match T (po_X10_match_e T m w) 0 0 112 _ [vI x13] T
        refine j_blx (F := fX10) tb_X10 (nn_ _) bk_X10_match_e_112 bs_X10_match_e_112 hz (fun K hK => ?_)
        refine (show po_X10_match_e T m w T (some (vI x13)) from ?_)
        refine ⟨rfl, _, rfl, ?_⟩
        first
        | assumption
        | refine Or.inl ?_
          refine And.intro ?_ ?_
          · first | omega | rfl
          · first | omega | rfl
        | refine Or.inr ?_
          refine And.intro ?_ ?_
          · refine And.intro ?_ ?_
            · first | omega | rfl
            · first | omega | rfl
          · first
            | assumption
            | refine Or.inl ?_
              refine And.intro ?_ ?_
              · first | omega | rfl
              · first | omega | rfl
            | refine Or.inr ?_
              first
              | assumption
              | refine Or.inl ?_
                refine And.intro ?_ ?_
                · first | omega | rfl
                · first | omega | rfl
              | refine Or.inr ?_
                first
                | assumption
                | refine Or.inl ?_
                  refine And.intro ?_ ?_
                  · first | omega | rfl
                  · first | omega | rfl
                | refine Or.inr ?_
                  first
                  | assumption
                  | refine Or.inl ?_
                    refine And.intro ?_ ?_
                    · first | omega | rfl
                    · first | omega | rfl
                  | refine Or.inr ?_
                    first
                    | assumption
                    | refine Or.inl ?_
                      refine And.intro ?_ ?_
                      · first | omega | rfl
                      · first | omega | rfl
                    | refine Or.inr ?_
                      first
                      | assumption
                      | refine Or.inl ?_
                        refine And.intro ?_ ?_
                        · first | omega | rfl
                        · first
                          | assumption
                          | refine Or.inl ?_
                            refine And.intro ?_ ?_
                            · first | omega | rfl
                            · first | omega | rfl
                          | refine Or.inr ?_
                            refine And.intro ?_ ?_
                            · first | omega | rfl
                            · first
                              | assumption
                              | refine Or.inl ?_
                                refine And.intro ?_ ?_
                                · first | omega | rfl
                                · first | omega | rfl
                              | refine Or.inr ?_
                                refine And.intro ?_ ?_
                                · first | omega | rfl
                                · first
                                  | assumption
                                  | refine Or.inl ?_
                                    refine And.intro ?_ ?_
                                    · first | omega | rfl
                                    · first | omega | rfl
                                  | refine Or.inr ?_
                                    refine And.intro ?_ ?_
                                    · first | omega | rfl
                                    · first | omega | rfl
                                  | omega
                              | omega
                          | omega
                      | refine Or.inr ?_
                        first
                        | assumption
                        | refine Or.inl ?_
                          refine And.intro ?_ ?_
                          · first | omega | rfl
                          · first
                            | assumption
                            | refine Or.inl ?_
                              refine And.intro ?_ ?_
                              · first | omega | rfl
                              · first
                                | assumption
                                | refine Or.inl ?_
                                  refine And.intro ?_ ?_
                                  · first | omega | rfl
                                  · first | omega | rfl
                                | refine Or.inr ?_
                                  refine And.intro ?_ ?_
                                  · first | omega | rfl
                                  · first | omega | rfl
                                | omega
                            | refine Or.inr ?_
                              refine And.intro ?_ ?_
                              · first | omega | rfl
                              · first
                                | assumption
                                | refine Or.inl ?_
                                  refine And.intro ?_ ?_
                                  · first | omega | rfl
                                  · first | omega | rfl
                                | refine Or.inr ?_
                                  refine And.intro ?_ ?_
                                  · first | omega | rfl
                                  · first | omega | rfl
                                | omega
                            | omega
                        | refine Or.inr ?_
                          first
                          | assumption
                          | refine Or.inl ?_
                            refine And.intro ?_ ?_
                            · first | omega | rfl
                            · first
                              | assumption
                              | refine Or.inl ?_
                                refine And.intro ?_ ?_
                                · first | omega | rfl
                                · first
                                  | assumption
                                  | refine Or.inl ?_
                                    refine And.intro ?_ ?_
                                    · first | omega | rfl
                                    · first | omega | rfl
                                  | refine Or.inr ?_
                                    refine And.intro ?_ ?_
                                    · first | omega | rfl
                                    · first | omega | rfl
                                  | omega
                              | refine Or.inr ?_
                                refine And.intro ?_ ?_
                                · first | omega | rfl
                                · first
                                  | assumption
                                  | refine Or.inl ?_
                                    refine And.intro ?_ ?_
                                    · first | omega | rfl
                                    · first | omega | rfl
                                  | refine Or.inr ?_
                                    refine And.intro ?_ ?_
                                    · first | omega | rfl
                                    · first | omega | rfl
                                  | omega
                              | omega
                          | refine Or.inr ?_
                            refine And.intro ?_ ?_
                            · first | omega | rfl
                            · first | omega | rfl
      refine j_tsO (pc := 22) (tgt := 113) (by decide) ds_X10_match_22 (by omega) (by decide) (by decide) ?_
      refine j_blx (F := fX10) tb_X10 (nn_ _) bk_X10_match_e_113 bs_X10_match_e_113 hz (fun K hK => ?_)
      refine (show po_X10_match_e T m w T (some (vI (-3))) from ?_)
      refine ⟨rfl, _, rfl, ?_⟩
      first
      | assumption
      | refine Or.inl ?_
        refine And.intro ?_ ?_
        · first | omega | rfl
        · first | omega | rfl
      | refine Or.inr ?_
        refine And.intro ?_ ?_
        · refine And.intro ?_ ?_
          · first | omega | rfl
          · first | omega | rfl
        · first
          | assumption
          | refine Or.inl ?_
            refine And.intro ?_ ?_
            · first | omega | rfl
            · first | omega | rfl
          | refine Or.inr ?_
            first
            | assumption
            | refine Or.inl ?_
              refine And.intro ?_ ?_
              · first | omega | rfl
              · first | omega | rfl
            | refine Or.inr ?_
              first
              | assumption
              | refine Or.inl ?_
                refine And.intro ?_ ?_
                · first | omega | rfl
                · first | omega | rfl
              | refine Or.inr ?_
                first
                | assumption
                | refine Or.inl ?_
                  refine And.intro ?_ ?_
                  · first | omega | rfl
                  · first | omega | rfl
                | refine Or.inr ?_
                  first
                  | assumption
                  | refine Or.inl ?_
                    refine And.intro ?_ ?_
                    · first | omega | rfl
                    · first | omega | rfl
                  | refine Or.inr ?_
                    first
                    | assumption
                    | refine Or.inl ?_
                      refine And.intro ?_ ?_
                      · first | omega | rfl
                      · first
                        | assumption
                        | refine Or.inl ?_
                          refine And.intro ?_ ?_
                          · first | omega | rfl
                          · first | omega | rfl
                        | refine Or.inr ?_
                          refine And.intro ?_ ?_
                          · first | omega | rfl
                          · first
                            | assumption
                            | refine Or.inl ?_
                              refine And.intro ?_ ?_
                              · first | omega | rfl
                              · first | omega | rfl
                            | refine Or.inr ?_
                              refine And.intro ?_ ?_
                              · first | omega | rfl
                              · first
                                | assumption
                                | refine Or.inl ?_
                                  refine And.intro ?_ ?_
                                  · first | omega | rfl
                                  · first | omega | rfl
                                | refine Or.inr ?_
                                  refine And.intro ?_ ?_
                                  · first | omega | rfl
                                  · first | omega | rfl
                                | omega
                            | omega
                        | omega
                    | refine Or.inr ?_
                      first
                      | assumption
                      | refine Or.inl ?_
                        refine And.intro ?_ ?_
                        · first | omega | rfl
                        · first
                          | assumption
                          | refine Or.inl ?_
                            refine And.intro ?_ ?_
                            · first | omega | rfl
                            · first
                              | assumption
                              | refine Or.inl ?_
                                refine And.intro ?_ ?_
                                · first | omega | rfl
                                · first | omega | rfl
                              | refine Or.inr ?_
                                refine And.intro ?_ ?_
                                · first | omega | rfl
                                · first | omega | rfl
                              | omega
                          | refine Or.inr ?_
                            refine And.intro ?_ ?_
                            · first | omega | rfl
                            · first
                              | assumption
                              | refine Or.inl ?_
                                refine And.intro ?_ ?_
                                · first | omega | rfl
                                · first | omega | rfl
                              | refine Or.inr ?_
                                refine And.intro ?_ ?_
                                · first | omega | rfl
                                · first | omega | rfl
                              | omega
                          | omega
                      | refine Or.inr ?_
                        first
                        | assumption
                        | refine Or.inl ?_
                          refine And.intro ?_ ?_
                          · first | omega | rfl
                          · first
                            | assumption
                            | refine Or.inl ?_
                              refine And.intro ?_ ?_
                              · first | omega | rfl
                              · first
                                | assumption
                                | refine Or.inl ?_
                                  refine And.intro ?_ ?_
                                  · first | omega | rfl
                                  · first | omega | rfl
                                | refine Or.inr ?_
                                  refine And.intro ?_ ?_
                                  · first | omega | rfl
                                  · first | omega | rfl
                                | omega
                            | refine Or.inr ?_
                              refine And.intro ?_ ?_
                              · first | omega | rfl
                              · first
                                | assumption
                                | refine Or.inl ?_
                                  refine And.intro ?_ ?_
                                  · first | omega | rfl
                                  · first | omega | rfl
                                | refine Or.inr ?_
                                  refine And.intro ?_ ?_
                                  · first | omega | rfl
                                  · first | omega | rfl
                                | omega
                            | omega
                        | refine Or.inr ?_
                          refine And.intro ?_ ?_
                          · first | omega | rfl
                          · first | omega | rfl
  · replace hx1 := hx1.resolve_left (fun z => absurd (c2.symm.trans z.1) (by decide))
    clear c2
    refine (show po_X10_match_e T m w T (some (vI (-2))) from ?_)
    refine ⟨rfl, _, rfl, ?_⟩
    first
    | assumption
    | refine Or.inl ?_
      refine And.intro ?_ ?_
      · first | omega | rfl
      · first | omega | rfl
    | refine Or.inr ?_
      refine And.intro ?_ ?_
      · refine And.intro ?_ ?_
        · first | omega | rfl
        · first | omega | rfl
      · first
        | assumption
        | refine Or.inl ?_
          refine And.intro ?_ ?_
          · first | omega | rfl
          · first | omega | rfl
        | refine Or.inr ?_
          first
          | assumption
          | refine Or.inl ?_
            refine And.intro ?_ ?_
            · first | omega | rfl
            · first | omega | rfl
          | refine Or.inr ?_
            first
            | assumption
            | refine Or.inl ?_
              refine And.intro ?_ ?_
              · first | omega | rfl
              · first | omega | rfl
            | refine Or.inr ?_
              first
              | assumption
              | refine Or.inl ?_
                refine And.intro ?_ ?_
                · first | omega | rfl
                · first | omega | rfl
              | refine Or.inr ?_
                first
                | assumption
                | refine Or.inl ?_
                  refine And.intro ?_ ?_
                  · first | omega | rfl
                  · first | omega | rfl
                | refine Or.inr ?_
                  first
                  | assumption
                  | refine Or.inl ?_
                    refine And.intro ?_ ?_
                    · first | omega | rfl
                    · first
                      | assumption
                      | refine Or.inl ?_
                        refine And.intro ?_ ?_
                        · first | omega | rfl
                        · first | omega | rfl
                      | refine Or.inr ?_
                        refine And.intro ?_ ?_
                        · first | omega | rfl
                        · first
                          | assumption
                          | refine Or.inl ?_
                            refine And.intro ?_ ?_
                            · first | omega | rfl
                            · first | omega | rfl
                          | refine Or.inr ?_
                            refine And.intro ?_ ?_
                            · first | omega | rfl
                            · first
                              | assumption
                              | refine Or.inl ?_
                                refine And.intro ?_ ?_
                                · first | omega | rfl
                                · first | omega | rfl
                              | refine Or.inr ?_
                                refine And.intro ?_ ?_
                                · first | omega | rfl
                                · first | omega | rfl
                              | omega
                          | omega
                      | omega
                  | refine Or.inr ?_
                    first
                    | assumption
                    | refine Or.inl ?_
                      refine And.intro ?_ ?_
                      · first | omega | rfl
                      · first
                        | assumption
                        | refine Or.inl ?_
                          refine And.intro ?_ ?_
                          · first | omega | rfl
                          · first
                            | assumption
                            | refine Or.inl ?_
                              refine And.intro ?_ ?_
                              · first | omega | rfl
                              · first | omega | rfl
                            | refine Or.inr ?_
                              refine And.intro ?_ ?_
                              · first | omega | rfl
                              · first | omega | rfl
                            | omega
                        | refine Or.inr ?_
                          refine And.intro ?_ ?_
                          · first | omega | rfl
                          · first
                            | assumption
                            | refine Or.inl ?_
                              refine And.intro ?_ ?_
                              · first | omega | rfl
                              · first | omega | rfl
                            | refine Or.inr ?_
                              refine And.intro ?_ ?_
                              · first | omega | rfl
                              · first | omega | rfl
                            | omega
                        | omega
                    | refine Or.inr ?_
                      first
                      | assumption
                      | refine Or.inl ?_
                        refine And.intro ?_ ?_
                        · first | omega | rfl
                        · first
                          | assumption
                          | refine Or.inl ?_
                            refine And.intro ?_ ?_
                            · first | omega | rfl
                            · first
                              | assumption
                              | refine Or.inl ?_
                                refine And.intro ?_ ?_
                                · first | omega | rfl
                                · first | omega | rfl
                              | refine Or.inr ?_
                                refine And.intro ?_ ?_
                                · first | omega | rfl
                                · first | omega | rfl
                              | omega
                          | refine Or.inr ?_
                            refine And.intro ?_ ?_
                            · first | omega | rfl
                            · first
                              | assumption
                              | refine Or.inl ?_
                                refine And.intro ?_ ?_
                                · first | omega | rfl
                                · first | omega | rfl
                              | refine Or.inr ?_
                                refine And.intro ?_ ?_
                                · first | omega | rfl
                                · first | omega | rfl
                              | omega
                          | omega
                      | refine Or.inr ?_
                        refine And.intro ?_ ?_
                        · first | omega | rfl
                        · first | omega | rfl
theorem bk_X10_rows_e_0 : ck_ fX10 (some .int) cX10_rows 0 [.aload 0, .iload 1] 2 = true := qck_r (nn_ _) (by decide +kernel)
theorem bs_X10_rows_e_0 {P : Zt → Option Zv → Prop} (K : Int → Zl → List Zv → Zt → Prop) : sx_ K P [.aload 0, .iload 1] 2 = x_aload 0 (x_iload 1 (K 2)) := ((xe_aload 0).trans (congrArg (x_aload 0) ((xe_iload 1).trans (congrArg (x_iload 1) xe_nil))))
theorem bk_X10_rows_e_5 : ck_ fX10 (some .int) cX10_rows 5 [.ifCond .ne 11, .iconst (-2), .ireturn] 11 = true := qck_r (nn_ _) (by decide +kernel)
theorem bs_X10_rows_e_5 {P : Zt → Option Zv → Prop} (K : Int → Zl → List Zv → Zt → Prop) : sx_ K P [.ifCond .ne 11, .iconst (-2), .ireturn] 11 = x_ifCond .ne 11 K (x_iconst (-2) (x_ireturn P)) := ((xe_ifCond .ne 11).trans (congrArg (x_ifCond .ne 11 K) ((xe_iconst (-2)).trans (congrArg (x_iconst (-2)) (xe_ireturn)))))
theorem bk_X10_rows_e_11 : ck_ fX10 (some .int) cX10_rows 11 [.iload 2, .ifCond .lt 20, .iload 2, .iconst 1, .if_icmp .le 23, .iconst (-3), .ireturn] 23 = true := qck_r (nn_ _) (by decide +kernel)
theorem bs_X10_rows_e_11 {P : Zt → Option Zv → Prop} (K : Int → Zl → List Zv → Zt → Prop) : sx_ K P [.iload 2, .ifCond .lt 20, .iload 2, .iconst 1, .if_icmp .le 23, .iconst (-3), .ireturn] 23 = x_iload 2 (x_ifCond .lt 20 K (x_iload 2 (x_iconst 1 (x_if_icmp .le 23 K (x_iconst (-3) (x_ireturn P)))))) := ((xe_iload 2).trans (congrArg (x_iload 2) ((xe_ifCond .lt 20).trans (congrArg (x_ifCond .lt 20 K) ((xe_iload 2).trans (congrArg (x_iload 2) ((xe_iconst 1).trans (congrArg (x_iconst 1) ((xe_if_icmp .le 23).trans (congrArg (x_if_icmp .le 23 K) ((xe_iconst (-3)).trans (congrArg (x_iconst (-3)) (xe_ireturn)))))))))))))
theorem bk_X10_rows_e_20 : ck_ fX10 (some .int) cX10_rows 20 [.iconst (-3), .ireturn] 23 = true := qck_r (nn_ _) (by decide +kernel)
theorem bs_X10_rows_e_20 {P : Zt → Option Zv → Prop} (K : Int → Zl → List Zv → Zt → Prop) : sx_ K P [.iconst (-3), .ireturn] 23 = x_iconst (-3) (x_ireturn P) := ((xe_iconst (-3)).trans (congrArg (x_iconst (-3)) (xe_ireturn)))
theorem bk_X10_rows_e_23 : ck_ fX10 (some .int) cX10_rows 23 [.aload 0, .tableswitch 0 10 2 #[], .tableswitch 0 6 3 #[], .iload 1, .aaload, .tableswitch 0 2 10 #[], .astore 3, .aload 3, .ifnonnull 42, .iconst 0, .ireturn] 42 = true := qck_r (nn_ _) (by decide +kernel)
theorem bs_X10_rows_e_23 {P : Zt → Option Zv → Prop} (K : Int → Zl → List Zv → Zt → Prop) : sx_ K P [.aload 0, .tableswitch 0 10 2 #[], .tableswitch 0 6 3 #[], .iload 1, .aaload, .tableswitch 0 2 10 #[], .astore 3, .aload 3, .ifnonnull 42, .iconst 0, .ireturn] 42 = x_aload 0 (x_g1 110 106 (x_g1 106 523 (x_iload 1 (x_aaload (x_g4 102 103 10 (x_astore 3 (x_aload 3 (x_ifnonnull 42 K (x_iconst 0 (x_ireturn P)))))))))) := ((xe_aload 0).trans (congrArg (x_aload 0) ((xe_g1 (kk := 110) rfl tl_10_2).trans (congrArg (x_g1 110 106) ((xe_g1 (kk := 106) rfl tl_6_3).trans (congrArg (x_g1 106 523) ((xe_iload 1).trans (congrArg (x_iload 1) ((xe_aaload).trans (congrArg (x_aaload) ((xe_g4 (kk := 102) rfl tl_2_10).trans (congrArg (x_g4 102 103 10) ((xe_astore 3).trans (congrArg (x_astore 3) ((xe_aload 3).trans (congrArg (x_aload 3) ((xe_ifnonnull 42).trans (congrArg (x_ifnonnull 42 K) ((xe_iconst 0).trans (congrArg (x_iconst 0) (xe_ireturn)))))))))))))))))))))
theorem bk_X10_rows_e_42 : ck_ fX10 (some .int) cX10_rows 42 [.iload 2, .ifCond .ne 53, .aload 3, .tableswitch 0 3 15 #[], .goto 57] 53 = true := qck_r (nn_ _) (by decide +kernel)
theorem bs_X10_rows_e_42 {P : Zt → Option Zv → Prop} (K : Int → Zl → List Zv → Zt → Prop) : sx_ K P [.iload 2, .ifCond .ne 53, .aload 3, .tableswitch 0 3 15 #[], .goto 57] 53 = x_iload 2 (x_ifCond .ne 53 K (x_aload 3 (x_g0 103 15 0 3000 (x_goto 57 K)))) := ((xe_iload 2).trans (congrArg (x_iload 2) ((xe_ifCond .ne 53).trans (congrArg (x_ifCond .ne 53 K) ((xe_aload 3).trans (congrArg (x_aload 3) ((xe_g0 (kk := 103) rfl tl_3_15).trans (congrArg (x_g0 103 15 0 3000) (xe_goto 57)))))))))
theorem bk_X10_rows_e_53 : ck_ fX10 (some .int) cX10_rows 53 [.aload 3, .tableswitch 0 3 17 #[], .ireturn] 58 = true := qck_r (nn_ _) (by decide +kernel)
theorem bs_X10_rows_e_53 {P : Zt → Option Zv → Prop} (K : Int → Zl → List Zv → Zt → Prop) : sx_ K P [.aload 3, .tableswitch 0 3 17 #[], .ireturn] 58 = x_aload 3 (x_g0 103 17 0 3000 (x_ireturn P)) := ((xe_aload 3).trans (congrArg (x_aload 3) ((xe_g0 (kk := 103) rfl tl_3_17).trans (congrArg (x_g0 103 17 0 3000) (xe_ireturn)))))
theorem bk_X10_rows_e_57 : ck_ fX10 (some .int) cX10_rows 57 [.ireturn] 58 = true := qck_r (nn_ _) (by decide +kernel)
theorem bs_X10_rows_e_57 {P : Zt → Option Zv → Prop} (K : Int → Zl → List Zv → Zt → Prop) : sx_ K P [.ireturn] 58 = x_ireturn P := (xe_ireturn)
abbrev po_X10_rows_e (T : Zt) (m w : Int) : Zt → Option Zv → Prop := fun T' r => T = T' ∧ ∃ x : Int, r = some (vI x) ∧ ((x = -2 ∧ ¬ (0 ≤ m ∧ m < T 106 0 4)) ∨ ((0 ≤ m ∧ m < T 106 0 4) ∧ ((¬ (0 ≤ w ∧ w ≤ 1) ∧ x = -3) ∨ ((0 ≤ w ∧ w ≤ 1) ∧ ((T 102 m 10 = 0 ∧ x = 0) ∨ (T 102 m 10 ≠ 0 ∧ ((w = 0 ∧ x = T 103 m 15) ∨ (w = 1 ∧ x = T 103 m 17))))))))
set_option maxHeartbeats 4000000 in
theorem ct_X10_rows_e {T : Zt} {m w : Int} (hka : KA_ T) : Ct_ yX10_rows zX10_rows T [vR 110 0, vI m, vI w] (po_X10_rows_e T m w) := by
  refine ct_of pn_10 rfl rfl (Nat.le_of_ble_eq_true rfl) (fun hT hav => ?_)
  have hr_m : -2147483648 ≤ m ∧ m ≤ 2147483647 := hav (vI m) (List.mem_cons_of_mem _ List.mem_cons_self)
  have hr_w : -2147483648 ≤ w ∧ w ≤ 2147483647 := hav (vI w) (List.mem_cons_of_mem _ (List.mem_cons_of_mem _ List.mem_cons_self))
  have hz : zX10_rows.2.2.2.1 = some .boolean → ∀ (T' : Zt) (x : Int), po_X10_rows_e T m w T' (some (vI x)) → 0 ≤ x ∧ x ≤ 1 := fun h => by cases h
  have hb_matchCount : 0 ≤ T 106 0 4 ∧ T 106 0 4 ≤ 400 := bd_f hT 106 4 tl_6_4 0
  show J_ zX10_rows T (po_X10_rows_e T m w) 0 0 0 [some (vR 110 0), some (vI m), some (vI w), none] [] T
  refine j_blx (F := fX10) tb_X10 (nn_ _) bk_X10_rows_e_0 bs_X10_rows_e_0 hz (fun K hK => ?_)
  refine hK 2 _ [vI m, vR 110 0] T ?_
  refine j_callV (y := yX10_isMatch) (Yc := zX10_isMatch) (rest := []) [vI m] (ct_X10_isMatch (T := T)) cl_X10_195 (qd_c (by decide +kernel)) (nn_ _) rfl (rf_of rfl) (Nat.le_of_ble_eq_true rfl) (Nat.le_of_ble_eq_true rfl) (Nat.le_of_ble_eq_true rfl) rfl ?_
  rintro _ _ ⟨rfl, x1, rfl, hx1⟩
  show J_ zX10_rows T (po_X10_rows_e T m w) 0 0 5 _ [vI x1] T
  refine j_blx (F := fX10) tb_X10 (nn_ _) bk_X10_rows_e_5 bs_X10_rows_e_5 hz (fun K hK => ?_)
  refine And.intro (fun c2 => ?_) (fun c2 => ?_)
  · replace hx1 := hx1.resolve_right (fun z => c2 z.1)
    clear c2
    refine hK 11 _ [] T ?_
    refine j_blx (F := fX10) tb_X10 (nn_ _) bk_X10_rows_e_11 bs_X10_rows_e_11 hz (fun K hK => ?_)
    refine And.intro (fun c3 => ?_) (fun c3 => ?_)
    · refine hK 20 _ [] T ?_
      refine j_blx (F := fX10) tb_X10 (nn_ _) bk_X10_rows_e_20 bs_X10_rows_e_20 hz (fun K hK => ?_)
      refine (show po_X10_rows_e T m w T (some (vI (-3))) from ?_)
      refine ⟨rfl, _, rfl, ?_⟩
      first
      | assumption
      | refine Or.inl ?_
        refine And.intro ?_ ?_
        · first | omega | rfl
        · first | omega | rfl
      | refine Or.inr ?_
        refine And.intro ?_ ?_
        · refine And.intro ?_ ?_
          · first | omega | rfl
          · first | omega | rfl
        · first
          | assumption
          | refine Or.inl ?_
            refine And.intro ?_ ?_
            · first | omega | rfl
            · first | omega | rfl
          | refine Or.inr ?_
            refine And.intro ?_ ?_
            · refine And.intro ?_ ?_
              · first | omega | rfl
              · first | omega | rfl
            · first
              | assumption
              | refine Or.inl ?_
                refine And.intro ?_ ?_
                · first | omega | rfl
                · first | omega | rfl
              | refine Or.inr ?_
                refine And.intro ?_ ?_
                · first | omega | rfl
                · first
                  | assumption
                  | refine Or.inl ?_
                    refine And.intro ?_ ?_
                    · first | omega | rfl
                    · first | omega | rfl
                  | refine Or.inr ?_
                    refine And.intro ?_ ?_
                    · first | omega | rfl
                    · first | omega | rfl
    · refine And.intro (fun c4 => ?_) (fun c4 => ?_)
      · refine hK 23 _ [] T ?_
        refine j_blx (F := fX10) tb_X10 (nn_ _) bk_X10_rows_e_23 bs_X10_rows_e_23 hz (fun K hK => ?_)
        refine ix_i (by omega) ?_
        refine And.intro (fun c5 => ?_) (fun c5 => ?_)
        · exact absurd (show T 523 0 (m) = 0 by omega) (hka.2 _ (by omega) (by omega))
        · refine And.intro (fun c6 => ?_) (fun c6 => ?_)
          · refine (show po_X10_rows_e T m w T (some (vI 0)) from ?_)
            refine ⟨rfl, _, rfl, ?_⟩
            first
            | assumption
            | refine Or.inl ?_
              refine And.intro ?_ ?_
              · first | omega | rfl
              · first | omega | rfl
            | refine Or.inr ?_
              refine And.intro ?_ ?_
              · refine And.intro ?_ ?_
                · first | omega | rfl
                · first | omega | rfl
              · first
                | assumption
                | refine Or.inl ?_
                  refine And.intro ?_ ?_
                  · first | omega | rfl
                  · first | omega | rfl
                | refine Or.inr ?_
                  refine And.intro ?_ ?_
                  · refine And.intro ?_ ?_
                    · first | omega | rfl
                    · first | omega | rfl
                  · first
                    | assumption
                    | refine Or.inl ?_
                      refine And.intro ?_ ?_
                      · first | omega | rfl
                      · first | omega | rfl
                    | refine Or.inr ?_
                      refine And.intro ?_ ?_
                      · first | omega | rfl
                      · first
                        | assumption
                        | refine Or.inl ?_
                          refine And.intro ?_ ?_
                          · first | omega | rfl
                          · first | omega | rfl
                        | refine Or.inr ?_
                          refine And.intro ?_ ?_
                          · first | omega | rfl
                          · first | omega | rfl
          · refine hK 42 [some (vR 110 0), some (vI m), some (vI w), some (vR 103 m)] [] T ?_
            refine j_blx (F := fX10) tb_X10 (nn_ _) bk_X10_rows_e_42 bs_X10_rows_e_42 hz (fun K hK => ?_)
            refine And.intro (fun c7 => ?_) (fun c7 => ?_)
            · refine hK 53 _ [] T ?_
              refine j_blx (F := fX10) tb_X10 (nn_ _) bk_X10_rows_e_53 bs_X10_rows_e_53 hz (fun K hK => ?_)
              intro b8 b8b
              refine (show po_X10_rows_e T m w T (some (vI (T 103 m 17))) from ?_)
              refine ⟨rfl, _, rfl, ?_⟩
              first
              | assumption
              | refine Or.inl ?_
                refine And.intro ?_ ?_
                · first | omega | rfl
                · first | omega | rfl
              | refine Or.inr ?_
                refine And.intro ?_ ?_
                · refine And.intro ?_ ?_
                  · first | omega | rfl
                  · first | omega | rfl
                · first
                  | assumption
                  | refine Or.inl ?_
                    refine And.intro ?_ ?_
                    · first | omega | rfl
                    · first | omega | rfl
                  | refine Or.inr ?_
                    refine And.intro ?_ ?_
                    · refine And.intro ?_ ?_
                      · first | omega | rfl
                      · first | omega | rfl
                    · first
                      | assumption
                      | refine Or.inl ?_
                        refine And.intro ?_ ?_
                        · first | omega | rfl
                        · first | omega | rfl
                      | refine Or.inr ?_
                        refine And.intro ?_ ?_
                        · first | omega | rfl
                        · first
                          | assumption
                          | refine Or.inl ?_
                            refine And.intro ?_ ?_
                            · first | omega | rfl
                            · first | omega | rfl
                          | refine Or.inr ?_
                            refine And.intro ?_ ?_
                            · first | omega | rfl
                            · first | omega | rfl
            · intro b9 b9b
              refine hK 57 _ [vI (T 103 m 15)] T ?_
              refine j_blx (F := fX10) tb_X10 (nn_ _) bk_X10_rows_e_57 bs_X10_rows_e_57 hz (fun K hK => ?_)
              refine (show po_X10_rows_e T m w T (some (vI (T 103 m 15))) from ?_)
              refine ⟨rfl, _, rfl, ?_⟩
              first
              | assumption
              | refine Or.inl ?_
                refine And.intro ?_ ?_
                · first | omega | rfl
                · first | omega | rfl
              | refine Or.inr ?_
                refine And.intro ?_ ?_
                · refine And.intro ?_ ?_
                  · first | omega | rfl
                  · first | omega | rfl
                · first
                  | assumption
                  | refine Or.inl ?_
                    refine And.intro ?_ ?_
                    · first | omega | rfl
                    · first | omega | rfl
                  | refine Or.inr ?_
                    refine And.intro ?_ ?_
                    · refine And.intro ?_ ?_
                      · first | omega | rfl
                      · first | omega | rfl
                    · first
                      | assumption
                      | refine Or.inl ?_
                        refine And.intro ?_ ?_
                        · first | omega | rfl
                        · first | omega | rfl
                      | refine Or.inr ?_
                        refine And.intro ?_ ?_
                        · first | omega | rfl
                        · first
                          | assumption
                          | refine Or.inl ?_
                            refine And.intro ?_ ?_
                            · first | omega | rfl
                            · first | omega | rfl
                          | refine Or.inr ?_
                            refine And.intro ?_ ?_
                            · first | omega | rfl
                            · first | omega | rfl
      · refine (show po_X10_rows_e T m w T (some (vI (-3))) from ?_)
        refine ⟨rfl, _, rfl, ?_⟩
        first
        | assumption
        | refine Or.inl ?_
          refine And.intro ?_ ?_
          · first | omega | rfl
          · first | omega | rfl
        | refine Or.inr ?_
          refine And.intro ?_ ?_
          · refine And.intro ?_ ?_
            · first | omega | rfl
            · first | omega | rfl
          · first
            | assumption
            | refine Or.inl ?_
              refine And.intro ?_ ?_
              · first | omega | rfl
              · first | omega | rfl
            | refine Or.inr ?_
              refine And.intro ?_ ?_
              · refine And.intro ?_ ?_
                · first | omega | rfl
                · first | omega | rfl
              · first
                | assumption
                | refine Or.inl ?_
                  refine And.intro ?_ ?_
                  · first | omega | rfl
                  · first | omega | rfl
                | refine Or.inr ?_
                  refine And.intro ?_ ?_
                  · first | omega | rfl
                  · first
                    | assumption
                    | refine Or.inl ?_
                      refine And.intro ?_ ?_
                      · first | omega | rfl
                      · first | omega | rfl
                    | refine Or.inr ?_
                      refine And.intro ?_ ?_
                      · first | omega | rfl
                      · first | omega | rfl
  · replace hx1 := hx1.resolve_left (fun z => absurd (c2.symm.trans z.1) (by decide))
    clear c2
    refine (show po_X10_rows_e T m w T (some (vI (-2))) from ?_)
    refine ⟨rfl, _, rfl, ?_⟩
    first
    | assumption
    | refine Or.inl ?_
      refine And.intro ?_ ?_
      · first | omega | rfl
      · first | omega | rfl
    | refine Or.inr ?_
      refine And.intro ?_ ?_
      · refine And.intro ?_ ?_
        · first | omega | rfl
        · first | omega | rfl
      · first
        | assumption
        | refine Or.inl ?_
          refine And.intro ?_ ?_
          · first | omega | rfl
          · first | omega | rfl
        | refine Or.inr ?_
          refine And.intro ?_ ?_
          · refine And.intro ?_ ?_
            · first | omega | rfl
            · first | omega | rfl
          · first
            | assumption
            | refine Or.inl ?_
              refine And.intro ?_ ?_
              · first | omega | rfl
              · first | omega | rfl
            | refine Or.inr ?_
              refine And.intro ?_ ?_
              · first | omega | rfl
              · first
                | assumption
                | refine Or.inl ?_
                  refine And.intro ?_ ?_
                  · first | omega | rfl
                  · first | omega | rfl
                | refine Or.inr ?_
                  refine And.intro ?_ ?_
                  · first | omega | rfl
                  · first | omega | rfl
theorem bk_X10_state_e_0 : ck_ fX10 (some .int) cX10_state 0 [.aload 0, .iload 1] 2 = true := qck_r (nn_ _) (by decide +kernel)
theorem bs_X10_state_e_0 {P : Zt → Option Zv → Prop} (K : Int → Zl → List Zv → Zt → Prop) : sx_ K P [.aload 0, .iload 1] 2 = x_aload 0 (x_iload 1 (K 2)) := ((xe_aload 0).trans (congrArg (x_aload 0) ((xe_iload 1).trans (congrArg (x_iload 1) xe_nil))))
theorem bk_X10_state_e_5 : ck_ fX10 (some .int) cX10_state 5 [.ifCond .ne 11, .iconst (-2), .ireturn] 11 = true := qck_r (nn_ _) (by decide +kernel)
theorem bs_X10_state_e_5 {P : Zt → Option Zv → Prop} (K : Int → Zl → List Zv → Zt → Prop) : sx_ K P [.ifCond .ne 11, .iconst (-2), .ireturn] 11 = x_ifCond .ne 11 K (x_iconst (-2) (x_ireturn P)) := ((xe_ifCond .ne 11).trans (congrArg (x_ifCond .ne 11 K) ((xe_iconst (-2)).trans (congrArg (x_iconst (-2)) (xe_ireturn)))))
theorem bk_X10_state_e_11 : ck_ fX10 (some .int) cX10_state 11 [.iload 2, .ifCond .lt 21, .iload 2, .iconst 7, .if_icmp .le 24, .iconst (-3), .ireturn] 24 = true := qck_r (nn_ _) (by decide +kernel)
theorem bs_X10_state_e_11 {P : Zt → Option Zv → Prop} (K : Int → Zl → List Zv → Zt → Prop) : sx_ K P [.iload 2, .ifCond .lt 21, .iload 2, .iconst 7, .if_icmp .le 24, .iconst (-3), .ireturn] 24 = x_iload 2 (x_ifCond .lt 21 K (x_iload 2 (x_iconst 7 (x_if_icmp .le 24 K (x_iconst (-3) (x_ireturn P)))))) := ((xe_iload 2).trans (congrArg (x_iload 2) ((xe_ifCond .lt 21).trans (congrArg (x_ifCond .lt 21 K) ((xe_iload 2).trans (congrArg (x_iload 2) ((xe_iconst 7).trans (congrArg (x_iconst 7) ((xe_if_icmp .le 24).trans (congrArg (x_if_icmp .le 24 K) ((xe_iconst (-3)).trans (congrArg (x_iconst (-3)) (xe_ireturn)))))))))))))
theorem bk_X10_state_e_21 : ck_ fX10 (some .int) cX10_state 21 [.iconst (-3), .ireturn] 24 = true := qck_r (nn_ _) (by decide +kernel)
theorem bs_X10_state_e_21 {P : Zt → Option Zv → Prop} (K : Int → Zl → List Zv → Zt → Prop) : sx_ K P [.iconst (-3), .ireturn] 24 = x_iconst (-3) (x_ireturn P) := ((xe_iconst (-3)).trans (congrArg (x_iconst (-3)) (xe_ireturn)))
theorem bk_X10_state_e_24 : ck_ fX10 (some .int) cX10_state 24 [.aload 0, .tableswitch 0 10 2 #[], .tableswitch 0 6 3 #[], .iload 1, .aaload, .tableswitch 0 2 10 #[], .astore 3, .aload 3, .ifnonnull 44, .iconst (-4), .ireturn] 44 = true := qck_r (nn_ _) (by decide +kernel)
theorem bs_X10_state_e_24 {P : Zt → Option Zv → Prop} (K : Int → Zl → List Zv → Zt → Prop) : sx_ K P [.aload 0, .tableswitch 0 10 2 #[], .tableswitch 0 6 3 #[], .iload 1, .aaload, .tableswitch 0 2 10 #[], .astore 3, .aload 3, .ifnonnull 44, .iconst (-4), .ireturn] 44 = x_aload 0 (x_g1 110 106 (x_g1 106 523 (x_iload 1 (x_aaload (x_g4 102 103 10 (x_astore 3 (x_aload 3 (x_ifnonnull 44 K (x_iconst (-4) (x_ireturn P)))))))))) := ((xe_aload 0).trans (congrArg (x_aload 0) ((xe_g1 (kk := 110) rfl tl_10_2).trans (congrArg (x_g1 110 106) ((xe_g1 (kk := 106) rfl tl_6_3).trans (congrArg (x_g1 106 523) ((xe_iload 1).trans (congrArg (x_iload 1) ((xe_aaload).trans (congrArg (x_aaload) ((xe_g4 (kk := 102) rfl tl_2_10).trans (congrArg (x_g4 102 103 10) ((xe_astore 3).trans (congrArg (x_astore 3) ((xe_aload 3).trans (congrArg (x_aload 3) ((xe_ifnonnull 44).trans (congrArg (x_ifnonnull 44 K) ((xe_iconst (-4)).trans (congrArg (x_iconst (-4)) (xe_ireturn)))))))))))))))))))))
theorem bk_X10_state_e_44 : ck_ fX10 (some .int) cX10_state 44 [.iload 2] 45 = true := qck_r (nn_ _) (by decide +kernel)
theorem bs_X10_state_e_44 {P : Zt → Option Zv → Prop} (K : Int → Zl → List Zv → Zt → Prop) : sx_ K P [.iload 2] 45 = x_iload 2 (K 45) := ((xe_iload 2).trans (congrArg (x_iload 2) xe_nil))
theorem bk_X10_state_e_84 : ck_ fX10 (some .int) cX10_state 84 [.aload 3, .tableswitch 0 3 4 #[], .ireturn] 89 = true := qck_r (nn_ _) (by decide +kernel)
theorem bs_X10_state_e_84 {P : Zt → Option Zv → Prop} (K : Int → Zl → List Zv → Zt → Prop) : sx_ K P [.aload 3, .tableswitch 0 3 4 #[], .ireturn] 89 = x_aload 3 (x_g0 103 4 (-2147483648) 2147483647 (x_ireturn P)) := ((xe_aload 3).trans (congrArg (x_aload 3) ((xe_g0 (kk := 103) rfl tl_3_4).trans (congrArg (x_g0 103 4 (-2147483648) 2147483647) (xe_ireturn)))))
theorem bk_X10_state_e_89 : ck_ fX10 (some .int) cX10_state 89 [.aload 3, .tableswitch 0 3 6 #[], .iload 2, .iconst 1, .isub, .iaload, .ireturn] 98 = true := qck_r (nn_ _) (by decide +kernel)
theorem bs_X10_state_e_89 {P : Zt → Option Zv → Prop} (K : Int → Zl → List Zv → Zt → Prop) : sx_ K P [.aload 3, .tableswitch 0 3 6 #[], .iload 2, .iconst 1, .isub, .iaload, .ireturn] 98 = x_aload 3 (x_g2 103 466 (x_iload 2 (x_iconst 1 (x_isub (x_iaload (x_ireturn P)))))) := ((xe_aload 3).trans (congrArg (x_aload 3) ((xe_g2 (kk := 103) rfl tl_3_6).trans (congrArg (x_g2 103 466) ((xe_iload 2).trans (congrArg (x_iload 2) ((xe_iconst 1).trans (congrArg (x_iconst 1) ((xe_isub).trans (congrArg (x_isub) ((xe_iaload).trans (congrArg (x_iaload) (xe_ireturn)))))))))))))
theorem bk_X10_state_e_98 : ck_ fX10 (some .int) cX10_state 98 [.aload 3, .tableswitch 0 3 7 #[], .iload 2, .iconst 3, .isub, .iaload, .ireturn] 107 = true := qck_r (nn_ _) (by decide +kernel)
theorem bs_X10_state_e_98 {P : Zt → Option Zv → Prop} (K : Int → Zl → List Zv → Zt → Prop) : sx_ K P [.aload 3, .tableswitch 0 3 7 #[], .iload 2, .iconst 3, .isub, .iaload, .ireturn] 107 = x_aload 3 (x_g2 103 467 (x_iload 2 (x_iconst 3 (x_isub (x_iaload (x_ireturn P)))))) := ((xe_aload 3).trans (congrArg (x_aload 3) ((xe_g2 (kk := 103) rfl tl_3_7).trans (congrArg (x_g2 103 467) ((xe_iload 2).trans (congrArg (x_iload 2) ((xe_iconst 3).trans (congrArg (x_iconst 3) ((xe_isub).trans (congrArg (x_isub) ((xe_iaload).trans (congrArg (x_iaload) (xe_ireturn)))))))))))))
theorem bk_X10_state_e_107 : ck_ fX10 (some .int) cX10_state 107 [.aload 3, .tableswitch 0 3 5 #[], .ireturn] 112 = true := qck_r (nn_ _) (by decide +kernel)
theorem bs_X10_state_e_107 {P : Zt → Option Zv → Prop} (K : Int → Zl → List Zv → Zt → Prop) : sx_ K P [.aload 3, .tableswitch 0 3 5 #[], .ireturn] 112 = x_aload 3 (x_g0 103 5 0 1 (x_ireturn P)) := ((xe_aload 3).trans (congrArg (x_aload 3) ((xe_g0 (kk := 103) rfl tl_3_5).trans (congrArg (x_g0 103 5 0 1) (xe_ireturn)))))
theorem bk_X10_state_e_112 : ck_ fX10 (some .int) cX10_state 112 [.aload 3, .tableswitch 0 3 9 #[], .iload 2, .iconst 6, .isub, .iaload, .ireturn] 122 = true := qck_r (nn_ _) (by decide +kernel)
theorem bs_X10_state_e_112 {P : Zt → Option Zv → Prop} (K : Int → Zl → List Zv → Zt → Prop) : sx_ K P [.aload 3, .tableswitch 0 3 9 #[], .iload 2, .iconst 6, .isub, .iaload, .ireturn] 122 = x_aload 3 (x_g2 103 469 (x_iload 2 (x_iconst 6 (x_isub (x_iaload (x_ireturn P)))))) := ((xe_aload 3).trans (congrArg (x_aload 3) ((xe_g2 (kk := 103) rfl tl_3_9).trans (congrArg (x_g2 103 469) ((xe_iload 2).trans (congrArg (x_iload 2) ((xe_iconst 6).trans (congrArg (x_iconst 6) ((xe_isub).trans (congrArg (x_isub) ((xe_iaload).trans (congrArg (x_iaload) (xe_ireturn)))))))))))))
abbrev po_X10_state_e (T : Zt) (m w : Int) : Zt → Option Zv → Prop := fun T' r => T = T' ∧ ∃ x : Int, r = some (vI x) ∧ ((x = -2 ∧ ¬ (0 ≤ m ∧ m < T 106 0 4)) ∨ ((0 ≤ m ∧ m < T 106 0 4) ∧ ((¬ (0 ≤ w ∧ w ≤ 7) ∧ x = -3) ∨ ((0 ≤ w ∧ w ≤ 7) ∧ ((T 102 m 10 = 0 ∧ x = -4) ∨ (T 102 m 10 ≠ 0 ∧ ((w = 0 ∧ x = T 103 m 4) ∨ ((w = 1 ∨ w = 2) ∧ x = T 466 m (w - 1)) ∨ ((w = 3 ∨ w = 4) ∧ x = T 467 m (w - 3)) ∨ (w = 5 ∧ x = T 103 m 5) ∨ ((w = 6 ∨ w = 7) ∧ x = T 469 m (w - 6)))))))))
set_option maxHeartbeats 4000000 in
theorem ct_X10_state_e {T : Zt} {m w : Int} (hka : KA_ T) : Ct_ yX10_state zX10_state T [vR 110 0, vI m, vI w] (po_X10_state_e T m w) := by
  refine ct_of pn_10 rfl rfl (Nat.le_of_ble_eq_true rfl) (fun hT hav => ?_)
  have hr_m : -2147483648 ≤ m ∧ m ≤ 2147483647 := hav (vI m) (List.mem_cons_of_mem _ List.mem_cons_self)
  have hr_w : -2147483648 ≤ w ∧ w ≤ 2147483647 := hav (vI w) (List.mem_cons_of_mem _ (List.mem_cons_of_mem _ List.mem_cons_self))
  have hz : zX10_state.2.2.2.1 = some .boolean → ∀ (T' : Zt) (x : Int), po_X10_state_e T m w T' (some (vI x)) → 0 ≤ x ∧ x ≤ 1 := fun h => by cases h
  have hb_matchCount : 0 ≤ T 106 0 4 ∧ T 106 0 4 ≤ 400 := bd_f hT 106 4 tl_6_4 0
  show J_ zX10_state T (po_X10_state_e T m w) 0 0 0 [some (vR 110 0), some (vI m), some (vI w), none] [] T
  refine j_blx (F := fX10) tb_X10 (nn_ _) bk_X10_state_e_0 bs_X10_state_e_0 hz (fun K hK => ?_)
  refine hK 2 _ [vI m, vR 110 0] T ?_
  refine j_callV (y := yX10_isMatch) (Yc := zX10_isMatch) (rest := []) [vI m] (ct_X10_isMatch (T := T)) cl_X10_195 (qd_c (by decide +kernel)) (nn_ _) rfl (rf_of rfl) (Nat.le_of_ble_eq_true rfl) (Nat.le_of_ble_eq_true rfl) (Nat.le_of_ble_eq_true rfl) rfl ?_
  rintro _ _ ⟨rfl, x1, rfl, hx1⟩
  show J_ zX10_state T (po_X10_state_e T m w) 0 0 5 _ [vI x1] T
  refine j_blx (F := fX10) tb_X10 (nn_ _) bk_X10_state_e_5 bs_X10_state_e_5 hz (fun K hK => ?_)
  refine And.intro (fun c2 => ?_) (fun c2 => ?_)
  · replace hx1 := hx1.resolve_right (fun z => c2 z.1)
    clear c2
    refine hK 11 _ [] T ?_
    refine j_blx (F := fX10) tb_X10 (nn_ _) bk_X10_state_e_11 bs_X10_state_e_11 hz (fun K hK => ?_)
    refine And.intro (fun c3 => ?_) (fun c3 => ?_)
    · refine hK 21 _ [] T ?_
      refine j_blx (F := fX10) tb_X10 (nn_ _) bk_X10_state_e_21 bs_X10_state_e_21 hz (fun K hK => ?_)
      refine (show po_X10_state_e T m w T (some (vI (-3))) from ?_)
      refine ⟨rfl, _, rfl, ?_⟩
      first
      | assumption
      | refine Or.inl ?_
        refine And.intro ?_ ?_
        · first | omega | rfl
        · first | omega | rfl
      | refine Or.inr ?_
        refine And.intro ?_ ?_
        · refine And.intro ?_ ?_
          · first | omega | rfl
          · first | omega | rfl
        · first
          | assumption
          | refine Or.inl ?_
            refine And.intro ?_ ?_
            · first | omega | rfl
            · first | omega | rfl
          | refine Or.inr ?_
            refine And.intro ?_ ?_
            · refine And.intro ?_ ?_
              · first | omega | rfl
              · first | omega | rfl
            · first
              | assumption
              | refine Or.inl ?_
                refine And.intro ?_ ?_
                · first | omega | rfl
                · first | omega | rfl
              | refine Or.inr ?_
                refine And.intro ?_ ?_
                · first | omega | rfl
                · first
                  | assumption
                  | refine Or.inl ?_
                    refine And.intro ?_ ?_
                    · first | omega | rfl
                    · first | omega | rfl
                  | refine Or.inr ?_
                    first
                    | assumption
                    | refine Or.inl ?_
                      refine And.intro ?_ ?_
                      · first | omega | rfl
                      · first | omega | rfl
                    | refine Or.inr ?_
                      first
                      | assumption
                      | refine Or.inl ?_
                        refine And.intro ?_ ?_
                        · first | omega | rfl
                        · first | omega | rfl
                      | refine Or.inr ?_
                        first
                        | assumption
                        | refine Or.inl ?_
                          refine And.intro ?_ ?_
                          · first | omega | rfl
                          · first | omega | rfl
                        | refine Or.inr ?_
                          refine And.intro ?_ ?_
                          · first | omega | rfl
                          · first | omega | rfl
    · refine And.intro (fun c4 => ?_) (fun c4 => ?_)
      · refine hK 24 _ [] T ?_
        refine j_blx (F := fX10) tb_X10 (nn_ _) bk_X10_state_e_24 bs_X10_state_e_24 hz (fun K hK => ?_)
        refine ix_i (by omega) ?_
        refine And.intro (fun c5 => ?_) (fun c5 => ?_)
        · exact absurd (show T 523 0 (m) = 0 by omega) (hka.2 _ (by omega) (by omega))
        · refine And.intro (fun c6 => ?_) (fun c6 => ?_)
          · refine (show po_X10_state_e T m w T (some (vI (-4))) from ?_)
            refine ⟨rfl, _, rfl, ?_⟩
            first
            | assumption
            | refine Or.inl ?_
              refine And.intro ?_ ?_
              · first | omega | rfl
              · first | omega | rfl
            | refine Or.inr ?_
              refine And.intro ?_ ?_
              · refine And.intro ?_ ?_
                · first | omega | rfl
                · first | omega | rfl
              · first
                | assumption
                | refine Or.inl ?_
                  refine And.intro ?_ ?_
                  · first | omega | rfl
                  · first | omega | rfl
                | refine Or.inr ?_
                  refine And.intro ?_ ?_
                  · refine And.intro ?_ ?_
                    · first | omega | rfl
                    · first | omega | rfl
                  · first
                    | assumption
                    | refine Or.inl ?_
                      refine And.intro ?_ ?_
                      · first | omega | rfl
                      · first | omega | rfl
                    | refine Or.inr ?_
                      refine And.intro ?_ ?_
                      · first | omega | rfl
                      · first
                        | assumption
                        | refine Or.inl ?_
                          refine And.intro ?_ ?_
                          · first | omega | rfl
                          · first | omega | rfl
                        | refine Or.inr ?_
                          first
                          | assumption
                          | refine Or.inl ?_
                            refine And.intro ?_ ?_
                            · first | omega | rfl
                            · first | omega | rfl
                          | refine Or.inr ?_
                            first
                            | assumption
                            | refine Or.inl ?_
                              refine And.intro ?_ ?_
                              · first | omega | rfl
                              · first | omega | rfl
                            | refine Or.inr ?_
                              first
                              | assumption
                              | refine Or.inl ?_
                                refine And.intro ?_ ?_
                                · first | omega | rfl
                                · first | omega | rfl
                              | refine Or.inr ?_
                                refine And.intro ?_ ?_
                                · first | omega | rfl
                                · first | omega | rfl
          · refine hK 44 [some (vR 110 0), some (vI m), some (vI w), some (vR 103 m)] [] T ?_
            refine j_blx (F := fX10) tb_X10 (nn_ _) bk_X10_state_e_44 bs_X10_state_e_44 hz (fun K hK => ?_)
            refine hK 45 _ [vI w] T ?_
            by_cases z7_0 : w = 0
            · refine j_tsI (pc := 45) 0 (off := 39) (tgt := 84) (by decide) ds_X10_state_45 (by omega) (by decide) rfl (by decide) (by decide) ?_
              refine j_blx (F := fX10) tb_X10 (nn_ _) bk_X10_state_e_84 bs_X10_state_e_84 hz (fun K hK => ?_)
              intro b8 b8b
              refine (show po_X10_state_e T m w T (some (vI (T 103 m 4))) from ?_)
              refine ⟨rfl, _, rfl, ?_⟩
              first
              | assumption
              | refine Or.inl ?_
                refine And.intro ?_ ?_
                · first | omega | rfl
                · first | omega | rfl
              | refine Or.inr ?_
                refine And.intro ?_ ?_
                · refine And.intro ?_ ?_
                  · first | omega | rfl
                  · first | omega | rfl
                · first
                  | assumption
                  | refine Or.inl ?_
                    refine And.intro ?_ ?_
                    · first | omega | rfl
                    · first | omega | rfl
                  | refine Or.inr ?_
                    refine And.intro ?_ ?_
                    · refine And.intro ?_ ?_
                      · first | omega | rfl
                      · first | omega | rfl
                    · first
                      | assumption
                      | refine Or.inl ?_
                        refine And.intro ?_ ?_
                        · first | omega | rfl
                        · first | omega | rfl
                      | refine Or.inr ?_
                        refine And.intro ?_ ?_
                        · first | omega | rfl
                        · first
                          | assumption
                          | refine Or.inl ?_
                            refine And.intro ?_ ?_
                            · first | omega | rfl
                            · first | omega | rfl
                          | refine Or.inr ?_
                            first
                            | assumption
                            | refine Or.inl ?_
                              refine And.intro ?_ ?_
                              · first | omega | rfl
                              · first | omega | rfl
                            | refine Or.inr ?_
                              first
                              | assumption
                              | refine Or.inl ?_
                                refine And.intro ?_ ?_
                                · first | omega | rfl
                                · first | omega | rfl
                              | refine Or.inr ?_
                                first
                                | assumption
                                | refine Or.inl ?_
                                  refine And.intro ?_ ?_
                                  · first | omega | rfl
                                  · first | omega | rfl
                                | refine Or.inr ?_
                                  refine And.intro ?_ ?_
                                  · first | omega | rfl
                                  · first | omega | rfl
            by_cases z7_1 : w = 1
            · refine j_tsI (pc := 45) 1 (off := 44) (tgt := 89) (by decide) ds_X10_state_45 (by omega) (by decide) rfl (by decide) (by decide) ?_
              refine j_blx (F := fX10) tb_X10 (nn_ _) bk_X10_state_e_89 bs_X10_state_e_89 hz (fun K hK => ?_)
              refine rg_i (by omega) ?_
              refine ix_i (by omega) ?_
              intro b9 b9b
              refine (show po_X10_state_e T m w T (some (vI (T 466 m (w - 1)))) from ?_)
              refine ⟨rfl, _, rfl, ?_⟩
              first
              | assumption
              | refine Or.inl ?_
                refine And.intro ?_ ?_
                · first | omega | rfl
                · first | omega | rfl
              | refine Or.inr ?_
                refine And.intro ?_ ?_
                · refine And.intro ?_ ?_
                  · first | omega | rfl
                  · first | omega | rfl
                · first
                  | assumption
                  | refine Or.inl ?_
                    refine And.intro ?_ ?_
                    · first | omega | rfl
                    · first | omega | rfl
                  | refine Or.inr ?_
                    refine And.intro ?_ ?_
                    · refine And.intro ?_ ?_
                      · first | omega | rfl
                      · first | omega | rfl
                    · first
                      | assumption
                      | refine Or.inl ?_
                        refine And.intro ?_ ?_
                        · first | omega | rfl
                        · first | omega | rfl
                      | refine Or.inr ?_
                        refine And.intro ?_ ?_
                        · first | omega | rfl
                        · first
                          | assumption
                          | refine Or.inl ?_
                            refine And.intro ?_ ?_
                            · first | omega | rfl
                            · first | omega | rfl
                          | refine Or.inr ?_
                            first
                            | assumption
                            | refine Or.inl ?_
                              refine And.intro ?_ ?_
                              · first | omega | rfl
                              · first | omega | rfl
                            | refine Or.inr ?_
                              first
                              | assumption
                              | refine Or.inl ?_
                                refine And.intro ?_ ?_
                                · first | omega | rfl
                                · first | omega | rfl
                              | refine Or.inr ?_
                                first
                                | assumption
                                | refine Or.inl ?_
                                  refine And.intro ?_ ?_
                                  · first | omega | rfl
                                  · first | omega | rfl
                                | refine Or.inr ?_
                                  refine And.intro ?_ ?_
                                  · first | omega | rfl
                                  · first | omega | rfl
            by_cases z7_2 : w = 2
            · refine j_tsI (pc := 45) 2 (off := 44) (tgt := 89) (by decide) ds_X10_state_45 (by omega) (by decide) rfl (by decide) (by decide) ?_
              refine j_blx (F := fX10) tb_X10 (nn_ _) bk_X10_state_e_89 bs_X10_state_e_89 hz (fun K hK => ?_)
              refine rg_i (by omega) ?_
              refine ix_i (by omega) ?_
              intro b10 b10b
              refine (show po_X10_state_e T m w T (some (vI (T 466 m (w - 1)))) from ?_)
              refine ⟨rfl, _, rfl, ?_⟩
              first
              | assumption
              | refine Or.inl ?_
                refine And.intro ?_ ?_
                · first | omega | rfl
                · first | omega | rfl
              | refine Or.inr ?_
                refine And.intro ?_ ?_
                · refine And.intro ?_ ?_
                  · first | omega | rfl
                  · first | omega | rfl
                · first
                  | assumption
                  | refine Or.inl ?_
                    refine And.intro ?_ ?_
                    · first | omega | rfl
                    · first | omega | rfl
                  | refine Or.inr ?_
                    refine And.intro ?_ ?_
                    · refine And.intro ?_ ?_
                      · first | omega | rfl
                      · first | omega | rfl
                    · first
                      | assumption
                      | refine Or.inl ?_
                        refine And.intro ?_ ?_
                        · first | omega | rfl
                        · first | omega | rfl
                      | refine Or.inr ?_
                        refine And.intro ?_ ?_
                        · first | omega | rfl
                        · first
                          | assumption
                          | refine Or.inl ?_
                            refine And.intro ?_ ?_
                            · first | omega | rfl
                            · first | omega | rfl
                          | refine Or.inr ?_
                            first
                            | assumption
                            | refine Or.inl ?_
                              refine And.intro ?_ ?_
                              · first | omega | rfl
                              · first | omega | rfl
                            | refine Or.inr ?_
                              first
                              | assumption
                              | refine Or.inl ?_
                                refine And.intro ?_ ?_
                                · first | omega | rfl
                                · first | omega | rfl
                              | refine Or.inr ?_
                                first
                                | assumption
                                | refine Or.inl ?_
                                  refine And.intro ?_ ?_
                                  · first | omega | rfl
                                  · first | omega | rfl
                                | refine Or.inr ?_
                                  refine And.intro ?_ ?_
                                  · first | omega | rfl
                                  · first | omega | rfl
            by_cases z7_3 : w = 3
            · refine j_tsI (pc := 45) 3 (off := 53) (tgt := 98) (by decide) ds_X10_state_45 (by omega) (by decide) rfl (by decide) (by decide) ?_
              refine j_blx (F := fX10) tb_X10 (nn_ _) bk_X10_state_e_98 bs_X10_state_e_98 hz (fun K hK => ?_)
              refine rg_i (by omega) ?_
              refine ix_i (by omega) ?_
              intro b11 b11b
              refine (show po_X10_state_e T m w T (some (vI (T 467 m (w - 3)))) from ?_)
              refine ⟨rfl, _, rfl, ?_⟩
              first
              | assumption
              | refine Or.inl ?_
                refine And.intro ?_ ?_
                · first | omega | rfl
                · first | omega | rfl
              | refine Or.inr ?_
                refine And.intro ?_ ?_
                · refine And.intro ?_ ?_
                  · first | omega | rfl
                  · first | omega | rfl
                · first
                  | assumption
                  | refine Or.inl ?_
                    refine And.intro ?_ ?_
                    · first | omega | rfl
                    · first | omega | rfl
                  | refine Or.inr ?_
                    refine And.intro ?_ ?_
                    · refine And.intro ?_ ?_
                      · first | omega | rfl
                      · first | omega | rfl
                    · first
                      | assumption
                      | refine Or.inl ?_
                        refine And.intro ?_ ?_
                        · first | omega | rfl
                        · first | omega | rfl
                      | refine Or.inr ?_
                        refine And.intro ?_ ?_
                        · first | omega | rfl
                        · first
                          | assumption
                          | refine Or.inl ?_
                            refine And.intro ?_ ?_
                            · first | omega | rfl
                            · first | omega | rfl
                          | refine Or.inr ?_
                            first
                            | assumption
                            | refine Or.inl ?_
                              refine And.intro ?_ ?_
                              · first | omega | rfl
                              · first | omega | rfl
                            | refine Or.inr ?_
                              first
                              | assumption
                              | refine Or.inl ?_
                                refine And.intro ?_ ?_
                                · first | omega | rfl
                                · first | omega | rfl
                              | refine Or.inr ?_
                                first
                                | assumption
                                | refine Or.inl ?_
                                  refine And.intro ?_ ?_
                                  · first | omega | rfl
                                  · first | omega | rfl
                                | refine Or.inr ?_
                                  refine And.intro ?_ ?_
                                  · first | omega | rfl
                                  · first | omega | rfl
            by_cases z7_4 : w = 4
            · refine j_tsI (pc := 45) 4 (off := 53) (tgt := 98) (by decide) ds_X10_state_45 (by omega) (by decide) rfl (by decide) (by decide) ?_
              refine j_blx (F := fX10) tb_X10 (nn_ _) bk_X10_state_e_98 bs_X10_state_e_98 hz (fun K hK => ?_)
              refine rg_i (by omega) ?_
              refine ix_i (by omega) ?_
              intro b12 b12b
              refine (show po_X10_state_e T m w T (some (vI (T 467 m (w - 3)))) from ?_)
              refine ⟨rfl, _, rfl, ?_⟩
              first
              | assumption
              | refine Or.inl ?_
                refine And.intro ?_ ?_
                · first | omega | rfl
                · first | omega | rfl
              | refine Or.inr ?_
                refine And.intro ?_ ?_
                · refine And.intro ?_ ?_
                  · first | omega | rfl
                  · first | omega | rfl
                · first
                  | assumption
                  | refine Or.inl ?_
                    refine And.intro ?_ ?_
                    · first | omega | rfl
                    · first | omega | rfl
                  | refine Or.inr ?_
                    refine And.intro ?_ ?_
                    · refine And.intro ?_ ?_
                      · first | omega | rfl
                      · first | omega | rfl
                    · first
                      | assumption
                      | refine Or.inl ?_
                        refine And.intro ?_ ?_
                        · first | omega | rfl
                        · first | omega | rfl
                      | refine Or.inr ?_
                        refine And.intro ?_ ?_
                        · first | omega | rfl
                        · first
                          | assumption
                          | refine Or.inl ?_
                            refine And.intro ?_ ?_
                            · first | omega | rfl
                            · first | omega | rfl
                          | refine Or.inr ?_
                            first
                            | assumption
                            | refine Or.inl ?_
                              refine And.intro ?_ ?_
                              · first | omega | rfl
                              · first | omega | rfl
                            | refine Or.inr ?_
                              first
                              | assumption
                              | refine Or.inl ?_
                                refine And.intro ?_ ?_
                                · first | omega | rfl
                                · first | omega | rfl
                              | refine Or.inr ?_
                                first
                                | assumption
                                | refine Or.inl ?_
                                  refine And.intro ?_ ?_
                                  · first | omega | rfl
                                  · first | omega | rfl
                                | refine Or.inr ?_
                                  refine And.intro ?_ ?_
                                  · first | omega | rfl
                                  · first | omega | rfl
            by_cases z7_5 : w = 5
            · refine j_tsI (pc := 45) 5 (off := 62) (tgt := 107) (by decide) ds_X10_state_45 (by omega) (by decide) rfl (by decide) (by decide) ?_
              refine j_blx (F := fX10) tb_X10 (nn_ _) bk_X10_state_e_107 bs_X10_state_e_107 hz (fun K hK => ?_)
              intro b13 b13b
              refine (show po_X10_state_e T m w T (some (vI (T 103 m 5))) from ?_)
              refine ⟨rfl, _, rfl, ?_⟩
              first
              | assumption
              | refine Or.inl ?_
                refine And.intro ?_ ?_
                · first | omega | rfl
                · first | omega | rfl
              | refine Or.inr ?_
                refine And.intro ?_ ?_
                · refine And.intro ?_ ?_
                  · first | omega | rfl
                  · first | omega | rfl
                · first
                  | assumption
                  | refine Or.inl ?_
                    refine And.intro ?_ ?_
                    · first | omega | rfl
                    · first | omega | rfl
                  | refine Or.inr ?_
                    refine And.intro ?_ ?_
                    · refine And.intro ?_ ?_
                      · first | omega | rfl
                      · first | omega | rfl
                    · first
                      | assumption
                      | refine Or.inl ?_
                        refine And.intro ?_ ?_
                        · first | omega | rfl
                        · first | omega | rfl
                      | refine Or.inr ?_
                        refine And.intro ?_ ?_
                        · first | omega | rfl
                        · first
                          | assumption
                          | refine Or.inl ?_
                            refine And.intro ?_ ?_
                            · first | omega | rfl
                            · first | omega | rfl
                          | refine Or.inr ?_
                            first
                            | assumption
                            | refine Or.inl ?_
                              refine And.intro ?_ ?_
                              · first | omega | rfl
                              · first | omega | rfl
                            | refine Or.inr ?_
                              first
                              | assumption
                              | refine Or.inl ?_
                                refine And.intro ?_ ?_
                                · first | omega | rfl
                                · first | omega | rfl
                              | refine Or.inr ?_
                                first
                                | assumption
                                | refine Or.inl ?_
                                  refine And.intro ?_ ?_
                                  · first | omega | rfl
                                  · first | omega | rfl
                                | refine Or.inr ?_
                                  refine And.intro ?_ ?_
                                  · first | omega | rfl
                                  · first | omega | rfl
            refine j_tsO (pc := 45) (tgt := 112) (by decide) ds_X10_state_45 (by omega) (by decide) (by decide) ?_
            refine j_blx (F := fX10) tb_X10 (nn_ _) bk_X10_state_e_112 bs_X10_state_e_112 hz (fun K hK => ?_)
            refine rg_i (by omega) ?_
            refine ix_i (by omega) ?_
            intro b14 b14b
            refine (show po_X10_state_e T m w T (some (vI (T 469 m (w - 6)))) from ?_)
            refine ⟨rfl, _, rfl, ?_⟩
            first
            | assumption
            | refine Or.inl ?_
              refine And.intro ?_ ?_
              · first | omega | rfl
              · first | omega | rfl
            | refine Or.inr ?_
              refine And.intro ?_ ?_
              · refine And.intro ?_ ?_
                · first | omega | rfl
                · first | omega | rfl
              · first
                | assumption
                | refine Or.inl ?_
                  refine And.intro ?_ ?_
                  · first | omega | rfl
                  · first | omega | rfl
                | refine Or.inr ?_
                  refine And.intro ?_ ?_
                  · refine And.intro ?_ ?_
                    · first | omega | rfl
                    · first | omega | rfl
                  · first
                    | assumption
                    | refine Or.inl ?_
                      refine And.intro ?_ ?_
                      · first | omega | rfl
                      · first | omega | rfl
                    | refine Or.inr ?_
                      refine And.intro ?_ ?_
                      · first | omega | rfl
                      · first
                        | assumption
                        | refine Or.inl ?_
                          refine And.intro ?_ ?_
                          · first | omega | rfl
                          · first | omega | rfl
                        | refine Or.inr ?_
                          first
                          | assumption
                          | refine Or.inl ?_
                            refine And.intro ?_ ?_
                            · first | omega | rfl
                            · first | omega | rfl
                          | refine Or.inr ?_
                            first
                            | assumption
                            | refine Or.inl ?_
                              refine And.intro ?_ ?_
                              · first | omega | rfl
                              · first | omega | rfl
                            | refine Or.inr ?_
                              first
                              | assumption
                              | refine Or.inl ?_
                                refine And.intro ?_ ?_
                                · first | omega | rfl
                                · first | omega | rfl
                              | refine Or.inr ?_
                                refine And.intro ?_ ?_
                                · first | omega | rfl
                                · first | omega | rfl
      · refine (show po_X10_state_e T m w T (some (vI (-3))) from ?_)
        refine ⟨rfl, _, rfl, ?_⟩
        first
        | assumption
        | refine Or.inl ?_
          refine And.intro ?_ ?_
          · first | omega | rfl
          · first | omega | rfl
        | refine Or.inr ?_
          refine And.intro ?_ ?_
          · refine And.intro ?_ ?_
            · first | omega | rfl
            · first | omega | rfl
          · first
            | assumption
            | refine Or.inl ?_
              refine And.intro ?_ ?_
              · first | omega | rfl
              · first | omega | rfl
            | refine Or.inr ?_
              refine And.intro ?_ ?_
              · refine And.intro ?_ ?_
                · first | omega | rfl
                · first | omega | rfl
              · first
                | assumption
                | refine Or.inl ?_
                  refine And.intro ?_ ?_
                  · first | omega | rfl
                  · first | omega | rfl
                | refine Or.inr ?_
                  refine And.intro ?_ ?_
                  · first | omega | rfl
                  · first
                    | assumption
                    | refine Or.inl ?_
                      refine And.intro ?_ ?_
                      · first | omega | rfl
                      · first | omega | rfl
                    | refine Or.inr ?_
                      first
                      | assumption
                      | refine Or.inl ?_
                        refine And.intro ?_ ?_
                        · first | omega | rfl
                        · first | omega | rfl
                      | refine Or.inr ?_
                        first
                        | assumption
                        | refine Or.inl ?_
                          refine And.intro ?_ ?_
                          · first | omega | rfl
                          · first | omega | rfl
                        | refine Or.inr ?_
                          first
                          | assumption
                          | refine Or.inl ?_
                            refine And.intro ?_ ?_
                            · first | omega | rfl
                            · first | omega | rfl
                          | refine Or.inr ?_
                            refine And.intro ?_ ?_
                            · first | omega | rfl
                            · first | omega | rfl
  · replace hx1 := hx1.resolve_left (fun z => absurd (c2.symm.trans z.1) (by decide))
    clear c2
    refine (show po_X10_state_e T m w T (some (vI (-2))) from ?_)
    refine ⟨rfl, _, rfl, ?_⟩
    first
    | assumption
    | refine Or.inl ?_
      refine And.intro ?_ ?_
      · first | omega | rfl
      · first | omega | rfl
    | refine Or.inr ?_
      refine And.intro ?_ ?_
      · refine And.intro ?_ ?_
        · first | omega | rfl
        · first | omega | rfl
      · first
        | assumption
        | refine Or.inl ?_
          refine And.intro ?_ ?_
          · first | omega | rfl
          · first | omega | rfl
        | refine Or.inr ?_
          refine And.intro ?_ ?_
          · refine And.intro ?_ ?_
            · first | omega | rfl
            · first | omega | rfl
          · first
            | assumption
            | refine Or.inl ?_
              refine And.intro ?_ ?_
              · first | omega | rfl
              · first | omega | rfl
            | refine Or.inr ?_
              refine And.intro ?_ ?_
              · first | omega | rfl
              · first
                | assumption
                | refine Or.inl ?_
                  refine And.intro ?_ ?_
                  · first | omega | rfl
                  · first | omega | rfl
                | refine Or.inr ?_
                  first
                  | assumption
                  | refine Or.inl ?_
                    refine And.intro ?_ ?_
                    · first | omega | rfl
                    · first | omega | rfl
                  | refine Or.inr ?_
                    first
                    | assumption
                    | refine Or.inl ?_
                      refine And.intro ?_ ?_
                      · first | omega | rfl
                      · first | omega | rfl
                    | refine Or.inr ?_
                      first
                      | assumption
                      | refine Or.inl ?_
                        refine And.intro ?_ ?_
                        · first | omega | rfl
                        · first | omega | rfl
                      | refine Or.inr ?_
                        refine And.intro ?_ ?_
                        · first | omega | rfl
                        · first | omega | rfl
theorem bk_X10_onField_e_0 : ck_ fX10 (some .int) cX10_onField 0 [.aload 0, .iload 1] 2 = true := qck_r (nn_ _) (by decide +kernel)
theorem bs_X10_onField_e_0 {P : Zt → Option Zv → Prop} (K : Int → Zl → List Zv → Zt → Prop) : sx_ K P [.aload 0, .iload 1] 2 = x_aload 0 (x_iload 1 (K 2)) := ((xe_aload 0).trans (congrArg (x_aload 0) ((xe_iload 1).trans (congrArg (x_iload 1) xe_nil))))
theorem bk_X10_onField_e_5 : ck_ fX10 (some .int) cX10_onField 5 [.ifCond .ne 11, .iconst (-2), .ireturn] 11 = true := qck_r (nn_ _) (by decide +kernel)
theorem bs_X10_onField_e_5 {P : Zt → Option Zv → Prop} (K : Int → Zl → List Zv → Zt → Prop) : sx_ K P [.ifCond .ne 11, .iconst (-2), .ireturn] 11 = x_ifCond .ne 11 K (x_iconst (-2) (x_ireturn P)) := ((xe_ifCond .ne 11).trans (congrArg (x_ifCond .ne 11 K) ((xe_iconst (-2)).trans (congrArg (x_iconst (-2)) (xe_ireturn)))))
theorem bk_X10_onField_e_11 : ck_ fX10 (some .int) cX10_onField 11 [.iload 2] 12 = true := qck_r (nn_ _) (by decide +kernel)
theorem bs_X10_onField_e_11 {P : Zt → Option Zv → Prop} (K : Int → Zl → List Zv → Zt → Prop) : sx_ K P [.iload 2] 12 = x_iload 2 (K 12) := ((xe_iload 2).trans (congrArg (x_iload 2) xe_nil))
theorem bk_X10_onField_e_15 : ck_ fX10 (some .int) cX10_onField 15 [.ifCond .ne 21, .iconst (-3), .ireturn] 21 = true := qck_r (nn_ _) (by decide +kernel)
theorem bs_X10_onField_e_15 {P : Zt → Option Zv → Prop} (K : Int → Zl → List Zv → Zt → Prop) : sx_ K P [.ifCond .ne 21, .iconst (-3), .ireturn] 21 = x_ifCond .ne 21 K (x_iconst (-3) (x_ireturn P)) := ((xe_ifCond .ne 21).trans (congrArg (x_ifCond .ne 21 K) ((xe_iconst (-3)).trans (congrArg (x_iconst (-3)) (xe_ireturn)))))
theorem bk_X10_onField_e_21 : ck_ fX10 (some .int) cX10_onField 21 [.aload 0, .tableswitch 0 10 2 #[], .tableswitch 0 6 3 #[], .iload 1, .aaload, .tableswitch 0 2 10 #[], .astore 4, .aload 4, .ifnull 54, .iload 3, .aload 4, .tableswitch 0 3 10 #[], .iload 2, .iaload] 48 = true := qck_r (nn_ _) (by decide +kernel)
theorem bs_X10_onField_e_21 {P : Zt → Option Zv → Prop} (K : Int → Zl → List Zv → Zt → Prop) : sx_ K P [.aload 0, .tableswitch 0 10 2 #[], .tableswitch 0 6 3 #[], .iload 1, .aaload, .tableswitch 0 2 10 #[], .astore 4, .aload 4, .ifnull 54, .iload 3, .aload 4, .tableswitch 0 3 10 #[], .iload 2, .iaload] 48 = x_aload 0 (x_g1 110 106 (x_g1 106 523 (x_iload 1 (x_aaload (x_g4 102 103 10 (x_astore 4 (x_aload 4 (x_ifnull 54 K (x_iload 3 (x_aload 4 (x_g2 103 470 (x_iload 2 (x_iaload (K 48)))))))))))))) := ((xe_aload 0).trans (congrArg (x_aload 0) ((xe_g1 (kk := 110) rfl tl_10_2).trans (congrArg (x_g1 110 106) ((xe_g1 (kk := 106) rfl tl_6_3).trans (congrArg (x_g1 106 523) ((xe_iload 1).trans (congrArg (x_iload 1) ((xe_aaload).trans (congrArg (x_aaload) ((xe_g4 (kk := 102) rfl tl_2_10).trans (congrArg (x_g4 102 103 10) ((xe_astore 4).trans (congrArg (x_astore 4) ((xe_aload 4).trans (congrArg (x_aload 4) ((xe_ifnull 54).trans (congrArg (x_ifnull 54 K) ((xe_iload 3).trans (congrArg (x_iload 3) ((xe_aload 4).trans (congrArg (x_aload 4) ((xe_g2 (kk := 103) rfl tl_3_10).trans (congrArg (x_g2 103 470) ((xe_iload 2).trans (congrArg (x_iload 2) ((xe_iaload).trans (congrArg (x_iaload) xe_nil))))))))))))))))))))))))))))
theorem bk_X10_onField_e_54 : ck_ fX10 (some .int) cX10_onField 54 [.iconst (-1), .ireturn] 56 = true := qck_r (nn_ _) (by decide +kernel)
theorem bs_X10_onField_e_54 {P : Zt → Option Zv → Prop} (K : Int → Zl → List Zv → Zt → Prop) : sx_ K P [.iconst (-1), .ireturn] 56 = x_iconst (-1) (x_ireturn P) := ((xe_iconst (-1)).trans (congrArg (x_iconst (-1)) (xe_ireturn)))
theorem bk_X10_onField_e_51 : ck_ fX10 (some .int) cX10_onField 51 [.ifCond .ne 56, .iconst (-1), .ireturn] 56 = true := qck_r (nn_ _) (by decide +kernel)
theorem bs_X10_onField_e_51 {P : Zt → Option Zv → Prop} (K : Int → Zl → List Zv → Zt → Prop) : sx_ K P [.ifCond .ne 56, .iconst (-1), .ireturn] 56 = x_ifCond .ne 56 K (x_iconst (-1) (x_ireturn P)) := ((xe_ifCond .ne 56).trans (congrArg (x_ifCond .ne 56 K) ((xe_iconst (-1)).trans (congrArg (x_iconst (-1)) (xe_ireturn)))))
theorem bk_X10_onField_e_56 : ck_ fX10 (some .int) cX10_onField 56 [.aload 4, .iload 2, .iload 3] 60 = true := qck_r (nn_ _) (by decide +kernel)
theorem bs_X10_onField_e_56 {P : Zt → Option Zv → Prop} (K : Int → Zl → List Zv → Zt → Prop) : sx_ K P [.aload 4, .iload 2, .iload 3] 60 = x_aload 4 (x_iload 2 (x_iload 3 (K 60))) := ((xe_aload 4).trans (congrArg (x_aload 4) ((xe_iload 2).trans (congrArg (x_iload 2) ((xe_iload 3).trans (congrArg (x_iload 3) xe_nil))))))
theorem bk_X10_onField_e_63 : ck_ fX10 (some .int) cX10_onField 63 [.ireturn] 64 = true := qck_r (nn_ _) (by decide +kernel)
theorem bs_X10_onField_e_63 {P : Zt → Option Zv → Prop} (K : Int → Zl → List Zv → Zt → Prop) : sx_ K P [.ireturn] 64 = x_ireturn P := (xe_ireturn)
abbrev po_X10_onField_e (T : Zt) (m d k : Int) : Zt → Option Zv → Prop := fun T' r => T = T' ∧ ∃ x : Int, r = some (vI x) ∧ ((x = -2 ∧ ¬ (0 ≤ m ∧ m < T 106 0 4)) ∨ ((0 ≤ m ∧ m < T 106 0 4) ∧ ((¬ (0 ≤ d ∧ d ≤ 1) ∧ x = -3) ∨ ((0 ≤ d ∧ d ≤ 1) ∧ ((¬ (T 102 m 10 ≠ 0 ∧ 0 ≤ k ∧ k < T 470 m d) ∧ x = -1) ∨ (T 102 m 10 ≠ 0 ∧ (0 ≤ k ∧ k < T 470 m d) ∧ x = T 448 m (T 471 m (d * 6 + k))))))))
set_option maxHeartbeats 4000000 in
theorem ct_X10_onField_e {T : Zt} {m d k : Int} (hka : KA_ T) : Ct_ yX10_onField zX10_onField T [vR 110 0, vI m, vI d, vI k] (po_X10_onField_e T m d k) := by
  refine ct_of pn_10 rfl rfl (Nat.le_of_ble_eq_true rfl) (fun hT hav => ?_)
  have hr_m : -2147483648 ≤ m ∧ m ≤ 2147483647 := hav (vI m) (List.mem_cons_of_mem _ List.mem_cons_self)
  have hr_d : -2147483648 ≤ d ∧ d ≤ 2147483647 := hav (vI d) (List.mem_cons_of_mem _ (List.mem_cons_of_mem _ List.mem_cons_self))
  have hr_k : -2147483648 ≤ k ∧ k ≤ 2147483647 := hav (vI k) (List.mem_cons_of_mem _ (List.mem_cons_of_mem _ (List.mem_cons_of_mem _ List.mem_cons_self)))
  have hz : zX10_onField.2.2.2.1 = some .boolean → ∀ (T' : Zt) (x : Int), po_X10_onField_e T m d k T' (some (vI x)) → 0 ≤ x ∧ x ≤ 1 := fun h => by cases h
  have hb_matchCount : 0 ≤ T 106 0 4 ∧ T 106 0 4 ≤ 400 := bd_f hT 106 4 tl_6_4 0
  show J_ zX10_onField T (po_X10_onField_e T m d k) 0 0 0 [some (vR 110 0), some (vI m), some (vI d), some (vI k), none] [] T
  refine j_blx (F := fX10) tb_X10 (nn_ _) bk_X10_onField_e_0 bs_X10_onField_e_0 hz (fun K hK => ?_)
  refine hK 2 _ [vI m, vR 110 0] T ?_
  refine j_callV (y := yX10_isMatch) (Yc := zX10_isMatch) (rest := []) [vI m] (ct_X10_isMatch (T := T)) cl_X10_195 (qd_c (by decide +kernel)) (nn_ _) rfl (rf_of rfl) (Nat.le_of_ble_eq_true rfl) (Nat.le_of_ble_eq_true rfl) (Nat.le_of_ble_eq_true rfl) rfl ?_
  rintro _ _ ⟨rfl, x1, rfl, hx1⟩
  show J_ zX10_onField T (po_X10_onField_e T m d k) 0 0 5 _ [vI x1] T
  refine j_blx (F := fX10) tb_X10 (nn_ _) bk_X10_onField_e_5 bs_X10_onField_e_5 hz (fun K hK => ?_)
  refine And.intro (fun c2 => ?_) (fun c2 => ?_)
  · replace hx1 := hx1.resolve_right (fun z => c2 z.1)
    clear c2
    refine hK 11 _ [] T ?_
    refine j_blx (F := fX10) tb_X10 (nn_ _) bk_X10_onField_e_11 bs_X10_onField_e_11 hz (fun K hK => ?_)
    refine hK 12 _ [vI d] T ?_
    refine j_callS (y := yX10_isSide) (Yc := zX10_isSide) (rest := []) [vI d] (ct_X10_isSide (T := T)) cl_X10_251 (qd_c (by decide +kernel)) (nn_ _) rfl (rf_of rfl) (Nat.le_of_ble_eq_true rfl) (Nat.le_of_ble_eq_true rfl) (Nat.le_of_ble_eq_true rfl) rfl ?_
    rintro _ _ ⟨rfl, x3, rfl, hx3⟩
    show J_ zX10_onField T (po_X10_onField_e T m d k) 0 0 15 _ [vI x3] T
    refine j_blx (F := fX10) tb_X10 (nn_ _) bk_X10_onField_e_15 bs_X10_onField_e_15 hz (fun K hK => ?_)
    refine And.intro (fun c4 => ?_) (fun c4 => ?_)
    · replace hx3 := hx3.resolve_right (fun z => c4 z.1)
      clear c4
      refine hK 21 _ [] T ?_
      refine j_blx (F := fX10) tb_X10 (nn_ _) bk_X10_onField_e_21 bs_X10_onField_e_21 hz (fun K hK => ?_)
      refine ix_i (by omega) ?_
      refine And.intro (fun c5 => ?_) (fun c5 => ?_)
      · exact absurd (show T 523 0 (m) = 0 by omega) (hka.2 _ (by omega) (by omega))
      · refine And.intro (fun c6 => ?_) (fun c6 => ?_)
        · refine hK 54 [some (vR 110 0), some (vI m), some (vI d), some (vI k), some (vN)] [] T ?_
          refine j_blx (F := fX10) tb_X10 (nn_ _) bk_X10_onField_e_54 bs_X10_onField_e_54 hz (fun K hK => ?_)
          refine (show po_X10_onField_e T m d k T (some (vI (-1))) from ?_)
          refine ⟨rfl, _, rfl, ?_⟩
          first
          | assumption
          | refine Or.inl ?_
            refine And.intro ?_ ?_
            · first | omega | rfl
            · first | omega | rfl
          | refine Or.inr ?_
            refine And.intro ?_ ?_
            · refine And.intro ?_ ?_
              · first | omega | rfl
              · first | omega | rfl
            · first
              | assumption
              | refine Or.inl ?_
                refine And.intro ?_ ?_
                · first | omega | rfl
                · first | omega | rfl
              | refine Or.inr ?_
                refine And.intro ?_ ?_
                · refine And.intro ?_ ?_
                  · first | omega | rfl
                  · first | omega | rfl
                · first
                  | assumption
                  | refine Or.inl ?_
                    refine And.intro ?_ ?_
                    · first | omega | rfl
                    · first | omega | rfl
                  | refine Or.inr ?_
                    refine And.intro ?_ ?_
                    · first | omega | rfl
                    · refine And.intro ?_ ?_
                      · refine And.intro ?_ ?_
                        · first | omega | rfl
                        · first | omega | rfl
                      · first | omega | rfl
        · refine ix_i (by omega) ?_
          intro b7 b7b
          refine hK 48 [some (vR 110 0), some (vI m), some (vI d), some (vI k), some (vR 103 m)] [vI (T 470 m d), vI k] T ?_
          refine j_callS (y := yX10_isBelow) (Yc := zX10_isBelow) (rest := []) [vI k, vI (T 470 m d)] (ct_X10_isBelow (T := T)) cl_X10_115 (qd_c (by decide +kernel)) (nn_ _) rfl (rf_of rfl) (Nat.le_of_ble_eq_true rfl) (Nat.le_of_ble_eq_true rfl) (Nat.le_of_ble_eq_true rfl) rfl ?_
          rintro _ _ ⟨rfl, x8, rfl, hx8⟩
          show J_ zX10_onField T (po_X10_onField_e T m d k) 0 0 51 _ [vI x8] T
          refine j_blx (F := fX10) tb_X10 (nn_ _) bk_X10_onField_e_51 bs_X10_onField_e_51 hz (fun K hK => ?_)
          refine And.intro (fun c9 => ?_) (fun c9 => ?_)
          · replace hx8 := hx8.resolve_right (fun z => c9 z.1)
            clear c9
            refine hK 56 _ [] T ?_
            refine j_blx (F := fX10) tb_X10 (nn_ _) bk_X10_onField_e_56 bs_X10_onField_e_56 hz (fun K hK => ?_)
            refine hK 60 _ [vI k, vI d, vR 103 m] T ?_
            refine j_callV (y := yX3_personAt) (Yc := zX3_personAt) (rest := []) [vI d, vI k] (ct_X3_personAt_e (T := T) (by omega) (by omega)) cl_X10_346 (qd_c (by decide +kernel)) (nn_ _) rfl (rf_of rfl) (Nat.le_of_ble_eq_true rfl) (Nat.le_of_ble_eq_true rfl) (Nat.le_of_ble_eq_true rfl) rfl ?_
            rintro _ _ ⟨rfl, rfl⟩
            show J_ zX10_onField T (po_X10_onField_e T m d k) 0 0 63 _ [vI (T 448 m (T 471 m (d * 6 + k)))] T
            refine j_blx (F := fX10) tb_X10 (nn_ _) bk_X10_onField_e_63 bs_X10_onField_e_63 hz (fun K hK => ?_)
            refine (show po_X10_onField_e T m d k T (some (vI (T 448 m (T 471 m (d * 6 + k))))) from ?_)
            refine ⟨rfl, _, rfl, ?_⟩
            first
            | assumption
            | refine Or.inl ?_
              refine And.intro ?_ ?_
              · first | omega | rfl
              · first | omega | rfl
            | refine Or.inr ?_
              refine And.intro ?_ ?_
              · refine And.intro ?_ ?_
                · first | omega | rfl
                · first | omega | rfl
              · first
                | assumption
                | refine Or.inl ?_
                  refine And.intro ?_ ?_
                  · first | omega | rfl
                  · first | omega | rfl
                | refine Or.inr ?_
                  refine And.intro ?_ ?_
                  · refine And.intro ?_ ?_
                    · first | omega | rfl
                    · first | omega | rfl
                  · first
                    | assumption
                    | refine Or.inl ?_
                      refine And.intro ?_ ?_
                      · first | omega | rfl
                      · first | omega | rfl
                    | refine Or.inr ?_
                      refine And.intro ?_ ?_
                      · first | omega | rfl
                      · refine And.intro ?_ ?_
                        · refine And.intro ?_ ?_
                          · first | omega | rfl
                          · first | omega | rfl
                        · first | omega | rfl
          · replace hx8 := hx8.resolve_left (fun z => absurd (c9.symm.trans z.1) (by decide))
            clear c9
            refine (show po_X10_onField_e T m d k T (some (vI (-1))) from ?_)
            refine ⟨rfl, _, rfl, ?_⟩
            first
            | assumption
            | refine Or.inl ?_
              refine And.intro ?_ ?_
              · first | omega | rfl
              · first | omega | rfl
            | refine Or.inr ?_
              refine And.intro ?_ ?_
              · refine And.intro ?_ ?_
                · first | omega | rfl
                · first | omega | rfl
              · first
                | assumption
                | refine Or.inl ?_
                  refine And.intro ?_ ?_
                  · first | omega | rfl
                  · first | omega | rfl
                | refine Or.inr ?_
                  refine And.intro ?_ ?_
                  · refine And.intro ?_ ?_
                    · first | omega | rfl
                    · first | omega | rfl
                  · first
                    | assumption
                    | refine Or.inl ?_
                      refine And.intro ?_ ?_
                      · first | omega | rfl
                      · first | omega | rfl
                    | refine Or.inr ?_
                      refine And.intro ?_ ?_
                      · first | omega | rfl
                      · refine And.intro ?_ ?_
                        · refine And.intro ?_ ?_
                          · first | omega | rfl
                          · first | omega | rfl
                        · first | omega | rfl
    · replace hx3 := hx3.resolve_left (fun z => absurd (c4.symm.trans z.1) (by decide))
      clear c4
      refine (show po_X10_onField_e T m d k T (some (vI (-3))) from ?_)
      refine ⟨rfl, _, rfl, ?_⟩
      first
      | assumption
      | refine Or.inl ?_
        refine And.intro ?_ ?_
        · first | omega | rfl
        · first | omega | rfl
      | refine Or.inr ?_
        refine And.intro ?_ ?_
        · refine And.intro ?_ ?_
          · first | omega | rfl
          · first | omega | rfl
        · first
          | assumption
          | refine Or.inl ?_
            refine And.intro ?_ ?_
            · first | omega | rfl
            · first | omega | rfl
          | refine Or.inr ?_
            refine And.intro ?_ ?_
            · refine And.intro ?_ ?_
              · first | omega | rfl
              · first | omega | rfl
            · first
              | assumption
              | refine Or.inl ?_
                refine And.intro ?_ ?_
                · first | omega | rfl
                · first | omega | rfl
              | refine Or.inr ?_
                refine And.intro ?_ ?_
                · first | omega | rfl
                · refine And.intro ?_ ?_
                  · refine And.intro ?_ ?_
                    · first | omega | rfl
                    · first | omega | rfl
                  · first | omega | rfl
  · replace hx1 := hx1.resolve_left (fun z => absurd (c2.symm.trans z.1) (by decide))
    clear c2
    refine (show po_X10_onField_e T m d k T (some (vI (-2))) from ?_)
    refine ⟨rfl, _, rfl, ?_⟩
    first
    | assumption
    | refine Or.inl ?_
      refine And.intro ?_ ?_
      · first | omega | rfl
      · first | omega | rfl
    | refine Or.inr ?_
      refine And.intro ?_ ?_
      · refine And.intro ?_ ?_
        · first | omega | rfl
        · first | omega | rfl
      · first
        | assumption
        | refine Or.inl ?_
          refine And.intro ?_ ?_
          · first | omega | rfl
          · first | omega | rfl
        | refine Or.inr ?_
          refine And.intro ?_ ?_
          · refine And.intro ?_ ?_
            · first | omega | rfl
            · first | omega | rfl
          · first
            | assumption
            | refine Or.inl ?_
              refine And.intro ?_ ?_
              · first | omega | rfl
              · first | omega | rfl
            | refine Or.inr ?_
              refine And.intro ?_ ?_
              · first | omega | rfl
              · refine And.intro ?_ ?_
                · refine And.intro ?_ ?_
                  · first | omega | rfl
                  · first | omega | rfl
                · first | omega | rfl
theorem bk_X10_count_e_0 : ck_ fX10 (some .int) cX10_count 0 [.iload 1] 1 = true := qck_r (nn_ _) (by decide +kernel)
theorem bs_X10_count_e_0 {P : Zt → Option Zv → Prop} (K : Int → Zl → List Zv → Zt → Prop) : sx_ K P [.iload 1] 1 = x_iload 1 (K 1) := ((xe_iload 1).trans (congrArg (x_iload 1) xe_nil))
theorem bk_X10_count_e_48 : ck_ fX10 (some .int) cX10_count 48 [.aload 0, .tableswitch 0 10 1 #[], .tableswitch 0 8 2 #[], .ireturn] 56 = true := qck_r (nn_ _) (by decide +kernel)
theorem bs_X10_count_e_48 {P : Zt → Option Zv → Prop} (K : Int → Zl → List Zv → Zt → Prop) : sx_ K P [.aload 0, .tableswitch 0 10 1 #[], .tableswitch 0 8 2 #[], .ireturn] 56 = x_aload 0 (x_g1 110 108 (x_g0 108 2 0 12 (x_ireturn P))) := ((xe_aload 0).trans (congrArg (x_aload 0) ((xe_g1 (kk := 110) rfl tl_10_1).trans (congrArg (x_g1 110 108) ((xe_g0 (kk := 108) rfl tl_8_2).trans (congrArg (x_g0 108 2 0 12) (xe_ireturn)))))))
theorem bk_X10_count_e_56 : ck_ fX10 (some .int) cX10_count 56 [.aload 0, .tableswitch 0 10 1 #[], .tableswitch 0 8 3 #[], .ireturn] 64 = true := qck_r (nn_ _) (by decide +kernel)
theorem bs_X10_count_e_56 {P : Zt → Option Zv → Prop} (K : Int → Zl → List Zv → Zt → Prop) : sx_ K P [.aload 0, .tableswitch 0 10 1 #[], .tableswitch 0 8 3 #[], .ireturn] 64 = x_aload 0 (x_g1 110 108 (x_g0 108 3 0 200 (x_ireturn P))) := ((xe_aload 0).trans (congrArg (x_aload 0) ((xe_g1 (kk := 110) rfl tl_10_1).trans (congrArg (x_g1 110 108) ((xe_g0 (kk := 108) rfl tl_8_3).trans (congrArg (x_g0 108 3 0 200) (xe_ireturn)))))))
theorem bk_X10_count_e_64 : ck_ fX10 (some .int) cX10_count 64 [.aload 0, .tableswitch 0 10 1 #[], .tableswitch 0 8 5 #[], .ireturn] 72 = true := qck_r (nn_ _) (by decide +kernel)
theorem bs_X10_count_e_64 {P : Zt → Option Zv → Prop} (K : Int → Zl → List Zv → Zt → Prop) : sx_ K P [.aload 0, .tableswitch 0 10 1 #[], .tableswitch 0 8 5 #[], .ireturn] 72 = x_aload 0 (x_g1 110 108 (x_g0 108 5 0 300 (x_ireturn P))) := ((xe_aload 0).trans (congrArg (x_aload 0) ((xe_g1 (kk := 110) rfl tl_10_1).trans (congrArg (x_g1 110 108) ((xe_g0 (kk := 108) rfl tl_8_5).trans (congrArg (x_g0 108 5 0 300) (xe_ireturn)))))))
theorem bk_X10_count_e_72 : ck_ fX10 (some .int) cX10_count 72 [.aload 0, .tableswitch 0 10 1 #[], .tableswitch 0 8 12 #[], .ireturn] 80 = true := qck_r (nn_ _) (by decide +kernel)
theorem bs_X10_count_e_72 {P : Zt → Option Zv → Prop} (K : Int → Zl → List Zv → Zt → Prop) : sx_ K P [.aload 0, .tableswitch 0 10 1 #[], .tableswitch 0 8 12 #[], .ireturn] 80 = x_aload 0 (x_g1 110 108 (x_g0 108 12 0 8 (x_ireturn P))) := ((xe_aload 0).trans (congrArg (x_aload 0) ((xe_g1 (kk := 110) rfl tl_10_1).trans (congrArg (x_g1 110 108) ((xe_g0 (kk := 108) rfl tl_8_12).trans (congrArg (x_g0 108 12 0 8) (xe_ireturn)))))))
theorem bk_X10_count_e_80 : ck_ fX10 (some .int) cX10_count 80 [.aload 0, .tableswitch 0 10 2 #[], .tableswitch 0 6 2 #[], .ireturn] 88 = true := qck_r (nn_ _) (by decide +kernel)
theorem bs_X10_count_e_80 {P : Zt → Option Zv → Prop} (K : Int → Zl → List Zv → Zt → Prop) : sx_ K P [.aload 0, .tableswitch 0 10 2 #[], .tableswitch 0 6 2 #[], .ireturn] 88 = x_aload 0 (x_g1 110 106 (x_g0 106 2 0 4 (x_ireturn P))) := ((xe_aload 0).trans (congrArg (x_aload 0) ((xe_g1 (kk := 110) rfl tl_10_2).trans (congrArg (x_g1 110 106) ((xe_g0 (kk := 106) rfl tl_6_2).trans (congrArg (x_g0 106 2 0 4) (xe_ireturn)))))))
theorem bk_X10_count_e_88 : ck_ fX10 (some .int) cX10_count 88 [.aload 0, .tableswitch 0 10 2 #[], .tableswitch 0 6 4 #[], .ireturn] 96 = true := qck_r (nn_ _) (by decide +kernel)
theorem bs_X10_count_e_88 {P : Zt → Option Zv → Prop} (K : Int → Zl → List Zv → Zt → Prop) : sx_ K P [.aload 0, .tableswitch 0 10 2 #[], .tableswitch 0 6 4 #[], .ireturn] 96 = x_aload 0 (x_g1 110 106 (x_g0 106 4 0 400 (x_ireturn P))) := ((xe_aload 0).trans (congrArg (x_aload 0) ((xe_g1 (kk := 110) rfl tl_10_2).trans (congrArg (x_g1 110 106) ((xe_g0 (kk := 106) rfl tl_6_4).trans (congrArg (x_g0 106 4 0 400) (xe_ireturn)))))))
theorem bk_X10_count_e_96 : ck_ fX10 (some .int) cX10_count 96 [.aload 0, .tableswitch 0 10 2 #[], .tableswitch 0 6 5 #[], .ireturn] 104 = true := qck_r (nn_ _) (by decide +kernel)
theorem bs_X10_count_e_96 {P : Zt → Option Zv → Prop} (K : Int → Zl → List Zv → Zt → Prop) : sx_ K P [.aload 0, .tableswitch 0 10 2 #[], .tableswitch 0 6 5 #[], .ireturn] 104 = x_aload 0 (x_g1 110 106 (x_g0 106 5 0 3000 (x_ireturn P))) := ((xe_aload 0).trans (congrArg (x_aload 0) ((xe_g1 (kk := 110) rfl tl_10_2).trans (congrArg (x_g1 110 106) ((xe_g0 (kk := 106) rfl tl_6_5).trans (congrArg (x_g0 106 5 0 3000) (xe_ireturn)))))))
theorem bk_X10_count_e_104 : ck_ fX10 (some .int) cX10_count 104 [.aload 0, .tableswitch 0 10 1 #[], .tableswitch 0 8 13 #[], .ireturn] 112 = true := qck_r (nn_ _) (by decide +kernel)
theorem bs_X10_count_e_104 {P : Zt → Option Zv → Prop} (K : Int → Zl → List Zv → Zt → Prop) : sx_ K P [.aload 0, .tableswitch 0 10 1 #[], .tableswitch 0 8 13 #[], .ireturn] 112 = x_aload 0 (x_g1 110 108 (x_g0 108 13 0 999 (x_ireturn P))) := ((xe_aload 0).trans (congrArg (x_aload 0) ((xe_g1 (kk := 110) rfl tl_10_1).trans (congrArg (x_g1 110 108) ((xe_g0 (kk := 108) rfl tl_8_13).trans (congrArg (x_g0 108 13 0 999) (xe_ireturn)))))))
theorem bk_X10_count_e_112 : ck_ fX10 (some .int) cX10_count 112 [.iconst (-3), .ireturn] 115 = true := qck_r (nn_ _) (by decide +kernel)
theorem bs_X10_count_e_112 {P : Zt → Option Zv → Prop} (K : Int → Zl → List Zv → Zt → Prop) : sx_ K P [.iconst (-3), .ireturn] 115 = x_iconst (-3) (x_ireturn P) := ((xe_iconst (-3)).trans (congrArg (x_iconst (-3)) (xe_ireturn)))
abbrev po_X10_count_e (T : Zt) (w : Int) : Zt → Option Zv → Prop := fun T' r => T = T' ∧ ∃ x : Int, r = some (vI x) ∧ ((w = 0 ∧ x = T 108 0 2) ∨ (w = 1 ∧ x = T 108 0 3) ∨ (w = 2 ∧ x = T 108 0 5) ∨ (w = 3 ∧ x = T 108 0 12) ∨ (w = 4 ∧ x = T 106 0 2) ∨ (w = 5 ∧ x = T 106 0 4) ∨ (w = 6 ∧ x = T 106 0 5) ∨ (w = 7 ∧ x = T 108 0 13) ∨ (¬ (0 ≤ w ∧ w ≤ 7) ∧ x = -3))
set_option maxHeartbeats 4000000 in
theorem ct_X10_count_e {T : Zt} {w : Int} : Ct_ yX10_count zX10_count T [vR 110 0, vI w] (po_X10_count_e T w) := by
  refine ct_of pn_10 rfl rfl (Nat.le_of_ble_eq_true rfl) (fun hT hav => ?_)
  have hr_w : -2147483648 ≤ w ∧ w ≤ 2147483647 := hav (vI w) (List.mem_cons_of_mem _ List.mem_cons_self)
  have hz : zX10_count.2.2.2.1 = some .boolean → ∀ (T' : Zt) (x : Int), po_X10_count_e T w T' (some (vI x)) → 0 ≤ x ∧ x ≤ 1 := fun h => by cases h
  show J_ zX10_count T (po_X10_count_e T w) 0 0 0 [some (vR 110 0), some (vI w)] [] T
  refine j_blx (F := fX10) tb_X10 (nn_ _) bk_X10_count_e_0 bs_X10_count_e_0 hz (fun K hK => ?_)
  refine hK 1 _ [vI w] T ?_
  by_cases z1_0 : w = 0
  · refine j_tsI (pc := 1) 0 (off := 47) (tgt := 48) (by decide) ds_X10_count_1 (by omega) (by decide) rfl (by decide) (by decide) ?_
    refine j_blx (F := fX10) tb_X10 (nn_ _) bk_X10_count_e_48 bs_X10_count_e_48 hz (fun K hK => ?_)
    intro b2 b2b
    refine (show po_X10_count_e T w T (some (vI (T 108 0 2))) from ?_)
    refine ⟨rfl, _, rfl, ?_⟩
    first
    | assumption
    | refine Or.inl ?_
      refine And.intro ?_ ?_
      · first | omega | rfl
      · first | omega | rfl
    | refine Or.inr ?_
      first
      | assumption
      | refine Or.inl ?_
        refine And.intro ?_ ?_
        · first | omega | rfl
        · first | omega | rfl
      | refine Or.inr ?_
        first
        | assumption
        | refine Or.inl ?_
          refine And.intro ?_ ?_
          · first | omega | rfl
          · first | omega | rfl
        | refine Or.inr ?_
          first
          | assumption
          | refine Or.inl ?_
            refine And.intro ?_ ?_
            · first | omega | rfl
            · first | omega | rfl
          | refine Or.inr ?_
            first
            | assumption
            | refine Or.inl ?_
              refine And.intro ?_ ?_
              · first | omega | rfl
              · first | omega | rfl
            | refine Or.inr ?_
              first
              | assumption
              | refine Or.inl ?_
                refine And.intro ?_ ?_
                · first | omega | rfl
                · first | omega | rfl
              | refine Or.inr ?_
                first
                | assumption
                | refine Or.inl ?_
                  refine And.intro ?_ ?_
                  · first | omega | rfl
                  · first | omega | rfl
                | refine Or.inr ?_
                  first
                  | assumption
                  | refine Or.inl ?_
                    refine And.intro ?_ ?_
                    · first | omega | rfl
                    · first | omega | rfl
                  | refine Or.inr ?_
                    refine And.intro ?_ ?_
                    · first | omega | rfl
                    · first | omega | rfl
  by_cases z1_1 : w = 1
  · refine j_tsI (pc := 1) 1 (off := 55) (tgt := 56) (by decide) ds_X10_count_1 (by omega) (by decide) rfl (by decide) (by decide) ?_
    refine j_blx (F := fX10) tb_X10 (nn_ _) bk_X10_count_e_56 bs_X10_count_e_56 hz (fun K hK => ?_)
    intro b3 b3b
    refine (show po_X10_count_e T w T (some (vI (T 108 0 3))) from ?_)
    refine ⟨rfl, _, rfl, ?_⟩
    first
    | assumption
    | refine Or.inl ?_
      refine And.intro ?_ ?_
      · first | omega | rfl
      · first | omega | rfl
    | refine Or.inr ?_
      first
      | assumption
      | refine Or.inl ?_
        refine And.intro ?_ ?_
        · first | omega | rfl
        · first | omega | rfl
      | refine Or.inr ?_
        first
        | assumption
        | refine Or.inl ?_
          refine And.intro ?_ ?_
          · first | omega | rfl
          · first | omega | rfl
        | refine Or.inr ?_
          first
          | assumption
          | refine Or.inl ?_
            refine And.intro ?_ ?_
            · first | omega | rfl
            · first | omega | rfl
          | refine Or.inr ?_
            first
            | assumption
            | refine Or.inl ?_
              refine And.intro ?_ ?_
              · first | omega | rfl
              · first | omega | rfl
            | refine Or.inr ?_
              first
              | assumption
              | refine Or.inl ?_
                refine And.intro ?_ ?_
                · first | omega | rfl
                · first | omega | rfl
              | refine Or.inr ?_
                first
                | assumption
                | refine Or.inl ?_
                  refine And.intro ?_ ?_
                  · first | omega | rfl
                  · first | omega | rfl
                | refine Or.inr ?_
                  first
                  | assumption
                  | refine Or.inl ?_
                    refine And.intro ?_ ?_
                    · first | omega | rfl
                    · first | omega | rfl
                  | refine Or.inr ?_
                    refine And.intro ?_ ?_
                    · first | omega | rfl
                    · first | omega | rfl
  by_cases z1_2 : w = 2
  · refine j_tsI (pc := 1) 2 (off := 63) (tgt := 64) (by decide) ds_X10_count_1 (by omega) (by decide) rfl (by decide) (by decide) ?_
    refine j_blx (F := fX10) tb_X10 (nn_ _) bk_X10_count_e_64 bs_X10_count_e_64 hz (fun K hK => ?_)
    intro b4 b4b
    refine (show po_X10_count_e T w T (some (vI (T 108 0 5))) from ?_)
    refine ⟨rfl, _, rfl, ?_⟩
    first
    | assumption
    | refine Or.inl ?_
      refine And.intro ?_ ?_
      · first | omega | rfl
      · first | omega | rfl
    | refine Or.inr ?_
      first
      | assumption
      | refine Or.inl ?_
        refine And.intro ?_ ?_
        · first | omega | rfl
        · first | omega | rfl
      | refine Or.inr ?_
        first
        | assumption
        | refine Or.inl ?_
          refine And.intro ?_ ?_
          · first | omega | rfl
          · first | omega | rfl
        | refine Or.inr ?_
          first
          | assumption
          | refine Or.inl ?_
            refine And.intro ?_ ?_
            · first | omega | rfl
            · first | omega | rfl
          | refine Or.inr ?_
            first
            | assumption
            | refine Or.inl ?_
              refine And.intro ?_ ?_
              · first | omega | rfl
              · first | omega | rfl
            | refine Or.inr ?_
              first
              | assumption
              | refine Or.inl ?_
                refine And.intro ?_ ?_
                · first | omega | rfl
                · first | omega | rfl
              | refine Or.inr ?_
                first
                | assumption
                | refine Or.inl ?_
                  refine And.intro ?_ ?_
                  · first | omega | rfl
                  · first | omega | rfl
                | refine Or.inr ?_
                  first
                  | assumption
                  | refine Or.inl ?_
                    refine And.intro ?_ ?_
                    · first | omega | rfl
                    · first | omega | rfl
                  | refine Or.inr ?_
                    refine And.intro ?_ ?_
                    · first | omega | rfl
                    · first | omega | rfl
  by_cases z1_3 : w = 3
  · refine j_tsI (pc := 1) 3 (off := 71) (tgt := 72) (by decide) ds_X10_count_1 (by omega) (by decide) rfl (by decide) (by decide) ?_
    refine j_blx (F := fX10) tb_X10 (nn_ _) bk_X10_count_e_72 bs_X10_count_e_72 hz (fun K hK => ?_)
    intro b5 b5b
    refine (show po_X10_count_e T w T (some (vI (T 108 0 12))) from ?_)
    refine ⟨rfl, _, rfl, ?_⟩
    first
    | assumption
    | refine Or.inl ?_
      refine And.intro ?_ ?_
      · first | omega | rfl
      · first | omega | rfl
    | refine Or.inr ?_
      first
      | assumption
      | refine Or.inl ?_
        refine And.intro ?_ ?_
        · first | omega | rfl
        · first | omega | rfl
      | refine Or.inr ?_
        first
        | assumption
        | refine Or.inl ?_
          refine And.intro ?_ ?_
          · first | omega | rfl
          · first | omega | rfl
        | refine Or.inr ?_
          first
          | assumption
          | refine Or.inl ?_
            refine And.intro ?_ ?_
            · first | omega | rfl
            · first | omega | rfl
          | refine Or.inr ?_
            first
            | assumption
            | refine Or.inl ?_
              refine And.intro ?_ ?_
              · first | omega | rfl
              · first | omega | rfl
            | refine Or.inr ?_
              first
              | assumption
              | refine Or.inl ?_
                refine And.intro ?_ ?_
                · first | omega | rfl
                · first | omega | rfl
              | refine Or.inr ?_
                first
                | assumption
                | refine Or.inl ?_
                  refine And.intro ?_ ?_
                  · first | omega | rfl
                  · first | omega | rfl
                | refine Or.inr ?_
                  first
                  | assumption
                  | refine Or.inl ?_
                    refine And.intro ?_ ?_
                    · first | omega | rfl
                    · first | omega | rfl
                  | refine Or.inr ?_
                    refine And.intro ?_ ?_
                    · first | omega | rfl
                    · first | omega | rfl
  by_cases z1_4 : w = 4
  · refine j_tsI (pc := 1) 4 (off := 79) (tgt := 80) (by decide) ds_X10_count_1 (by omega) (by decide) rfl (by decide) (by decide) ?_
    refine j_blx (F := fX10) tb_X10 (nn_ _) bk_X10_count_e_80 bs_X10_count_e_80 hz (fun K hK => ?_)
    intro b6 b6b
    refine (show po_X10_count_e T w T (some (vI (T 106 0 2))) from ?_)
    refine ⟨rfl, _, rfl, ?_⟩
    first
    | assumption
    | refine Or.inl ?_
      refine And.intro ?_ ?_
      · first | omega | rfl
      · first | omega | rfl
    | refine Or.inr ?_
      first
      | assumption
      | refine Or.inl ?_
        refine And.intro ?_ ?_
        · first | omega | rfl
        · first | omega | rfl
      | refine Or.inr ?_
        first
        | assumption
        | refine Or.inl ?_
          refine And.intro ?_ ?_
          · first | omega | rfl
          · first | omega | rfl
        | refine Or.inr ?_
          first
          | assumption
          | refine Or.inl ?_
            refine And.intro ?_ ?_
            · first | omega | rfl
            · first | omega | rfl
          | refine Or.inr ?_
            first
            | assumption
            | refine Or.inl ?_
              refine And.intro ?_ ?_
              · first | omega | rfl
              · first | omega | rfl
            | refine Or.inr ?_
              first
              | assumption
              | refine Or.inl ?_
                refine And.intro ?_ ?_
                · first | omega | rfl
                · first | omega | rfl
              | refine Or.inr ?_
                first
                | assumption
                | refine Or.inl ?_
                  refine And.intro ?_ ?_
                  · first | omega | rfl
                  · first | omega | rfl
                | refine Or.inr ?_
                  first
                  | assumption
                  | refine Or.inl ?_
                    refine And.intro ?_ ?_
                    · first | omega | rfl
                    · first | omega | rfl
                  | refine Or.inr ?_
                    refine And.intro ?_ ?_
                    · first | omega | rfl
                    · first | omega | rfl
  by_cases z1_5 : w = 5
  · refine j_tsI (pc := 1) 5 (off := 87) (tgt := 88) (by decide) ds_X10_count_1 (by omega) (by decide) rfl (by decide) (by decide) ?_
    refine j_blx (F := fX10) tb_X10 (nn_ _) bk_X10_count_e_88 bs_X10_count_e_88 hz (fun K hK => ?_)
    intro b7 b7b
    refine (show po_X10_count_e T w T (some (vI (T 106 0 4))) from ?_)
    refine ⟨rfl, _, rfl, ?_⟩
    first
    | assumption
    | refine Or.inl ?_
      refine And.intro ?_ ?_
      · first | omega | rfl
      · first | omega | rfl
    | refine Or.inr ?_
      first
      | assumption
      | refine Or.inl ?_
        refine And.intro ?_ ?_
        · first | omega | rfl
        · first | omega | rfl
      | refine Or.inr ?_
        first
        | assumption
        | refine Or.inl ?_
          refine And.intro ?_ ?_
          · first | omega | rfl
          · first | omega | rfl
        | refine Or.inr ?_
          first
          | assumption
          | refine Or.inl ?_
            refine And.intro ?_ ?_
            · first | omega | rfl
            · first | omega | rfl
          | refine Or.inr ?_
            first
            | assumption
            | refine Or.inl ?_
              refine And.intro ?_ ?_
              · first | omega | rfl
              · first | omega | rfl
            | refine Or.inr ?_
              first
              | assumption
              | refine Or.inl ?_
                refine And.intro ?_ ?_
                · first | omega | rfl
                · first | omega | rfl
              | refine Or.inr ?_
                first
                | assumption
                | refine Or.inl ?_
                  refine And.intro ?_ ?_
                  · first | omega | rfl
                  · first | omega | rfl
                | refine Or.inr ?_
                  first
                  | assumption
                  | refine Or.inl ?_
                    refine And.intro ?_ ?_
                    · first | omega | rfl
                    · first | omega | rfl
                  | refine Or.inr ?_
                    refine And.intro ?_ ?_
                    · first | omega | rfl
                    · first | omega | rfl
  by_cases z1_6 : w = 6
  · refine j_tsI (pc := 1) 6 (off := 95) (tgt := 96) (by decide) ds_X10_count_1 (by omega) (by decide) rfl (by decide) (by decide) ?_
    refine j_blx (F := fX10) tb_X10 (nn_ _) bk_X10_count_e_96 bs_X10_count_e_96 hz (fun K hK => ?_)
    intro b8 b8b
    refine (show po_X10_count_e T w T (some (vI (T 106 0 5))) from ?_)
    refine ⟨rfl, _, rfl, ?_⟩
    first
    | assumption
    | refine Or.inl ?_
      refine And.intro ?_ ?_
      · first | omega | rfl
      · first | omega | rfl
    | refine Or.inr ?_
      first
      | assumption
      | refine Or.inl ?_
        refine And.intro ?_ ?_
        · first | omega | rfl
        · first | omega | rfl
      | refine Or.inr ?_
        first
        | assumption
        | refine Or.inl ?_
          refine And.intro ?_ ?_
          · first | omega | rfl
          · first | omega | rfl
        | refine Or.inr ?_
          first
          | assumption
          | refine Or.inl ?_
            refine And.intro ?_ ?_
            · first | omega | rfl
            · first | omega | rfl
          | refine Or.inr ?_
            first
            | assumption
            | refine Or.inl ?_
              refine And.intro ?_ ?_
              · first | omega | rfl
              · first | omega | rfl
            | refine Or.inr ?_
              first
              | assumption
              | refine Or.inl ?_
                refine And.intro ?_ ?_
                · first | omega | rfl
                · first | omega | rfl
              | refine Or.inr ?_
                first
                | assumption
                | refine Or.inl ?_
                  refine And.intro ?_ ?_
                  · first | omega | rfl
                  · first | omega | rfl
                | refine Or.inr ?_
                  first
                  | assumption
                  | refine Or.inl ?_
                    refine And.intro ?_ ?_
                    · first | omega | rfl
                    · first | omega | rfl
                  | refine Or.inr ?_
                    refine And.intro ?_ ?_
                    · first | omega | rfl
                    · first | omega | rfl
  by_cases z1_7 : w = 7
  · refine j_tsI (pc := 1) 7 (off := 103) (tgt := 104) (by decide) ds_X10_count_1 (by omega) (by decide) rfl (by decide) (by decide) ?_
    refine j_blx (F := fX10) tb_X10 (nn_ _) bk_X10_count_e_104 bs_X10_count_e_104 hz (fun K hK => ?_)
    intro b9 b9b
    refine (show po_X10_count_e T w T (some (vI (T 108 0 13))) from ?_)
    refine ⟨rfl, _, rfl, ?_⟩
    first
    | assumption
    | refine Or.inl ?_
      refine And.intro ?_ ?_
      · first | omega | rfl
      · first | omega | rfl
    | refine Or.inr ?_
      first
      | assumption
      | refine Or.inl ?_
        refine And.intro ?_ ?_
        · first | omega | rfl
        · first | omega | rfl
      | refine Or.inr ?_
        first
        | assumption
        | refine Or.inl ?_
          refine And.intro ?_ ?_
          · first | omega | rfl
          · first | omega | rfl
        | refine Or.inr ?_
          first
          | assumption
          | refine Or.inl ?_
            refine And.intro ?_ ?_
            · first | omega | rfl
            · first | omega | rfl
          | refine Or.inr ?_
            first
            | assumption
            | refine Or.inl ?_
              refine And.intro ?_ ?_
              · first | omega | rfl
              · first | omega | rfl
            | refine Or.inr ?_
              first
              | assumption
              | refine Or.inl ?_
                refine And.intro ?_ ?_
                · first | omega | rfl
                · first | omega | rfl
              | refine Or.inr ?_
                first
                | assumption
                | refine Or.inl ?_
                  refine And.intro ?_ ?_
                  · first | omega | rfl
                  · first | omega | rfl
                | refine Or.inr ?_
                  first
                  | assumption
                  | refine Or.inl ?_
                    refine And.intro ?_ ?_
                    · first | omega | rfl
                    · first | omega | rfl
                  | refine Or.inr ?_
                    refine And.intro ?_ ?_
                    · first | omega | rfl
                    · first | omega | rfl
  refine j_tsO (pc := 1) (tgt := 112) (by decide) ds_X10_count_1 (by omega) (by decide) (by decide) ?_
  refine j_blx (F := fX10) tb_X10 (nn_ _) bk_X10_count_e_112 bs_X10_count_e_112 hz (fun K hK => ?_)
  refine (show po_X10_count_e T w T (some (vI (-3))) from ?_)
  refine ⟨rfl, _, rfl, ?_⟩
  first
  | assumption
  | refine Or.inl ?_
    refine And.intro ?_ ?_
    · first | omega | rfl
    · first | omega | rfl
  | refine Or.inr ?_
    first
    | assumption
    | refine Or.inl ?_
      refine And.intro ?_ ?_
      · first | omega | rfl
      · first | omega | rfl
    | refine Or.inr ?_
      first
      | assumption
      | refine Or.inl ?_
        refine And.intro ?_ ?_
        · first | omega | rfl
        · first | omega | rfl
      | refine Or.inr ?_
        first
        | assumption
        | refine Or.inl ?_
          refine And.intro ?_ ?_
          · first | omega | rfl
          · first | omega | rfl
        | refine Or.inr ?_
          first
          | assumption
          | refine Or.inl ?_
            refine And.intro ?_ ?_
            · first | omega | rfl
            · first | omega | rfl
          | refine Or.inr ?_
            first
            | assumption
            | refine Or.inl ?_
              refine And.intro ?_ ?_
              · first | omega | rfl
              · first | omega | rfl
            | refine Or.inr ?_
              first
              | assumption
              | refine Or.inl ?_
                refine And.intro ?_ ?_
                · first | omega | rfl
                · first | omega | rfl
              | refine Or.inr ?_
                first
                | assumption
                | refine Or.inl ?_
                  refine And.intro ?_ ?_
                  · first | omega | rfl
                  · first | omega | rfl
                | refine Or.inr ?_
                  refine And.intro ?_ ?_
                  · first | omega | rfl
                  · first | omega | rfl
theorem bk_X10_moved_e_0 : ck_ fX10 (some .int) cX10_moved 0 [.iload 1, .aload 0, .tableswitch 0 10 2 #[], .tableswitch 0 6 12 #[]] 8 = true := qck_r (nn_ _) (by decide +kernel)
theorem bs_X10_moved_e_0 {P : Zt → Option Zv → Prop} (K : Int → Zl → List Zv → Zt → Prop) : sx_ K P [.iload 1, .aload 0, .tableswitch 0 10 2 #[], .tableswitch 0 6 12 #[]] 8 = x_iload 1 (x_aload 0 (x_g1 110 106 (x_g0 106 12 0 400 (K 8)))) := ((xe_iload 1).trans (congrArg (x_iload 1) ((xe_aload 0).trans (congrArg (x_aload 0) ((xe_g1 (kk := 110) rfl tl_10_2).trans (congrArg (x_g1 110 106) ((xe_g0 (kk := 106) rfl tl_6_12).trans (congrArg (x_g0 106 12 0 400) xe_nil))))))))
theorem bk_X10_moved_e_11 : ck_ fX10 (some .int) cX10_moved 11 [.ifCond .eq 26, .aload 0, .tableswitch 0 10 2 #[], .tableswitch 0 6 11 #[], .iload 1, .iaload, .goto 27] 26 = true := qck_r (nn_ _) (by decide +kernel)
theorem bs_X10_moved_e_11 {P : Zt → Option Zv → Prop} (K : Int → Zl → List Zv → Zt → Prop) : sx_ K P [.ifCond .eq 26, .aload 0, .tableswitch 0 10 2 #[], .tableswitch 0 6 11 #[], .iload 1, .iaload, .goto 27] 26 = x_ifCond .eq 26 K (x_aload 0 (x_g1 110 106 (x_g1 106 531 (x_iload 1 (x_iaload (x_goto 27 K)))))) := ((xe_ifCond .eq 26).trans (congrArg (x_ifCond .eq 26 K) ((xe_aload 0).trans (congrArg (x_aload 0) ((xe_g1 (kk := 110) rfl tl_10_2).trans (congrArg (x_g1 110 106) ((xe_g1 (kk := 106) rfl tl_6_11).trans (congrArg (x_g1 106 531) ((xe_iload 1).trans (congrArg (x_iload 1) ((xe_iaload).trans (congrArg (x_iaload) (xe_goto 27)))))))))))))
theorem bk_X10_moved_e_26 : ck_ fX10 (some .int) cX10_moved 26 [.iconst (-1), .ireturn] 28 = true := qck_r (nn_ _) (by decide +kernel)
theorem bs_X10_moved_e_26 {P : Zt → Option Zv → Prop} (K : Int → Zl → List Zv → Zt → Prop) : sx_ K P [.iconst (-1), .ireturn] 28 = x_iconst (-1) (x_ireturn P) := ((xe_iconst (-1)).trans (congrArg (x_iconst (-1)) (xe_ireturn)))
theorem bk_X10_moved_e_27 : ck_ fX10 (some .int) cX10_moved 27 [.ireturn] 28 = true := qck_r (nn_ _) (by decide +kernel)
theorem bs_X10_moved_e_27 {P : Zt → Option Zv → Prop} (K : Int → Zl → List Zv → Zt → Prop) : sx_ K P [.ireturn] 28 = x_ireturn P := (xe_ireturn)
abbrev po_X10_moved_e (T : Zt) (k : Int) : Zt → Option Zv → Prop := fun T' r => T = T' ∧ ∃ x : Int, r = some (vI x) ∧ ((0 ≤ k ∧ k < T 106 0 12 ∧ x = T 531 0 k) ∨ (¬ (0 ≤ k ∧ k < T 106 0 12) ∧ x = -1))
set_option maxHeartbeats 4000000 in
theorem ct_X10_moved_e {T : Zt} {k : Int} : Ct_ yX10_moved zX10_moved T [vR 110 0, vI k] (po_X10_moved_e T k) := by
  refine ct_of pn_10 rfl rfl (Nat.le_of_ble_eq_true rfl) (fun hT hav => ?_)
  have hr_k : -2147483648 ≤ k ∧ k ≤ 2147483647 := hav (vI k) (List.mem_cons_of_mem _ List.mem_cons_self)
  have hz : zX10_moved.2.2.2.1 = some .boolean → ∀ (T' : Zt) (x : Int), po_X10_moved_e T k T' (some (vI x)) → 0 ≤ x ∧ x ≤ 1 := fun h => by cases h
  have hb_movedCount : 0 ≤ T 106 0 12 ∧ T 106 0 12 ≤ 400 := bd_f hT 106 12 tl_6_12 0
  show J_ zX10_moved T (po_X10_moved_e T k) 0 0 0 [some (vR 110 0), some (vI k)] [] T
  refine j_blx (F := fX10) tb_X10 (nn_ _) bk_X10_moved_e_0 bs_X10_moved_e_0 hz (fun K hK => ?_)
  intro b1 b1b
  refine hK 8 _ [vI (T 106 0 12), vI k] T ?_
  refine j_callS (y := yX10_isBelow) (Yc := zX10_isBelow) (rest := []) [vI k, vI (T 106 0 12)] (ct_X10_isBelow (T := T)) cl_X10_115 (qd_c (by decide +kernel)) (nn_ _) rfl (rf_of rfl) (Nat.le_of_ble_eq_true rfl) (Nat.le_of_ble_eq_true rfl) (Nat.le_of_ble_eq_true rfl) rfl ?_
  rintro _ _ ⟨rfl, x2, rfl, hx2⟩
  show J_ zX10_moved T (po_X10_moved_e T k) 0 0 11 _ [vI x2] T
  refine j_blx (F := fX10) tb_X10 (nn_ _) bk_X10_moved_e_11 bs_X10_moved_e_11 hz (fun K hK => ?_)
  refine And.intro (fun c3 => ?_) (fun c3 => ?_)
  · replace hx2 := hx2.resolve_left (fun z => absurd (c3.symm.trans z.1) (by decide))
    clear c3
    refine hK 26 _ [] T ?_
    refine j_blx (F := fX10) tb_X10 (nn_ _) bk_X10_moved_e_26 bs_X10_moved_e_26 hz (fun K hK => ?_)
    refine (show po_X10_moved_e T k T (some (vI (-1))) from ?_)
    exact ⟨rfl, _, rfl, by omega⟩
  · replace hx2 := hx2.resolve_right (fun z => c3 z.1)
    clear c3
    refine ix_i (by omega) ?_
    intro b4 b4b
    refine hK 27 _ [vI (T 531 0 k)] T ?_
    refine j_blx (F := fX10) tb_X10 (nn_ _) bk_X10_moved_e_27 bs_X10_moved_e_27 hz (fun K hK => ?_)
    refine (show po_X10_moved_e T k T (some (vI (T 531 0 k))) from ?_)
    exact ⟨rfl, _, rfl, by omega⟩
theorem bk_X10_walkOver_e_0 : ck_ fX10 (some .int) cX10_walkOver 0 [.aload 0, .iload 1] 2 = true := qck_r (nn_ _) (by decide +kernel)
theorem bs_X10_walkOver_e_0 {P : Zt → Option Zv → Prop} (K : Int → Zl → List Zv → Zt → Prop) : sx_ K P [.aload 0, .iload 1] 2 = x_aload 0 (x_iload 1 (K 2)) := ((xe_aload 0).trans (congrArg (x_aload 0) ((xe_iload 1).trans (congrArg (x_iload 1) xe_nil))))
theorem bk_X10_walkOver_e_5 : ck_ fX10 (some .int) cX10_walkOver 5 [.ifCond .ne 11, .iconst (-2), .ireturn] 11 = true := qck_r (nn_ _) (by decide +kernel)
theorem bs_X10_walkOver_e_5 {P : Zt → Option Zv → Prop} (K : Int → Zl → List Zv → Zt → Prop) : sx_ K P [.ifCond .ne 11, .iconst (-2), .ireturn] 11 = x_ifCond .ne 11 K (x_iconst (-2) (x_ireturn P)) := ((xe_ifCond .ne 11).trans (congrArg (x_ifCond .ne 11 K) ((xe_iconst (-2)).trans (congrArg (x_iconst (-2)) (xe_ireturn)))))
theorem bk_X10_walkOver_e_11 : ck_ fX10 (some .int) cX10_walkOver 11 [.iload 2] 12 = true := qck_r (nn_ _) (by decide +kernel)
theorem bs_X10_walkOver_e_11 {P : Zt → Option Zv → Prop} (K : Int → Zl → List Zv → Zt → Prop) : sx_ K P [.iload 2] 12 = x_iload 2 (K 12) := ((xe_iload 2).trans (congrArg (x_iload 2) xe_nil))
theorem bk_X10_walkOver_e_15 : ck_ fX10 (some .int) cX10_walkOver 15 [.ifCond .ne 21, .iconst (-3), .ireturn] 21 = true := qck_r (nn_ _) (by decide +kernel)
theorem bs_X10_walkOver_e_15 {P : Zt → Option Zv → Prop} (K : Int → Zl → List Zv → Zt → Prop) : sx_ K P [.ifCond .ne 21, .iconst (-3), .ireturn] 21 = x_ifCond .ne 21 K (x_iconst (-3) (x_ireturn P)) := ((xe_ifCond .ne 21).trans (congrArg (x_ifCond .ne 21 K) ((xe_iconst (-3)).trans (congrArg (x_iconst (-3)) (xe_ireturn)))))
theorem bk_X10_walkOver_e_21 : ck_ fX10 (some .int) cX10_walkOver 21 [.aload 0, .tableswitch 0 10 2 #[], .tableswitch 0 6 3 #[], .iload 1, .aaload, .astore 3, .aload 3] 32 = true := qck_r (nn_ _) (by decide +kernel)
theorem bs_X10_walkOver_e_21 {P : Zt → Option Zv → Prop} (K : Int → Zl → List Zv → Zt → Prop) : sx_ K P [.aload 0, .tableswitch 0 10 2 #[], .tableswitch 0 6 3 #[], .iload 1, .aaload, .astore 3, .aload 3] 32 = x_aload 0 (x_g1 110 106 (x_g1 106 523 (x_iload 1 (x_aaload (x_astore 3 (x_aload 3 (K 32))))))) := ((xe_aload 0).trans (congrArg (x_aload 0) ((xe_g1 (kk := 110) rfl tl_10_2).trans (congrArg (x_g1 110 106) ((xe_g1 (kk := 106) rfl tl_6_3).trans (congrArg (x_g1 106 523) ((xe_iload 1).trans (congrArg (x_iload 1) ((xe_aaload).trans (congrArg (x_aaload) ((xe_astore 3).trans (congrArg (x_astore 3) ((xe_aload 3).trans (congrArg (x_aload 3) xe_nil))))))))))))))
theorem bk_X10_walkOver_e_35 : ck_ fX10 (some .int) cX10_walkOver 35 [.ifCond .ne 52, .aload 3, .tableswitch 0 2 5 #[], .aload 0, .tableswitch 0 10 1 #[], .tableswitch 0 8 13 #[], .if_icmp .le 55, .iconst (-4), .ireturn] 55 = true := qck_r (nn_ _) (by decide +kernel)
theorem bs_X10_walkOver_e_35 {P : Zt → Option Zv → Prop} (K : Int → Zl → List Zv → Zt → Prop) : sx_ K P [.ifCond .ne 52, .aload 3, .tableswitch 0 2 5 #[], .aload 0, .tableswitch 0 10 1 #[], .tableswitch 0 8 13 #[], .if_icmp .le 55, .iconst (-4), .ireturn] 55 = x_ifCond .ne 52 K (x_aload 3 (x_g0 102 5 0 999 (x_aload 0 (x_g1 110 108 (x_g0 108 13 0 999 (x_if_icmp .le 55 K (x_iconst (-4) (x_ireturn P)))))))) := ((xe_ifCond .ne 52).trans (congrArg (x_ifCond .ne 52 K) ((xe_aload 3).trans (congrArg (x_aload 3) ((xe_g0 (kk := 102) rfl tl_2_5).trans (congrArg (x_g0 102 5 0 999) ((xe_aload 0).trans (congrArg (x_aload 0) ((xe_g1 (kk := 110) rfl tl_10_1).trans (congrArg (x_g1 110 108) ((xe_g0 (kk := 108) rfl tl_8_13).trans (congrArg (x_g0 108 13 0 999) ((xe_if_icmp .le 55).trans (congrArg (x_if_icmp .le 55 K) ((xe_iconst (-4)).trans (congrArg (x_iconst (-4)) (xe_ireturn)))))))))))))))))
theorem bk_X10_walkOver_e_52 : ck_ fX10 (some .int) cX10_walkOver 52 [.iconst (-4), .ireturn] 55 = true := qck_r (nn_ _) (by decide +kernel)
theorem bs_X10_walkOver_e_52 {P : Zt → Option Zv → Prop} (K : Int → Zl → List Zv → Zt → Prop) : sx_ K P [.iconst (-4), .ireturn] 55 = x_iconst (-4) (x_ireturn P) := ((xe_iconst (-4)).trans (congrArg (x_iconst (-4)) (xe_ireturn)))
theorem bk_X10_walkOver_e_55 : ck_ fX10 (some .int) cX10_walkOver 55 [.aload 3, .iload 2, .tableswitch 1 2 6 #[], .iconst 1, .ireturn] 62 = true := qck_r (nn_ _) (by decide +kernel)
theorem bs_X10_walkOver_e_55 {P : Zt → Option Zv → Prop} (K : Int → Zl → List Zv → Zt → Prop) : sx_ K P [.aload 3, .iload 2, .tableswitch 1 2 6 #[], .iconst 1, .ireturn] 62 = x_aload 3 (x_iload 2 (x_p 102 6 (-1) 1 (x_iconst 1 (x_ireturn P)))) := ((xe_aload 3).trans (congrArg (x_aload 3) ((xe_iload 2).trans (congrArg (x_iload 2) ((xe_p (kk := 102) rfl tl_2_6).trans (congrArg (x_p 102 6 (-1) 1) ((xe_iconst 1).trans (congrArg (x_iconst 1) (xe_ireturn)))))))))
abbrev po_X10_walkOver_e (T : Zt) (m d : Int) : Zt → Option Zv → Prop := fun T' r => ∃ x : Int, r = some (vI x) ∧ fr_ [(102, [6])] T T' ∧ ((x = -2 ∧ ¬ (0 ≤ m ∧ m < T 106 0 4) ∧ T = T') ∨ ((0 ≤ m ∧ m < T 106 0 4) ∧ ((x = -3 ∧ ¬ (0 ≤ d ∧ d ≤ 1) ∧ T = T') ∨ ((0 ≤ d ∧ d ≤ 1) ∧ ((x = -4 ∧ ¬ ((T 102 m 6 = -1 ∧ T 102 m 10 = 0) ∧ T 102 m 5 ≤ T 108 0 13) ∧ T = T') ∨ (x = 1 ∧ ((T 102 m 6 = -1 ∧ T 102 m 10 = 0) ∧ T 102 m 5 ≤ T 108 0 13) ∧ T' = up_ T 102 m 6 d))))))
set_option maxHeartbeats 4000000 in
theorem ct_X10_walkOver_e {T : Zt} {m d : Int} (hka : KA_ T) : Ct_ yX10_walkOver zX10_walkOver T [vR 110 0, vI m, vI d] (po_X10_walkOver_e T m d) := by
  refine ct_of pn_10 rfl rfl (Nat.le_of_ble_eq_true rfl) (fun hT hav => ?_)
  have hr_m : -2147483648 ≤ m ∧ m ≤ 2147483647 := hav (vI m) (List.mem_cons_of_mem _ List.mem_cons_self)
  have hr_d : -2147483648 ≤ d ∧ d ≤ 2147483647 := hav (vI d) (List.mem_cons_of_mem _ (List.mem_cons_of_mem _ List.mem_cons_self))
  have hz : zX10_walkOver.2.2.2.1 = some .boolean → ∀ (T' : Zt) (x : Int), po_X10_walkOver_e T m d T' (some (vI x)) → 0 ≤ x ∧ x ≤ 1 := fun h => by cases h
  have hb_matchCount : 0 ≤ T 106 0 4 ∧ T 106 0 4 ≤ 400 := bd_f hT 106 4 tl_6_4 0
  show J_ zX10_walkOver T (po_X10_walkOver_e T m d) 0 0 0 [some (vR 110 0), some (vI m), some (vI d), none] [] T
  refine j_blx (F := fX10) tb_X10 (nn_ _) bk_X10_walkOver_e_0 bs_X10_walkOver_e_0 hz (fun K hK => ?_)
  refine hK 2 _ [vI m, vR 110 0] T ?_
  refine j_callV (y := yX10_isMatch) (Yc := zX10_isMatch) (rest := []) [vI m] (ct_X10_isMatch (T := T)) cl_X10_195 (qd_c (by decide +kernel)) (nn_ _) rfl (rf_of rfl) (Nat.le_of_ble_eq_true rfl) (Nat.le_of_ble_eq_true rfl) (Nat.le_of_ble_eq_true rfl) rfl ?_
  rintro _ _ ⟨rfl, x1, rfl, hx1⟩
  show J_ zX10_walkOver T (po_X10_walkOver_e T m d) 0 0 5 _ [vI x1] T
  refine j_blx (F := fX10) tb_X10 (nn_ _) bk_X10_walkOver_e_5 bs_X10_walkOver_e_5 hz (fun K hK => ?_)
  refine And.intro (fun c2 => ?_) (fun c2 => ?_)
  · replace hx1 := hx1.resolve_right (fun z => c2 z.1)
    clear c2
    refine hK 11 _ [] T ?_
    refine j_blx (F := fX10) tb_X10 (nn_ _) bk_X10_walkOver_e_11 bs_X10_walkOver_e_11 hz (fun K hK => ?_)
    refine hK 12 _ [vI d] T ?_
    refine j_callS (y := yX10_isSide) (Yc := zX10_isSide) (rest := []) [vI d] (ct_X10_isSide (T := T)) cl_X10_251 (qd_c (by decide +kernel)) (nn_ _) rfl (rf_of rfl) (Nat.le_of_ble_eq_true rfl) (Nat.le_of_ble_eq_true rfl) (Nat.le_of_ble_eq_true rfl) rfl ?_
    rintro _ _ ⟨rfl, x3, rfl, hx3⟩
    show J_ zX10_walkOver T (po_X10_walkOver_e T m d) 0 0 15 _ [vI x3] T
    refine j_blx (F := fX10) tb_X10 (nn_ _) bk_X10_walkOver_e_15 bs_X10_walkOver_e_15 hz (fun K hK => ?_)
    refine And.intro (fun c4 => ?_) (fun c4 => ?_)
    · replace hx3 := hx3.resolve_right (fun z => c4 z.1)
      clear c4
      refine hK 21 _ [] T ?_
      refine j_blx (F := fX10) tb_X10 (nn_ _) bk_X10_walkOver_e_21 bs_X10_walkOver_e_21 hz (fun K hK => ?_)
      refine ix_i (by omega) ?_
      refine And.intro (fun c5 => ?_) (fun c5 => ?_)
      · exact absurd (show T 523 0 (m) = 0 by omega) (hka.2 _ (by omega) (by omega))
      · refine hK 32 [some (vR 110 0), some (vI m), some (vI d), some (vR 102 m)] [vR 102 m] T ?_
        refine j_callV (y := yX2_phaseOfLife) (Yc := zX2_phaseOfLife) (rest := []) [] (ct_X2_phaseOfLife_e (T := T)) cl_X10_223 (qd_c (by decide +kernel)) (nn_ _) rfl (rf_of rfl) (Nat.le_of_ble_eq_true rfl) (Nat.le_of_ble_eq_true rfl) (Nat.le_of_ble_eq_true rfl) rfl ?_
        rintro _ _ ⟨rfl, x6, rfl, hx6⟩
        show J_ zX10_walkOver T (po_X10_walkOver_e T m d) 0 0 35 _ [vI x6] T
        refine j_blx (F := fX10) tb_X10 (nn_ _) bk_X10_walkOver_e_35 bs_X10_walkOver_e_35 hz (fun K hK => ?_)
        refine And.intro (fun c7 => ?_) (fun c7 => ?_)
        · refine hK 52 _ [] T ?_
          refine j_blx (F := fX10) tb_X10 (nn_ _) bk_X10_walkOver_e_52 bs_X10_walkOver_e_52 hz (fun K hK => ?_)
          refine (show po_X10_walkOver_e T m d T (some (vI (-4))) from ?_)
          exact ⟨_, rfl, fr_0 _ _, Or.inr ⟨by omega, Or.inr ⟨by omega, Or.inl ⟨rfl, by omega, rfl⟩⟩⟩⟩
        · intro b8 b8b
          intro b9 b9b
          refine And.intro (fun c10 => ?_) (fun c10 => ?_)
          · refine hK 55 _ [] T ?_
            refine j_blx (F := fX10) tb_X10 (nn_ _) bk_X10_walkOver_e_55 bs_X10_walkOver_e_55 hz (fun K hK => ?_)
            refine bd_i (by omega) ?_
            refine x_nm (fun U11 hU11 => ?_)
            have e12 := up_f hU11
            refine (show po_X10_walkOver_e T m d U11 (some (vI 1)) from ?_)
            exact ⟨_, rfl, fr_u (fr_0 _ _) hU11 rfl, Or.inr ⟨by omega, Or.inr ⟨by omega, Or.inr ⟨rfl, by omega, hU11⟩⟩⟩⟩
          · refine (show po_X10_walkOver_e T m d T (some (vI (-4))) from ?_)
            exact ⟨_, rfl, fr_0 _ _, Or.inr ⟨by omega, Or.inr ⟨by omega, Or.inl ⟨rfl, by omega, rfl⟩⟩⟩⟩
    · replace hx3 := hx3.resolve_left (fun z => absurd (c4.symm.trans z.1) (by decide))
      clear c4
      refine (show po_X10_walkOver_e T m d T (some (vI (-3))) from ?_)
      exact ⟨_, rfl, fr_0 _ _, Or.inr ⟨by omega, Or.inl ⟨rfl, by omega, rfl⟩⟩⟩
  · replace hx1 := hx1.resolve_left (fun z => absurd (c2.symm.trans z.1) (by decide))
    clear c2
    refine (show po_X10_walkOver_e T m d T (some (vI (-2))) from ?_)
    exact ⟨_, rfl, fr_0 _ _, Or.inl ⟨rfl, by omega, rfl⟩⟩
theorem bk_X8_clubOn_e_10 : ck_ fX8 (some .int) cX8_clubOn 10 [.iload 3, .iconst (-1), .if_icmp .eq 63, .iload 4, .iconst 300, .if_icmp .ge 63, .aload 0, .tableswitch 0 8 7 #[], .iload 3, .iaload, .iload 2, .if_icmp .gt 50, .iload 2, .aload 0, .tableswitch 0 8 8 #[], .iload 3, .iaload, .if_icmp .gt 50, .aload 0, .tableswitch 0 8 6 #[], .iload 3, .iaload, .ireturn] 50 = true := qck_r (nn_ _) (by decide +kernel)
theorem bs_X8_clubOn_e_10 {P : Zt → Option Zv → Prop} (K : Int → Zl → List Zv → Zt → Prop) : sx_ K P [.iload 3, .iconst (-1), .if_icmp .eq 63, .iload 4, .iconst 300, .if_icmp .ge 63, .aload 0, .tableswitch 0 8 7 #[], .iload 3, .iaload, .iload 2, .if_icmp .gt 50, .iload 2, .aload 0, .tableswitch 0 8 8 #[], .iload 3, .iaload, .if_icmp .gt 50, .aload 0, .tableswitch 0 8 6 #[], .iload 3, .iaload, .ireturn] 50 = x_iload 3 (x_iconst (-1) (x_if_icmp .eq 63 K (x_iload 4 (x_iconst 300 (x_if_icmp .ge 63 K (x_aload 0 (x_g1 108 567 (x_iload 3 (x_iaload (x_iload 2 (x_if_icmp .gt 50 K (x_iload 2 (x_aload 0 (x_g1 108 568 (x_iload 3 (x_iaload (x_if_icmp .gt 50 K (x_aload 0 (x_g1 108 566 (x_iload 3 (x_iaload (x_ireturn P)))))))))))))))))))))) := ((xe_iload 3).trans (congrArg (x_iload 3) ((xe_iconst (-1)).trans (congrArg (x_iconst (-1)) ((xe_if_icmp .eq 63).trans (congrArg (x_if_icmp .eq 63 K) ((xe_iload 4).trans (congrArg (x_iload 4) ((xe_iconst 300).trans (congrArg (x_iconst 300) ((xe_if_icmp .ge 63).trans (congrArg (x_if_icmp .ge 63 K) ((xe_aload 0).trans (congrArg (x_aload 0) ((xe_g1 (kk := 108) rfl tl_8_7).trans (congrArg (x_g1 108 567) ((xe_iload 3).trans (congrArg (x_iload 3) ((xe_iaload).trans (congrArg (x_iaload) ((xe_iload 2).trans (congrArg (x_iload 2) ((xe_if_icmp .gt 50).trans (congrArg (x_if_icmp .gt 50 K) ((xe_iload 2).trans (congrArg (x_iload 2) ((xe_aload 0).trans (congrArg (x_aload 0) ((xe_g1 (kk := 108) rfl tl_8_8).trans (congrArg (x_g1 108 568) ((xe_iload 3).trans (congrArg (x_iload 3) ((xe_iaload).trans (congrArg (x_iaload) ((xe_if_icmp .gt 50).trans (congrArg (x_if_icmp .gt 50 K) ((xe_aload 0).trans (congrArg (x_aload 0) ((xe_g1 (kk := 108) rfl tl_8_6).trans (congrArg (x_g1 108 566) ((xe_iload 3).trans (congrArg (x_iload 3) ((xe_iaload).trans (congrArg (x_iaload) (xe_ireturn)))))))))))))))))))))))))))))))))))))))))))))
theorem bk_X8_clubOn_e_63 : ck_ fX8 (some .int) cX8_clubOn 63 [.iconst (-1), .ireturn] 65 = true := qck_r (nn_ _) (by decide +kernel)
theorem bs_X8_clubOn_e_63 {P : Zt → Option Zv → Prop} (K : Int → Zl → List Zv → Zt → Prop) : sx_ K P [.iconst (-1), .ireturn] 65 = x_iconst (-1) (x_ireturn P) := ((xe_iconst (-1)).trans (congrArg (x_iconst (-1)) (xe_ireturn)))
theorem bk_X8_clubOn_e_50 : ck_ fX8 (some .int) cX8_clubOn 50 [.aload 0, .tableswitch 0 8 9 #[], .iload 3, .iaload, .istore 3, .iinc 4 1, .goto 10] 63 = true := qck_r (nn_ _) (by decide +kernel)
theorem bs_X8_clubOn_e_50 {P : Zt → Option Zv → Prop} (K : Int → Zl → List Zv → Zt → Prop) : sx_ K P [.aload 0, .tableswitch 0 8 9 #[], .iload 3, .iaload, .istore 3, .iinc 4 1, .goto 10] 63 = x_aload 0 (x_g1 108 569 (x_iload 3 (x_iaload (x_istore 3 (x_iinc 4 1 (x_goto 10 K)))))) := ((xe_aload 0).trans (congrArg (x_aload 0) ((xe_g1 (kk := 108) rfl tl_8_9).trans (congrArg (x_g1 108 569) ((xe_iload 3).trans (congrArg (x_iload 3) ((xe_iaload).trans (congrArg (x_iaload) ((xe_istore 3).trans (congrArg (x_istore 3) ((xe_iinc 4 1).trans (congrArg (x_iinc 4 1) (xe_goto 10)))))))))))))
theorem bk_X8_clubOn_e_0 : ck_ fX8 (some .int) cX8_clubOn 0 [.aload 0, .tableswitch 0 8 4 #[], .iload 1, .iaload, .istore 3, .iconst 0, .istore 4] 10 = true := qck_r (nn_ _) (by decide +kernel)
theorem bs_X8_clubOn_e_0 {P : Zt → Option Zv → Prop} (K : Int → Zl → List Zv → Zt → Prop) : sx_ K P [.aload 0, .tableswitch 0 8 4 #[], .iload 1, .iaload, .istore 3, .iconst 0, .istore 4] 10 = x_aload 0 (x_g1 108 564 (x_iload 1 (x_iaload (x_istore 3 (x_iconst 0 (x_istore 4 (K 10))))))) := ((xe_aload 0).trans (congrArg (x_aload 0) ((xe_g1 (kk := 108) rfl tl_8_4).trans (congrArg (x_g1 108 564) ((xe_iload 1).trans (congrArg (x_iload 1) ((xe_iaload).trans (congrArg (x_iaload) ((xe_istore 3).trans (congrArg (x_istore 3) ((xe_iconst 0).trans (congrArg (x_iconst 0) ((xe_istore 4).trans (congrArg (x_istore 4) xe_nil))))))))))))))
abbrev po_X8_clubOn_e (T : Zt) (p d : Int) : Zt → Option Zv → Prop := fun T' r => T = T' ∧ ∃ x : Int, r = some (vI x) ∧ (x = co9_c T p d)
set_option maxHeartbeats 4000000 in
theorem ct_X8_clubOn_e {T : Zt} {p d : Int} (h1 : 0 ≤ p ∧ p < 200) (h2 : p < T 108 0 3) (hsp : SPR_ T) : Ct_ yX8_clubOn zX8_clubOn T [vR 108 0, vI p, vI d] (po_X8_clubOn_e T p d) := by
  refine ct_of pn_8 rfl rfl (Nat.le_of_ble_eq_true rfl) (fun hT hav => ?_)
  have hr_p : -2147483648 ≤ p ∧ p ≤ 2147483647 := hav (vI p) (List.mem_cons_of_mem _ List.mem_cons_self)
  have hr_d : -2147483648 ≤ d ∧ d ≤ 2147483647 := hav (vI d) (List.mem_cons_of_mem _ (List.mem_cons_of_mem _ List.mem_cons_self))
  have hz : zX8_clubOn.2.2.2.1 = some .boolean → ∀ (T' : Zt) (x : Int), po_X8_clubOn_e T p d T' (some (vI x)) → 0 ≤ x ∧ x ≤ 1 := fun h => by cases h
  have hb_spans : 0 ≤ T 108 0 5 ∧ T 108 0 5 ≤ 300 := bd_f hT 108 5 tl_8_5 0
  show J_ zX8_clubOn T (po_X8_clubOn_e T p d) 0 0 0 [some (vR 108 0), some (vI p), some (vI d), none, none] [] T
  have c_10 : ∀ (nn : Nat) (v : Int) (n : Int) (u : Int), ((300 - n).toNat) ≤ nn → (0 ≤ n ∧ n ≤ 300 ∧ 0 ≤ u ∧ u + n ≤ T 108 0 5 ∧ T 108 0 5 ≤ 300 ∧ -1 ≤ v ∧ v ≤ 299) → (lpz_ T p u v) → (FSP_ T p d d u) → J_ zX8_clubOn T (po_X8_clubOn_e T p d) 0 0 10 [some (vR 108 0), some (vI p), some (vI d), some (vI v), some (vI n)] [] T := by
    intro nn
    induction nn using Nat.strongRecOn with
    | _ nn ih_10 =>
      intro v n u hm_10 i1 lz fz
      replace hm_10 := fun (_ : Unit) => hm_10
      refine j_blx (F := fX8) tb_X8 (nn_ _) bk_X8_clubOn_e_10 bs_X8_clubOn_e_10 hz (fun K hK => ?_)
      refine And.intro (fun c1 => ?_) (fun c1 => ?_)
      · refine hK 63 _ [] T ?_
        refine j_blx (F := fX8) tb_X8 (nn_ _) bk_X8_clubOn_e_63 bs_X8_clubOn_e_63 hz (fun K hK => ?_)
        refine (show po_X8_clubOn_e T p d T (some (vI (-1))) from ?_)
        exact ⟨rfl, _, rfl, (co_f hsp (fsp_0 lz fz (by omega))).symm⟩
      · have hlt := lpz_lt lz (by omega)
        refine And.intro (fun c2 => ?_) (fun c2 => ?_)
        · refine hK 63 _ [] T ?_
          refine j_blx (F := fX8) tb_X8 (nn_ _) bk_X8_clubOn_e_63 bs_X8_clubOn_e_63 hz (fun K hK => ?_)
          refine (show po_X8_clubOn_e T p d T (some (vI (-1))) from ?_)
          exact ⟨rfl, _, rfl, (co_f hsp (fsp_0 lz fz (by omega))).symm⟩
        · refine ix_i (by omega) ?_
          intro b3 b3b
          refine And.intro (fun c4 => ?_) (fun c4 => ?_)
          · refine hK 50 _ [] T ?_
            refine j_blx (F := fX8) tb_X8 (nn_ _) bk_X8_clubOn_e_50 bs_X8_clubOn_e_50 hz (fun K hK => ?_)
            refine ix_i (by omega) ?_
            intro b5 b5b
            refine rg_i (by omega) ?_
            refine hK 10 [some (vR 108 0), some (vI p), some (vI d), some (vI (T 569 0 v)), some (vI (n + 1))] [] T ?_
            refine ih_10 _ ?_ (T 569 0 v) (n + 1) v (Nat.le_refl _) ?_ ?_ ?_
            · have hm_10 := hm_10 (); omega
            · omega
            · exact lpz_n hsp lz (by omega) (by omega)
            · exact fsp_s lz fz (by omega) (by omega)
          · refine ix_i (by omega) ?_
            intro b6 b6b
            refine And.intro (fun c7 => ?_) (fun c7 => ?_)
            · refine hK 50 [some (vR 108 0), some (vI p), some (vI d), some (vI v), some (vI n)] [] T ?_
              refine j_blx (F := fX8) tb_X8 (nn_ _) bk_X8_clubOn_e_50 bs_X8_clubOn_e_50 hz (fun K hK => ?_)
              refine ix_i (by omega) ?_
              intro b8 b8b
              refine rg_i (by omega) ?_
              refine hK 10 [some (vR 108 0), some (vI p), some (vI d), some (vI (T 569 0 v)), some (vI (n + 1))] [] T ?_
              refine ih_10 _ ?_ (T 569 0 v) (n + 1) v (Nat.le_refl _) ?_ ?_ ?_
              · have hm_10 := hm_10 (); omega
              · omega
              · exact lpz_n hsp lz (by omega) (by omega)
              · exact fsp_s lz fz (by omega) (by omega)
            · refine ix_i (by omega) ?_
              intro b9 b9b
              refine (show po_X8_clubOn_e T p d T (some (vI (T 566 0 v))) from ?_)
              exact ⟨rfl, _, rfl, co_t hsp lz fz (by omega) (by omega) (by omega) (by omega)⟩
  refine j_blx (F := fX8) tb_X8 (nn_ _) bk_X8_clubOn_e_0 bs_X8_clubOn_e_0 hz (fun K hK => ?_)
  refine ix_i (by omega) ?_
  intro b10 b10b
  refine hK 10 [some (vR 108 0), some (vI p), some (vI d), some (vI (T 564 0 p)), some (vI 0)] [] T ?_
  refine c_10 _ (T 564 0 p) 0 (T 108 0 5) (Nat.le_refl _) ?_ ?_ ?_
  · omega
  · exact hsp.2.2.1 p h1.1 h2
  · exact fsp_z
theorem bk_X11_match_e_0 : ck_ fX11 (some .int) cX11_match 0 [.iload 1, .aload 0, .tableswitch 0 11 29 #[]] 5 = true := qck_r (nn_ _) (by decide +kernel)
theorem bs_X11_match_e_0 {P : Zt → Option Zv → Prop} (K : Int → Zl → List Zv → Zt → Prop) : sx_ K P [.iload 1, .aload 0, .tableswitch 0 11 29 #[]] 5 = x_iload 1 (x_aload 0 (x_g0 111 29 0 400 (K 5))) := ((xe_iload 1).trans (congrArg (x_iload 1) ((xe_aload 0).trans (congrArg (x_aload 0) ((xe_g0 (kk := 111) rfl tl_11_29).trans (congrArg (x_g0 111 29 0 400) xe_nil))))))
theorem bk_X11_match_e_8 : ck_ fX11 (some .int) cX11_match 8 [.ifCond .ne 14, .iconst (-2), .ireturn] 14 = true := qck_r (nn_ _) (by decide +kernel)
theorem bs_X11_match_e_8 {P : Zt → Option Zv → Prop} (K : Int → Zl → List Zv → Zt → Prop) : sx_ K P [.ifCond .ne 14, .iconst (-2), .ireturn] 14 = x_ifCond .ne 14 K (x_iconst (-2) (x_ireturn P)) := ((xe_ifCond .ne 14).trans (congrArg (x_ifCond .ne 14 K) ((xe_iconst (-2)).trans (congrArg (x_iconst (-2)) (xe_ireturn)))))
theorem bk_X11_match_e_14 : ck_ fX11 (some .int) cX11_match 14 [.iload 2] 15 = true := qck_r (nn_ _) (by decide +kernel)
theorem bs_X11_match_e_14 {P : Zt → Option Zv → Prop} (K : Int → Zl → List Zv → Zt → Prop) : sx_ K P [.iload 2] 15 = x_iload 2 (K 15) := ((xe_iload 2).trans (congrArg (x_iload 2) xe_nil))
theorem bk_X11_match_e_56 : ck_ fX11 (some .int) cX11_match 56 [.aload 0, .tableswitch 0 11 30 #[], .iload 1, .iaload, .ireturn] 63 = true := qck_r (nn_ _) (by decide +kernel)
theorem bs_X11_match_e_56 {P : Zt → Option Zv → Prop} (K : Int → Zl → List Zv → Zt → Prop) : sx_ K P [.aload 0, .tableswitch 0 11 30 #[], .iload 1, .iaload, .ireturn] 63 = x_aload 0 (x_g1 111 230 (x_iload 1 (x_iaload (x_ireturn P)))) := ((xe_aload 0).trans (congrArg (x_aload 0) ((xe_g1 (kk := 111) rfl tl_11_30).trans (congrArg (x_g1 111 230) ((xe_iload 1).trans (congrArg (x_iload 1) ((xe_iaload).trans (congrArg (x_iaload) (xe_ireturn)))))))))
theorem bk_X11_match_e_63 : ck_ fX11 (some .int) cX11_match 63 [.aload 0, .tableswitch 0 11 31 #[], .iload 1, .iaload, .ireturn] 70 = true := qck_r (nn_ _) (by decide +kernel)
theorem bs_X11_match_e_63 {P : Zt → Option Zv → Prop} (K : Int → Zl → List Zv → Zt → Prop) : sx_ K P [.aload 0, .tableswitch 0 11 31 #[], .iload 1, .iaload, .ireturn] 70 = x_aload 0 (x_g1 111 231 (x_iload 1 (x_iaload (x_ireturn P)))) := ((xe_aload 0).trans (congrArg (x_aload 0) ((xe_g1 (kk := 111) rfl tl_11_31).trans (congrArg (x_g1 111 231) ((xe_iload 1).trans (congrArg (x_iload 1) ((xe_iaload).trans (congrArg (x_iaload) (xe_ireturn)))))))))
theorem bk_X11_match_e_70 : ck_ fX11 (some .int) cX11_match 70 [.aload 0, .tableswitch 0 11 32 #[], .iload 1, .iaload, .ireturn] 77 = true := qck_r (nn_ _) (by decide +kernel)
theorem bs_X11_match_e_70 {P : Zt → Option Zv → Prop} (K : Int → Zl → List Zv → Zt → Prop) : sx_ K P [.aload 0, .tableswitch 0 11 32 #[], .iload 1, .iaload, .ireturn] 77 = x_aload 0 (x_g1 111 232 (x_iload 1 (x_iaload (x_ireturn P)))) := ((xe_aload 0).trans (congrArg (x_aload 0) ((xe_g1 (kk := 111) rfl tl_11_32).trans (congrArg (x_g1 111 232) ((xe_iload 1).trans (congrArg (x_iload 1) ((xe_iaload).trans (congrArg (x_iaload) (xe_ireturn)))))))))
theorem bk_X11_match_e_77 : ck_ fX11 (some .int) cX11_match 77 [.aload 0, .tableswitch 0 11 33 #[], .iload 1, .iaload, .ireturn] 84 = true := qck_r (nn_ _) (by decide +kernel)
theorem bs_X11_match_e_77 {P : Zt → Option Zv → Prop} (K : Int → Zl → List Zv → Zt → Prop) : sx_ K P [.aload 0, .tableswitch 0 11 33 #[], .iload 1, .iaload, .ireturn] 84 = x_aload 0 (x_g1 111 233 (x_iload 1 (x_iaload (x_ireturn P)))) := ((xe_aload 0).trans (congrArg (x_aload 0) ((xe_g1 (kk := 111) rfl tl_11_33).trans (congrArg (x_g1 111 233) ((xe_iload 1).trans (congrArg (x_iload 1) ((xe_iaload).trans (congrArg (x_iaload) (xe_ireturn)))))))))
theorem bk_X11_match_e_84 : ck_ fX11 (some .int) cX11_match 84 [.aload 0, .tableswitch 0 11 34 #[], .iload 1, .iaload, .ireturn] 91 = true := qck_r (nn_ _) (by decide +kernel)
theorem bs_X11_match_e_84 {P : Zt → Option Zv → Prop} (K : Int → Zl → List Zv → Zt → Prop) : sx_ K P [.aload 0, .tableswitch 0 11 34 #[], .iload 1, .iaload, .ireturn] 91 = x_aload 0 (x_g1 111 234 (x_iload 1 (x_iaload (x_ireturn P)))) := ((xe_aload 0).trans (congrArg (x_aload 0) ((xe_g1 (kk := 111) rfl tl_11_34).trans (congrArg (x_g1 111 234) ((xe_iload 1).trans (congrArg (x_iload 1) ((xe_iaload).trans (congrArg (x_iaload) (xe_ireturn)))))))))
theorem bk_X11_match_e_91 : ck_ fX11 (some .int) cX11_match 91 [.aload 0, .tableswitch 0 11 35 #[], .iload 1, .iaload, .ireturn] 98 = true := qck_r (nn_ _) (by decide +kernel)
theorem bs_X11_match_e_91 {P : Zt → Option Zv → Prop} (K : Int → Zl → List Zv → Zt → Prop) : sx_ K P [.aload 0, .tableswitch 0 11 35 #[], .iload 1, .iaload, .ireturn] 98 = x_aload 0 (x_g1 111 235 (x_iload 1 (x_iaload (x_ireturn P)))) := ((xe_aload 0).trans (congrArg (x_aload 0) ((xe_g1 (kk := 111) rfl tl_11_35).trans (congrArg (x_g1 111 235) ((xe_iload 1).trans (congrArg (x_iload 1) ((xe_iaload).trans (congrArg (x_iaload) (xe_ireturn)))))))))
theorem bk_X11_match_e_98 : ck_ fX11 (some .int) cX11_match 98 [.aload 0, .tableswitch 0 11 36 #[], .iload 1, .iaload, .ireturn] 105 = true := qck_r (nn_ _) (by decide +kernel)
theorem bs_X11_match_e_98 {P : Zt → Option Zv → Prop} (K : Int → Zl → List Zv → Zt → Prop) : sx_ K P [.aload 0, .tableswitch 0 11 36 #[], .iload 1, .iaload, .ireturn] 105 = x_aload 0 (x_g1 111 236 (x_iload 1 (x_iaload (x_ireturn P)))) := ((xe_aload 0).trans (congrArg (x_aload 0) ((xe_g1 (kk := 111) rfl tl_11_36).trans (congrArg (x_g1 111 236) ((xe_iload 1).trans (congrArg (x_iload 1) ((xe_iaload).trans (congrArg (x_iaload) (xe_ireturn)))))))))
theorem bk_X11_match_e_105 : ck_ fX11 (some .int) cX11_match 105 [.iload 2, .iconst 7, .if_icmp .ne 120, .aload 0, .tableswitch 0 11 37 #[], .iload 1, .iaload, .goto 122] 120 = true := qck_r (nn_ _) (by decide +kernel)
theorem bs_X11_match_e_105 {P : Zt → Option Zv → Prop} (K : Int → Zl → List Zv → Zt → Prop) : sx_ K P [.iload 2, .iconst 7, .if_icmp .ne 120, .aload 0, .tableswitch 0 11 37 #[], .iload 1, .iaload, .goto 122] 120 = x_iload 2 (x_iconst 7 (x_if_icmp .ne 120 K (x_aload 0 (x_g1 111 237 (x_iload 1 (x_iaload (x_goto 122 K))))))) := ((xe_iload 2).trans (congrArg (x_iload 2) ((xe_iconst 7).trans (congrArg (x_iconst 7) ((xe_if_icmp .ne 120).trans (congrArg (x_if_icmp .ne 120 K) ((xe_aload 0).trans (congrArg (x_aload 0) ((xe_g1 (kk := 111) rfl tl_11_37).trans (congrArg (x_g1 111 237) ((xe_iload 1).trans (congrArg (x_iload 1) ((xe_iaload).trans (congrArg (x_iaload) (xe_goto 122)))))))))))))))
theorem bk_X11_match_e_120 : ck_ fX11 (some .int) cX11_match 120 [.iconst (-3), .ireturn] 123 = true := qck_r (nn_ _) (by decide +kernel)
theorem bs_X11_match_e_120 {P : Zt → Option Zv → Prop} (K : Int → Zl → List Zv → Zt → Prop) : sx_ K P [.iconst (-3), .ireturn] 123 = x_iconst (-3) (x_ireturn P) := ((xe_iconst (-3)).trans (congrArg (x_iconst (-3)) (xe_ireturn)))
theorem bk_X11_match_e_122 : ck_ fX11 (some .int) cX11_match 122 [.ireturn] 123 = true := qck_r (nn_ _) (by decide +kernel)
theorem bs_X11_match_e_122 {P : Zt → Option Zv → Prop} (K : Int → Zl → List Zv → Zt → Prop) : sx_ K P [.ireturn] 123 = x_ireturn P := (xe_ireturn)
abbrev po_X11_match_e (T : Zt) (m w : Int) : Zt → Option Zv → Prop := fun T' r => T = T' ∧ ∃ x : Int, r = some (vI x) ∧ ((x = -2 ∧ ¬ (0 ≤ m ∧ m < T 111 0 29)) ∨ ((0 ≤ m ∧ m < T 111 0 29) ∧ ((w = 0 ∧ x = T 230 0 m) ∨ (w = 1 ∧ x = T 231 0 m) ∨ (w = 2 ∧ x = T 232 0 m) ∨ (w = 3 ∧ x = T 233 0 m) ∨ (w = 4 ∧ x = T 234 0 m) ∨ (w = 5 ∧ x = T 235 0 m) ∨ (w = 6 ∧ x = T 236 0 m) ∨ (w = 7 ∧ x = T 237 0 m) ∨ (¬ (0 ≤ w ∧ w ≤ 7) ∧ x = -3))))
set_option maxHeartbeats 4000000 in
theorem ct_X11_match_e {T : Zt} {m w : Int} : Ct_ yX11_match zX11_match T [vR 111 0, vI m, vI w] (po_X11_match_e T m w) := by
  refine ct_of pn_11 rfl rfl (Nat.le_of_ble_eq_true rfl) (fun hT hav => ?_)
  have hr_m : -2147483648 ≤ m ∧ m ≤ 2147483647 := hav (vI m) (List.mem_cons_of_mem _ List.mem_cons_self)
  have hr_w : -2147483648 ≤ w ∧ w ≤ 2147483647 := hav (vI w) (List.mem_cons_of_mem _ (List.mem_cons_of_mem _ List.mem_cons_self))
  have hz : zX11_match.2.2.2.1 = some .boolean → ∀ (T' : Zt) (x : Int), po_X11_match_e T m w T' (some (vI x)) → 0 ≤ x ∧ x ≤ 1 := fun h => by cases h
  have hb_29 : 0 ≤ T 111 0 29 ∧ T 111 0 29 ≤ 400 := bd_f hT 111 29 tl_11_29 0
  show J_ zX11_match T (po_X11_match_e T m w) 0 0 0 [some (vR 111 0), some (vI m), some (vI w)] [] T
  refine j_blx (F := fX11) tb_X11 (nn_ _) bk_X11_match_e_0 bs_X11_match_e_0 hz (fun K hK => ?_)
  intro b1 b1b
  refine hK 5 _ [vI (T 111 0 29), vI m] T ?_
  refine j_callS (y := yX11_isOf) (Yc := zX11_isOf) (rest := []) [vI m, vI (T 111 0 29)] (ct_X11_isOf (T := T) (by omega)) cl_X11_317 (qd_c (by decide +kernel)) (nn_ _) rfl (rf_of rfl) (Nat.le_of_ble_eq_true rfl) (Nat.le_of_ble_eq_true rfl) (Nat.le_of_ble_eq_true rfl) rfl ?_
  rintro _ _ ⟨rfl, x2, rfl, hx2⟩
  show J_ zX11_match T (po_X11_match_e T m w) 0 0 8 _ [vI x2] T
  refine j_blx (F := fX11) tb_X11 (nn_ _) bk_X11_match_e_8 bs_X11_match_e_8 hz (fun K hK => ?_)
  refine And.intro (fun c3 => ?_) (fun c3 => ?_)
  · replace hx2 := hx2.resolve_right (fun z => c3 z.1)
    clear c3
    refine hK 14 _ [] T ?_
    refine j_blx (F := fX11) tb_X11 (nn_ _) bk_X11_match_e_14 bs_X11_match_e_14 hz (fun K hK => ?_)
    refine hK 15 _ [vI w] T ?_
    by_cases z4_0 : w = 0
    · refine j_tsI (pc := 15) 0 (off := 41) (tgt := 56) (by decide) ds_X11_match_15 (by omega) (by decide) rfl (by decide) (by decide) ?_
      refine j_blx (F := fX11) tb_X11 (nn_ _) bk_X11_match_e_56 bs_X11_match_e_56 hz (fun K hK => ?_)
      refine ix_i (by omega) ?_
      intro b5 b5b
      refine (show po_X11_match_e T m w T (some (vI (T 230 0 m))) from ?_)
      refine ⟨rfl, _, rfl, ?_⟩
      first
      | assumption
      | refine Or.inl ?_
        refine And.intro ?_ ?_
        · first | omega | rfl
        · first | omega | rfl
      | refine Or.inr ?_
        refine And.intro ?_ ?_
        · refine And.intro ?_ ?_
          · first | omega | rfl
          · first | omega | rfl
        · first
          | assumption
          | refine Or.inl ?_
            refine And.intro ?_ ?_
            · first | omega | rfl
            · first | omega | rfl
          | refine Or.inr ?_
            first
            | assumption
            | refine Or.inl ?_
              refine And.intro ?_ ?_
              · first | omega | rfl
              · first | omega | rfl
            | refine Or.inr ?_
              first
              | assumption
              | refine Or.inl ?_
                refine And.intro ?_ ?_
                · first | omega | rfl
                · first | omega | rfl
              | refine Or.inr ?_
                first
                | assumption
                | refine Or.inl ?_
                  refine And.intro ?_ ?_
                  · first | omega | rfl
                  · first | omega | rfl
                | refine Or.inr ?_
                  first
                  | assumption
                  | refine Or.inl ?_
                    refine And.intro ?_ ?_
                    · first | omega | rfl
                    · first | omega | rfl
                  | refine Or.inr ?_
                    first
                    | assumption
                    | refine Or.inl ?_
                      refine And.intro ?_ ?_
                      · first | omega | rfl
                      · first | omega | rfl
                    | refine Or.inr ?_
                      first
                      | assumption
                      | refine Or.inl ?_
                        refine And.intro ?_ ?_
                        · first | omega | rfl
                        · first | omega | rfl
                      | refine Or.inr ?_
                        first
                        | assumption
                        | refine Or.inl ?_
                          refine And.intro ?_ ?_
                          · first | omega | rfl
                          · first | omega | rfl
                        | refine Or.inr ?_
                          refine And.intro ?_ ?_
                          · first | omega | rfl
                          · first | omega | rfl
    by_cases z4_1 : w = 1
    · refine j_tsI (pc := 15) 1 (off := 48) (tgt := 63) (by decide) ds_X11_match_15 (by omega) (by decide) rfl (by decide) (by decide) ?_
      refine j_blx (F := fX11) tb_X11 (nn_ _) bk_X11_match_e_63 bs_X11_match_e_63 hz (fun K hK => ?_)
      refine ix_i (by omega) ?_
      intro b6 b6b
      refine (show po_X11_match_e T m w T (some (vI (T 231 0 m))) from ?_)
      refine ⟨rfl, _, rfl, ?_⟩
      first
      | assumption
      | refine Or.inl ?_
        refine And.intro ?_ ?_
        · first | omega | rfl
        · first | omega | rfl
      | refine Or.inr ?_
        refine And.intro ?_ ?_
        · refine And.intro ?_ ?_
          · first | omega | rfl
          · first | omega | rfl
        · first
          | assumption
          | refine Or.inl ?_
            refine And.intro ?_ ?_
            · first | omega | rfl
            · first | omega | rfl
          | refine Or.inr ?_
            first
            | assumption
            | refine Or.inl ?_
              refine And.intro ?_ ?_
              · first | omega | rfl
              · first | omega | rfl
            | refine Or.inr ?_
              first
              | assumption
              | refine Or.inl ?_
                refine And.intro ?_ ?_
                · first | omega | rfl
                · first | omega | rfl
              | refine Or.inr ?_
                first
                | assumption
                | refine Or.inl ?_
                  refine And.intro ?_ ?_
                  · first | omega | rfl
                  · first | omega | rfl
                | refine Or.inr ?_
                  first
                  | assumption
                  | refine Or.inl ?_
                    refine And.intro ?_ ?_
                    · first | omega | rfl
                    · first | omega | rfl
                  | refine Or.inr ?_
                    first
                    | assumption
                    | refine Or.inl ?_
                      refine And.intro ?_ ?_
                      · first | omega | rfl
                      · first | omega | rfl
                    | refine Or.inr ?_
                      first
                      | assumption
                      | refine Or.inl ?_
                        refine And.intro ?_ ?_
                        · first | omega | rfl
                        · first | omega | rfl
                      | refine Or.inr ?_
                        first
                        | assumption
                        | refine Or.inl ?_
                          refine And.intro ?_ ?_
                          · first | omega | rfl
                          · first | omega | rfl
                        | refine Or.inr ?_
                          refine And.intro ?_ ?_
                          · first | omega | rfl
                          · first | omega | rfl
    by_cases z4_2 : w = 2
    · refine j_tsI (pc := 15) 2 (off := 55) (tgt := 70) (by decide) ds_X11_match_15 (by omega) (by decide) rfl (by decide) (by decide) ?_
      refine j_blx (F := fX11) tb_X11 (nn_ _) bk_X11_match_e_70 bs_X11_match_e_70 hz (fun K hK => ?_)
      refine ix_i (by omega) ?_
      intro b7 b7b
      refine (show po_X11_match_e T m w T (some (vI (T 232 0 m))) from ?_)
      refine ⟨rfl, _, rfl, ?_⟩
      first
      | assumption
      | refine Or.inl ?_
        refine And.intro ?_ ?_
        · first | omega | rfl
        · first | omega | rfl
      | refine Or.inr ?_
        refine And.intro ?_ ?_
        · refine And.intro ?_ ?_
          · first | omega | rfl
          · first | omega | rfl
        · first
          | assumption
          | refine Or.inl ?_
            refine And.intro ?_ ?_
            · first | omega | rfl
            · first | omega | rfl
          | refine Or.inr ?_
            first
            | assumption
            | refine Or.inl ?_
              refine And.intro ?_ ?_
              · first | omega | rfl
              · first | omega | rfl
            | refine Or.inr ?_
              first
              | assumption
              | refine Or.inl ?_
                refine And.intro ?_ ?_
                · first | omega | rfl
                · first | omega | rfl
              | refine Or.inr ?_
                first
                | assumption
                | refine Or.inl ?_
                  refine And.intro ?_ ?_
                  · first | omega | rfl
                  · first | omega | rfl
                | refine Or.inr ?_
                  first
                  | assumption
                  | refine Or.inl ?_
                    refine And.intro ?_ ?_
                    · first | omega | rfl
                    · first | omega | rfl
                  | refine Or.inr ?_
                    first
                    | assumption
                    | refine Or.inl ?_
                      refine And.intro ?_ ?_
                      · first | omega | rfl
                      · first | omega | rfl
                    | refine Or.inr ?_
                      first
                      | assumption
                      | refine Or.inl ?_
                        refine And.intro ?_ ?_
                        · first | omega | rfl
                        · first | omega | rfl
                      | refine Or.inr ?_
                        first
                        | assumption
                        | refine Or.inl ?_
                          refine And.intro ?_ ?_
                          · first | omega | rfl
                          · first | omega | rfl
                        | refine Or.inr ?_
                          refine And.intro ?_ ?_
                          · first | omega | rfl
                          · first | omega | rfl
    by_cases z4_3 : w = 3
    · refine j_tsI (pc := 15) 3 (off := 62) (tgt := 77) (by decide) ds_X11_match_15 (by omega) (by decide) rfl (by decide) (by decide) ?_
      refine j_blx (F := fX11) tb_X11 (nn_ _) bk_X11_match_e_77 bs_X11_match_e_77 hz (fun K hK => ?_)
      refine ix_i (by omega) ?_
      intro b8 b8b
      refine (show po_X11_match_e T m w T (some (vI (T 233 0 m))) from ?_)
      refine ⟨rfl, _, rfl, ?_⟩
      first
      | assumption
      | refine Or.inl ?_
        refine And.intro ?_ ?_
        · first | omega | rfl
        · first | omega | rfl
      | refine Or.inr ?_
        refine And.intro ?_ ?_
        · refine And.intro ?_ ?_
          · first | omega | rfl
          · first | omega | rfl
        · first
          | assumption
          | refine Or.inl ?_
            refine And.intro ?_ ?_
            · first | omega | rfl
            · first | omega | rfl
          | refine Or.inr ?_
            first
            | assumption
            | refine Or.inl ?_
              refine And.intro ?_ ?_
              · first | omega | rfl
              · first | omega | rfl
            | refine Or.inr ?_
              first
              | assumption
              | refine Or.inl ?_
                refine And.intro ?_ ?_
                · first | omega | rfl
                · first | omega | rfl
              | refine Or.inr ?_
                first
                | assumption
                | refine Or.inl ?_
                  refine And.intro ?_ ?_
                  · first | omega | rfl
                  · first | omega | rfl
                | refine Or.inr ?_
                  first
                  | assumption
                  | refine Or.inl ?_
                    refine And.intro ?_ ?_
                    · first | omega | rfl
                    · first | omega | rfl
                  | refine Or.inr ?_
                    first
                    | assumption
                    | refine Or.inl ?_
                      refine And.intro ?_ ?_
                      · first | omega | rfl
                      · first | omega | rfl
                    | refine Or.inr ?_
                      first
                      | assumption
                      | refine Or.inl ?_
                        refine And.intro ?_ ?_
                        · first | omega | rfl
                        · first | omega | rfl
                      | refine Or.inr ?_
                        first
                        | assumption
                        | refine Or.inl ?_
                          refine And.intro ?_ ?_
                          · first | omega | rfl
                          · first | omega | rfl
                        | refine Or.inr ?_
                          refine And.intro ?_ ?_
                          · first | omega | rfl
                          · first | omega | rfl
    by_cases z4_4 : w = 4
    · refine j_tsI (pc := 15) 4 (off := 69) (tgt := 84) (by decide) ds_X11_match_15 (by omega) (by decide) rfl (by decide) (by decide) ?_
      refine j_blx (F := fX11) tb_X11 (nn_ _) bk_X11_match_e_84 bs_X11_match_e_84 hz (fun K hK => ?_)
      refine ix_i (by omega) ?_
      intro b9 b9b
      refine (show po_X11_match_e T m w T (some (vI (T 234 0 m))) from ?_)
      refine ⟨rfl, _, rfl, ?_⟩
      first
      | assumption
      | refine Or.inl ?_
        refine And.intro ?_ ?_
        · first | omega | rfl
        · first | omega | rfl
      | refine Or.inr ?_
        refine And.intro ?_ ?_
        · refine And.intro ?_ ?_
          · first | omega | rfl
          · first | omega | rfl
        · first
          | assumption
          | refine Or.inl ?_
            refine And.intro ?_ ?_
            · first | omega | rfl
            · first | omega | rfl
          | refine Or.inr ?_
            first
            | assumption
            | refine Or.inl ?_
              refine And.intro ?_ ?_
              · first | omega | rfl
              · first | omega | rfl
            | refine Or.inr ?_
              first
              | assumption
              | refine Or.inl ?_
                refine And.intro ?_ ?_
                · first | omega | rfl
                · first | omega | rfl
              | refine Or.inr ?_
                first
                | assumption
                | refine Or.inl ?_
                  refine And.intro ?_ ?_
                  · first | omega | rfl
                  · first | omega | rfl
                | refine Or.inr ?_
                  first
                  | assumption
                  | refine Or.inl ?_
                    refine And.intro ?_ ?_
                    · first | omega | rfl
                    · first | omega | rfl
                  | refine Or.inr ?_
                    first
                    | assumption
                    | refine Or.inl ?_
                      refine And.intro ?_ ?_
                      · first | omega | rfl
                      · first | omega | rfl
                    | refine Or.inr ?_
                      first
                      | assumption
                      | refine Or.inl ?_
                        refine And.intro ?_ ?_
                        · first | omega | rfl
                        · first | omega | rfl
                      | refine Or.inr ?_
                        first
                        | assumption
                        | refine Or.inl ?_
                          refine And.intro ?_ ?_
                          · first | omega | rfl
                          · first | omega | rfl
                        | refine Or.inr ?_
                          refine And.intro ?_ ?_
                          · first | omega | rfl
                          · first | omega | rfl
    by_cases z4_5 : w = 5
    · refine j_tsI (pc := 15) 5 (off := 76) (tgt := 91) (by decide) ds_X11_match_15 (by omega) (by decide) rfl (by decide) (by decide) ?_
      refine j_blx (F := fX11) tb_X11 (nn_ _) bk_X11_match_e_91 bs_X11_match_e_91 hz (fun K hK => ?_)
      refine ix_i (by omega) ?_
      intro b10 b10b
      refine (show po_X11_match_e T m w T (some (vI (T 235 0 m))) from ?_)
      refine ⟨rfl, _, rfl, ?_⟩
      first
      | assumption
      | refine Or.inl ?_
        refine And.intro ?_ ?_
        · first | omega | rfl
        · first | omega | rfl
      | refine Or.inr ?_
        refine And.intro ?_ ?_
        · refine And.intro ?_ ?_
          · first | omega | rfl
          · first | omega | rfl
        · first
          | assumption
          | refine Or.inl ?_
            refine And.intro ?_ ?_
            · first | omega | rfl
            · first | omega | rfl
          | refine Or.inr ?_
            first
            | assumption
            | refine Or.inl ?_
              refine And.intro ?_ ?_
              · first | omega | rfl
              · first | omega | rfl
            | refine Or.inr ?_
              first
              | assumption
              | refine Or.inl ?_
                refine And.intro ?_ ?_
                · first | omega | rfl
                · first | omega | rfl
              | refine Or.inr ?_
                first
                | assumption
                | refine Or.inl ?_
                  refine And.intro ?_ ?_
                  · first | omega | rfl
                  · first | omega | rfl
                | refine Or.inr ?_
                  first
                  | assumption
                  | refine Or.inl ?_
                    refine And.intro ?_ ?_
                    · first | omega | rfl
                    · first | omega | rfl
                  | refine Or.inr ?_
                    first
                    | assumption
                    | refine Or.inl ?_
                      refine And.intro ?_ ?_
                      · first | omega | rfl
                      · first | omega | rfl
                    | refine Or.inr ?_
                      first
                      | assumption
                      | refine Or.inl ?_
                        refine And.intro ?_ ?_
                        · first | omega | rfl
                        · first | omega | rfl
                      | refine Or.inr ?_
                        first
                        | assumption
                        | refine Or.inl ?_
                          refine And.intro ?_ ?_
                          · first | omega | rfl
                          · first | omega | rfl
                        | refine Or.inr ?_
                          refine And.intro ?_ ?_
                          · first | omega | rfl
                          · first | omega | rfl
    by_cases z4_6 : w = 6
    · refine j_tsI (pc := 15) 6 (off := 83) (tgt := 98) (by decide) ds_X11_match_15 (by omega) (by decide) rfl (by decide) (by decide) ?_
      refine j_blx (F := fX11) tb_X11 (nn_ _) bk_X11_match_e_98 bs_X11_match_e_98 hz (fun K hK => ?_)
      refine ix_i (by omega) ?_
      intro b11 b11b
      refine (show po_X11_match_e T m w T (some (vI (T 236 0 m))) from ?_)
      refine ⟨rfl, _, rfl, ?_⟩
      first
      | assumption
      | refine Or.inl ?_
        refine And.intro ?_ ?_
        · first | omega | rfl
        · first | omega | rfl
      | refine Or.inr ?_
        refine And.intro ?_ ?_
        · refine And.intro ?_ ?_
          · first | omega | rfl
          · first | omega | rfl
        · first
          | assumption
          | refine Or.inl ?_
            refine And.intro ?_ ?_
            · first | omega | rfl
            · first | omega | rfl
          | refine Or.inr ?_
            first
            | assumption
            | refine Or.inl ?_
              refine And.intro ?_ ?_
              · first | omega | rfl
              · first | omega | rfl
            | refine Or.inr ?_
              first
              | assumption
              | refine Or.inl ?_
                refine And.intro ?_ ?_
                · first | omega | rfl
                · first | omega | rfl
              | refine Or.inr ?_
                first
                | assumption
                | refine Or.inl ?_
                  refine And.intro ?_ ?_
                  · first | omega | rfl
                  · first | omega | rfl
                | refine Or.inr ?_
                  first
                  | assumption
                  | refine Or.inl ?_
                    refine And.intro ?_ ?_
                    · first | omega | rfl
                    · first | omega | rfl
                  | refine Or.inr ?_
                    first
                    | assumption
                    | refine Or.inl ?_
                      refine And.intro ?_ ?_
                      · first | omega | rfl
                      · first | omega | rfl
                    | refine Or.inr ?_
                      first
                      | assumption
                      | refine Or.inl ?_
                        refine And.intro ?_ ?_
                        · first | omega | rfl
                        · first | omega | rfl
                      | refine Or.inr ?_
                        first
                        | assumption
                        | refine Or.inl ?_
                          refine And.intro ?_ ?_
                          · first | omega | rfl
                          · first | omega | rfl
                        | refine Or.inr ?_
                          refine And.intro ?_ ?_
                          · first | omega | rfl
                          · first | omega | rfl
    refine j_tsO (pc := 15) (tgt := 105) (by decide) ds_X11_match_15 (by omega) (by decide) (by decide) ?_
    refine j_blx (F := fX11) tb_X11 (nn_ _) bk_X11_match_e_105 bs_X11_match_e_105 hz (fun K hK => ?_)
    refine And.intro (fun c12 => ?_) (fun c12 => ?_)
    · refine hK 120 _ [] T ?_
      refine j_blx (F := fX11) tb_X11 (nn_ _) bk_X11_match_e_120 bs_X11_match_e_120 hz (fun K hK => ?_)
      refine (show po_X11_match_e T m w T (some (vI (-3))) from ?_)
      refine ⟨rfl, _, rfl, ?_⟩
      first
      | assumption
      | refine Or.inl ?_
        refine And.intro ?_ ?_
        · first | omega | rfl
        · first | omega | rfl
      | refine Or.inr ?_
        refine And.intro ?_ ?_
        · refine And.intro ?_ ?_
          · first | omega | rfl
          · first | omega | rfl
        · first
          | assumption
          | refine Or.inl ?_
            refine And.intro ?_ ?_
            · first | omega | rfl
            · first | omega | rfl
          | refine Or.inr ?_
            first
            | assumption
            | refine Or.inl ?_
              refine And.intro ?_ ?_
              · first | omega | rfl
              · first | omega | rfl
            | refine Or.inr ?_
              first
              | assumption
              | refine Or.inl ?_
                refine And.intro ?_ ?_
                · first | omega | rfl
                · first | omega | rfl
              | refine Or.inr ?_
                first
                | assumption
                | refine Or.inl ?_
                  refine And.intro ?_ ?_
                  · first | omega | rfl
                  · first | omega | rfl
                | refine Or.inr ?_
                  first
                  | assumption
                  | refine Or.inl ?_
                    refine And.intro ?_ ?_
                    · first | omega | rfl
                    · first | omega | rfl
                  | refine Or.inr ?_
                    first
                    | assumption
                    | refine Or.inl ?_
                      refine And.intro ?_ ?_
                      · first | omega | rfl
                      · first | omega | rfl
                    | refine Or.inr ?_
                      first
                      | assumption
                      | refine Or.inl ?_
                        refine And.intro ?_ ?_
                        · first | omega | rfl
                        · first | omega | rfl
                      | refine Or.inr ?_
                        first
                        | assumption
                        | refine Or.inl ?_
                          refine And.intro ?_ ?_
                          · first | omega | rfl
                          · first | omega | rfl
                        | refine Or.inr ?_
                          refine And.intro ?_ ?_
                          · first | omega | rfl
                          · first | omega | rfl
    · refine ix_i (by omega) ?_
      intro b13 b13b
      refine hK 122 _ [vI (T 237 0 m)] T ?_
      refine j_blx (F := fX11) tb_X11 (nn_ _) bk_X11_match_e_122 bs_X11_match_e_122 hz (fun K hK => ?_)
      refine (show po_X11_match_e T m w T (some (vI (T 237 0 m))) from ?_)
      refine ⟨rfl, _, rfl, ?_⟩
      first
      | assumption
      | refine Or.inl ?_
        refine And.intro ?_ ?_
        · first | omega | rfl
        · first | omega | rfl
      | refine Or.inr ?_
        refine And.intro ?_ ?_
        · refine And.intro ?_ ?_
          · first | omega | rfl
          · first | omega | rfl
        · first
          | assumption
          | refine Or.inl ?_
            refine And.intro ?_ ?_
            · first | omega | rfl
            · first | omega | rfl
          | refine Or.inr ?_
            first
            | assumption
            | refine Or.inl ?_
              refine And.intro ?_ ?_
              · first | omega | rfl
              · first | omega | rfl
            | refine Or.inr ?_
              first
              | assumption
              | refine Or.inl ?_
                refine And.intro ?_ ?_
                · first | omega | rfl
                · first | omega | rfl
              | refine Or.inr ?_
                first
                | assumption
                | refine Or.inl ?_
                  refine And.intro ?_ ?_
                  · first | omega | rfl
                  · first | omega | rfl
                | refine Or.inr ?_
                  first
                  | assumption
                  | refine Or.inl ?_
                    refine And.intro ?_ ?_
                    · first | omega | rfl
                    · first | omega | rfl
                  | refine Or.inr ?_
                    first
                    | assumption
                    | refine Or.inl ?_
                      refine And.intro ?_ ?_
                      · first | omega | rfl
                      · first | omega | rfl
                    | refine Or.inr ?_
                      first
                      | assumption
                      | refine Or.inl ?_
                        refine And.intro ?_ ?_
                        · first | omega | rfl
                        · first | omega | rfl
                      | refine Or.inr ?_
                        first
                        | assumption
                        | refine Or.inl ?_
                          refine And.intro ?_ ?_
                          · first | omega | rfl
                          · first | omega | rfl
                        | refine Or.inr ?_
                          refine And.intro ?_ ?_
                          · first | omega | rfl
                          · first | omega | rfl
  · replace hx2 := hx2.resolve_left (fun z => absurd (c3.symm.trans z.1) (by decide))
    clear c3
    refine (show po_X11_match_e T m w T (some (vI (-2))) from ?_)
    refine ⟨rfl, _, rfl, ?_⟩
    first
    | assumption
    | refine Or.inl ?_
      refine And.intro ?_ ?_
      · first | omega | rfl
      · first | omega | rfl
    | refine Or.inr ?_
      refine And.intro ?_ ?_
      · refine And.intro ?_ ?_
        · first | omega | rfl
        · first | omega | rfl
      · first
        | assumption
        | refine Or.inl ?_
          refine And.intro ?_ ?_
          · first | omega | rfl
          · first | omega | rfl
        | refine Or.inr ?_
          first
          | assumption
          | refine Or.inl ?_
            refine And.intro ?_ ?_
            · first | omega | rfl
            · first | omega | rfl
          | refine Or.inr ?_
            first
            | assumption
            | refine Or.inl ?_
              refine And.intro ?_ ?_
              · first | omega | rfl
              · first | omega | rfl
            | refine Or.inr ?_
              first
              | assumption
              | refine Or.inl ?_
                refine And.intro ?_ ?_
                · first | omega | rfl
                · first | omega | rfl
              | refine Or.inr ?_
                first
                | assumption
                | refine Or.inl ?_
                  refine And.intro ?_ ?_
                  · first | omega | rfl
                  · first | omega | rfl
                | refine Or.inr ?_
                  first
                  | assumption
                  | refine Or.inl ?_
                    refine And.intro ?_ ?_
                    · first | omega | rfl
                    · first | omega | rfl
                  | refine Or.inr ?_
                    first
                    | assumption
                    | refine Or.inl ?_
                      refine And.intro ?_ ?_
                      · first | omega | rfl
                      · first | omega | rfl
                    | refine Or.inr ?_
                      first
                      | assumption
                      | refine Or.inl ?_
                        refine And.intro ?_ ?_
                        · first | omega | rfl
                        · first | omega | rfl
                      | refine Or.inr ?_
                        refine And.intro ?_ ?_
                        · first | omega | rfl
                        · first | omega | rfl
theorem bk_X11_rows_e_0 : ck_ fX11 (some .int) cX11_rows 0 [.iload 1, .aload 0, .tableswitch 0 11 29 #[]] 5 = true := qck_r (nn_ _) (by decide +kernel)
theorem bs_X11_rows_e_0 {P : Zt → Option Zv → Prop} (K : Int → Zl → List Zv → Zt → Prop) : sx_ K P [.iload 1, .aload 0, .tableswitch 0 11 29 #[]] 5 = x_iload 1 (x_aload 0 (x_g0 111 29 0 400 (K 5))) := ((xe_iload 1).trans (congrArg (x_iload 1) ((xe_aload 0).trans (congrArg (x_aload 0) ((xe_g0 (kk := 111) rfl tl_11_29).trans (congrArg (x_g0 111 29 0 400) xe_nil))))))
theorem bk_X11_rows_e_8 : ck_ fX11 (some .int) cX11_rows 8 [.ifCond .ne 14, .iconst (-2), .ireturn] 14 = true := qck_r (nn_ _) (by decide +kernel)
theorem bs_X11_rows_e_8 {P : Zt → Option Zv → Prop} (K : Int → Zl → List Zv → Zt → Prop) : sx_ K P [.ifCond .ne 14, .iconst (-2), .ireturn] 14 = x_ifCond .ne 14 K (x_iconst (-2) (x_ireturn P)) := ((xe_ifCond .ne 14).trans (congrArg (x_ifCond .ne 14 K) ((xe_iconst (-2)).trans (congrArg (x_iconst (-2)) (xe_ireturn)))))
theorem bk_X11_rows_e_14 : ck_ fX11 (some .int) cX11_rows 14 [.iload 2, .ifCond .ne 27, .aload 0, .tableswitch 0 11 54 #[], .iload 1, .iaload, .goto 43] 27 = true := qck_r (nn_ _) (by decide +kernel)
theorem bs_X11_rows_e_14 {P : Zt → Option Zv → Prop} (K : Int → Zl → List Zv → Zt → Prop) : sx_ K P [.iload 2, .ifCond .ne 27, .aload 0, .tableswitch 0 11 54 #[], .iload 1, .iaload, .goto 43] 27 = x_iload 2 (x_ifCond .ne 27 K (x_aload 0 (x_g1 111 254 (x_iload 1 (x_iaload (x_goto 43 K)))))) := ((xe_iload 2).trans (congrArg (x_iload 2) ((xe_ifCond .ne 27).trans (congrArg (x_ifCond .ne 27 K) ((xe_aload 0).trans (congrArg (x_aload 0) ((xe_g1 (kk := 111) rfl tl_11_54).trans (congrArg (x_g1 111 254) ((xe_iload 1).trans (congrArg (x_iload 1) ((xe_iaload).trans (congrArg (x_iaload) (xe_goto 43)))))))))))))
theorem bk_X11_rows_e_27 : ck_ fX11 (some .int) cX11_rows 27 [.iload 2, .iconst 1, .if_icmp .ne 41, .aload 0, .tableswitch 0 11 56 #[], .iload 1, .iaload, .goto 43] 41 = true := qck_r (nn_ _) (by decide +kernel)
theorem bs_X11_rows_e_27 {P : Zt → Option Zv → Prop} (K : Int → Zl → List Zv → Zt → Prop) : sx_ K P [.iload 2, .iconst 1, .if_icmp .ne 41, .aload 0, .tableswitch 0 11 56 #[], .iload 1, .iaload, .goto 43] 41 = x_iload 2 (x_iconst 1 (x_if_icmp .ne 41 K (x_aload 0 (x_g1 111 256 (x_iload 1 (x_iaload (x_goto 43 K))))))) := ((xe_iload 2).trans (congrArg (x_iload 2) ((xe_iconst 1).trans (congrArg (x_iconst 1) ((xe_if_icmp .ne 41).trans (congrArg (x_if_icmp .ne 41 K) ((xe_aload 0).trans (congrArg (x_aload 0) ((xe_g1 (kk := 111) rfl tl_11_56).trans (congrArg (x_g1 111 256) ((xe_iload 1).trans (congrArg (x_iload 1) ((xe_iaload).trans (congrArg (x_iaload) (xe_goto 43)))))))))))))))
theorem bk_X11_rows_e_41 : ck_ fX11 (some .int) cX11_rows 41 [.iconst (-3), .ireturn] 44 = true := qck_r (nn_ _) (by decide +kernel)
theorem bs_X11_rows_e_41 {P : Zt → Option Zv → Prop} (K : Int → Zl → List Zv → Zt → Prop) : sx_ K P [.iconst (-3), .ireturn] 44 = x_iconst (-3) (x_ireturn P) := ((xe_iconst (-3)).trans (congrArg (x_iconst (-3)) (xe_ireturn)))
theorem bk_X11_rows_e_43 : ck_ fX11 (some .int) cX11_rows 43 [.ireturn] 44 = true := qck_r (nn_ _) (by decide +kernel)
theorem bs_X11_rows_e_43 {P : Zt → Option Zv → Prop} (K : Int → Zl → List Zv → Zt → Prop) : sx_ K P [.ireturn] 44 = x_ireturn P := (xe_ireturn)
abbrev po_X11_rows_e (T : Zt) (m w : Int) : Zt → Option Zv → Prop := fun T' r => T = T' ∧ ∃ x : Int, r = some (vI x) ∧ ((x = -2 ∧ ¬ (0 ≤ m ∧ m < T 111 0 29)) ∨ ((0 ≤ m ∧ m < T 111 0 29) ∧ ((¬ (0 ≤ w ∧ w ≤ 1) ∧ x = -3) ∨ (w = 0 ∧ x = T 254 0 m) ∨ (w = 1 ∧ x = T 256 0 m))))
set_option maxHeartbeats 4000000 in
theorem ct_X11_rows_e {T : Zt} {m w : Int} : Ct_ yX11_rows zX11_rows T [vR 111 0, vI m, vI w] (po_X11_rows_e T m w) := by
  refine ct_of pn_11 rfl rfl (Nat.le_of_ble_eq_true rfl) (fun hT hav => ?_)
  have hr_m : -2147483648 ≤ m ∧ m ≤ 2147483647 := hav (vI m) (List.mem_cons_of_mem _ List.mem_cons_self)
  have hr_w : -2147483648 ≤ w ∧ w ≤ 2147483647 := hav (vI w) (List.mem_cons_of_mem _ (List.mem_cons_of_mem _ List.mem_cons_self))
  have hz : zX11_rows.2.2.2.1 = some .boolean → ∀ (T' : Zt) (x : Int), po_X11_rows_e T m w T' (some (vI x)) → 0 ≤ x ∧ x ≤ 1 := fun h => by cases h
  have hb_29 : 0 ≤ T 111 0 29 ∧ T 111 0 29 ≤ 400 := bd_f hT 111 29 tl_11_29 0
  show J_ zX11_rows T (po_X11_rows_e T m w) 0 0 0 [some (vR 111 0), some (vI m), some (vI w)] [] T
  refine j_blx (F := fX11) tb_X11 (nn_ _) bk_X11_rows_e_0 bs_X11_rows_e_0 hz (fun K hK => ?_)
  intro b1 b1b
  refine hK 5 _ [vI (T 111 0 29), vI m] T ?_
  refine j_callS (y := yX11_isOf) (Yc := zX11_isOf) (rest := []) [vI m, vI (T 111 0 29)] (ct_X11_isOf (T := T) (by omega)) cl_X11_317 (qd_c (by decide +kernel)) (nn_ _) rfl (rf_of rfl) (Nat.le_of_ble_eq_true rfl) (Nat.le_of_ble_eq_true rfl) (Nat.le_of_ble_eq_true rfl) rfl ?_
  rintro _ _ ⟨rfl, x2, rfl, hx2⟩
  show J_ zX11_rows T (po_X11_rows_e T m w) 0 0 8 _ [vI x2] T
  refine j_blx (F := fX11) tb_X11 (nn_ _) bk_X11_rows_e_8 bs_X11_rows_e_8 hz (fun K hK => ?_)
  refine And.intro (fun c3 => ?_) (fun c3 => ?_)
  · replace hx2 := hx2.resolve_right (fun z => c3 z.1)
    clear c3
    refine hK 14 _ [] T ?_
    refine j_blx (F := fX11) tb_X11 (nn_ _) bk_X11_rows_e_14 bs_X11_rows_e_14 hz (fun K hK => ?_)
    refine And.intro (fun c4 => ?_) (fun c4 => ?_)
    · refine hK 27 _ [] T ?_
      refine j_blx (F := fX11) tb_X11 (nn_ _) bk_X11_rows_e_27 bs_X11_rows_e_27 hz (fun K hK => ?_)
      refine And.intro (fun c5 => ?_) (fun c5 => ?_)
      · refine hK 41 _ [] T ?_
        refine j_blx (F := fX11) tb_X11 (nn_ _) bk_X11_rows_e_41 bs_X11_rows_e_41 hz (fun K hK => ?_)
        refine (show po_X11_rows_e T m w T (some (vI (-3))) from ?_)
        refine ⟨rfl, _, rfl, ?_⟩
        first
        | assumption
        | refine Or.inl ?_
          refine And.intro ?_ ?_
          · first | omega | rfl
          · first | omega | rfl
        | refine Or.inr ?_
          refine And.intro ?_ ?_
          · refine And.intro ?_ ?_
            · first | omega | rfl
            · first | omega | rfl
          · first
            | assumption
            | refine Or.inl ?_
              refine And.intro ?_ ?_
              · first | omega | rfl
              · first | omega | rfl
            | refine Or.inr ?_
              first
              | assumption
              | refine Or.inl ?_
                refine And.intro ?_ ?_
                · first | omega | rfl
                · first | omega | rfl
              | refine Or.inr ?_
                refine And.intro ?_ ?_
                · first | omega | rfl
                · first | omega | rfl
      · refine ix_i (by omega) ?_
        intro b6 b6b
        refine hK 43 _ [vI (T 256 0 m)] T ?_
        refine j_blx (F := fX11) tb_X11 (nn_ _) bk_X11_rows_e_43 bs_X11_rows_e_43 hz (fun K hK => ?_)
        refine (show po_X11_rows_e T m w T (some (vI (T 256 0 m))) from ?_)
        refine ⟨rfl, _, rfl, ?_⟩
        first
        | assumption
        | refine Or.inl ?_
          refine And.intro ?_ ?_
          · first | omega | rfl
          · first | omega | rfl
        | refine Or.inr ?_
          refine And.intro ?_ ?_
          · refine And.intro ?_ ?_
            · first | omega | rfl
            · first | omega | rfl
          · first
            | assumption
            | refine Or.inl ?_
              refine And.intro ?_ ?_
              · first | omega | rfl
              · first | omega | rfl
            | refine Or.inr ?_
              first
              | assumption
              | refine Or.inl ?_
                refine And.intro ?_ ?_
                · first | omega | rfl
                · first | omega | rfl
              | refine Or.inr ?_
                refine And.intro ?_ ?_
                · first | omega | rfl
                · first | omega | rfl
    · refine ix_i (by omega) ?_
      intro b7 b7b
      refine hK 43 _ [vI (T 254 0 m)] T ?_
      refine j_blx (F := fX11) tb_X11 (nn_ _) bk_X11_rows_e_43 bs_X11_rows_e_43 hz (fun K hK => ?_)
      refine (show po_X11_rows_e T m w T (some (vI (T 254 0 m))) from ?_)
      refine ⟨rfl, _, rfl, ?_⟩
      first
      | assumption
      | refine Or.inl ?_
        refine And.intro ?_ ?_
        · first | omega | rfl
        · first | omega | rfl
      | refine Or.inr ?_
        refine And.intro ?_ ?_
        · refine And.intro ?_ ?_
          · first | omega | rfl
          · first | omega | rfl
        · first
          | assumption
          | refine Or.inl ?_
            refine And.intro ?_ ?_
            · first | omega | rfl
            · first | omega | rfl
          | refine Or.inr ?_
            first
            | assumption
            | refine Or.inl ?_
              refine And.intro ?_ ?_
              · first | omega | rfl
              · first | omega | rfl
            | refine Or.inr ?_
              refine And.intro ?_ ?_
              · first | omega | rfl
              · first | omega | rfl
  · replace hx2 := hx2.resolve_left (fun z => absurd (c3.symm.trans z.1) (by decide))
    clear c3
    refine (show po_X11_rows_e T m w T (some (vI (-2))) from ?_)
    refine ⟨rfl, _, rfl, ?_⟩
    first
    | assumption
    | refine Or.inl ?_
      refine And.intro ?_ ?_
      · first | omega | rfl
      · first | omega | rfl
    | refine Or.inr ?_
      refine And.intro ?_ ?_
      · refine And.intro ?_ ?_
        · first | omega | rfl
        · first | omega | rfl
      · first
        | assumption
        | refine Or.inl ?_
          refine And.intro ?_ ?_
          · first | omega | rfl
          · first | omega | rfl
        | refine Or.inr ?_
          first
          | assumption
          | refine Or.inl ?_
            refine And.intro ?_ ?_
            · first | omega | rfl
            · first | omega | rfl
          | refine Or.inr ?_
            refine And.intro ?_ ?_
            · first | omega | rfl
            · first | omega | rfl
theorem bk_X11_state_e_0 : ck_ fX11 (some .int) cX11_state 0 [.iload 1, .aload 0, .tableswitch 0 11 29 #[]] 5 = true := qck_r (nn_ _) (by decide +kernel)
theorem bs_X11_state_e_0 {P : Zt → Option Zv → Prop} (K : Int → Zl → List Zv → Zt → Prop) : sx_ K P [.iload 1, .aload 0, .tableswitch 0 11 29 #[]] 5 = x_iload 1 (x_aload 0 (x_g0 111 29 0 400 (K 5))) := ((xe_iload 1).trans (congrArg (x_iload 1) ((xe_aload 0).trans (congrArg (x_aload 0) ((xe_g0 (kk := 111) rfl tl_11_29).trans (congrArg (x_g0 111 29 0 400) xe_nil))))))
theorem bk_X11_state_e_8 : ck_ fX11 (some .int) cX11_state 8 [.ifCond .ne 14, .iconst (-2), .ireturn] 14 = true := qck_r (nn_ _) (by decide +kernel)
theorem bs_X11_state_e_8 {P : Zt → Option Zv → Prop} (K : Int → Zl → List Zv → Zt → Prop) : sx_ K P [.ifCond .ne 14, .iconst (-2), .ireturn] 14 = x_ifCond .ne 14 K (x_iconst (-2) (x_ireturn P)) := ((xe_ifCond .ne 14).trans (congrArg (x_ifCond .ne 14 K) ((xe_iconst (-2)).trans (congrArg (x_iconst (-2)) (xe_ireturn)))))
theorem bk_X11_state_e_14 : ck_ fX11 (some .int) cX11_state 14 [.iload 2, .iconst 0, .iconst 7] 18 = true := qck_r (nn_ _) (by decide +kernel)
theorem bs_X11_state_e_14 {P : Zt → Option Zv → Prop} (K : Int → Zl → List Zv → Zt → Prop) : sx_ K P [.iload 2, .iconst 0, .iconst 7] 18 = x_iload 2 (x_iconst 0 (x_iconst 7 (K 18))) := ((xe_iload 2).trans (congrArg (x_iload 2) ((xe_iconst 0).trans (congrArg (x_iconst 0) ((xe_iconst 7).trans (congrArg (x_iconst 7) xe_nil))))))
theorem bk_X11_state_e_21 : ck_ fX11 (some .int) cX11_state 21 [.ifCond .ne 27, .iconst (-3), .ireturn] 27 = true := qck_r (nn_ _) (by decide +kernel)
theorem bs_X11_state_e_21 {P : Zt → Option Zv → Prop} (K : Int → Zl → List Zv → Zt → Prop) : sx_ K P [.ifCond .ne 27, .iconst (-3), .ireturn] 27 = x_ifCond .ne 27 K (x_iconst (-3) (x_ireturn P)) := ((xe_ifCond .ne 27).trans (congrArg (x_ifCond .ne 27 K) ((xe_iconst (-3)).trans (congrArg (x_iconst (-3)) (xe_ireturn)))))
theorem bk_X11_state_e_27 : ck_ fX11 (some .int) cX11_state 27 [.aload 0, .tableswitch 0 11 35 #[], .iload 1, .iaload, .iconst 1, .if_icmp .eq 47, .aload 0, .tableswitch 0 11 35 #[], .iload 1, .iaload, .iconst 2, .if_icmp .ne 56, .aload 0, .iload 1, .iload 2] 50 = true := qck_r (nn_ _) (by decide +kernel)
theorem bs_X11_state_e_27 {P : Zt → Option Zv → Prop} (K : Int → Zl → List Zv → Zt → Prop) : sx_ K P [.aload 0, .tableswitch 0 11 35 #[], .iload 1, .iaload, .iconst 1, .if_icmp .eq 47, .aload 0, .tableswitch 0 11 35 #[], .iload 1, .iaload, .iconst 2, .if_icmp .ne 56, .aload 0, .iload 1, .iload 2] 50 = x_aload 0 (x_g1 111 235 (x_iload 1 (x_iaload (x_iconst 1 (x_if_icmp .eq 47 K (x_aload 0 (x_g1 111 235 (x_iload 1 (x_iaload (x_iconst 2 (x_if_icmp .ne 56 K (x_aload 0 (x_iload 1 (x_iload 2 (K 50))))))))))))))) := ((xe_aload 0).trans (congrArg (x_aload 0) ((xe_g1 (kk := 111) rfl tl_11_35).trans (congrArg (x_g1 111 235) ((xe_iload 1).trans (congrArg (x_iload 1) ((xe_iaload).trans (congrArg (x_iaload) ((xe_iconst 1).trans (congrArg (x_iconst 1) ((xe_if_icmp .eq 47).trans (congrArg (x_if_icmp .eq 47 K) ((xe_aload 0).trans (congrArg (x_aload 0) ((xe_g1 (kk := 111) rfl tl_11_35).trans (congrArg (x_g1 111 235) ((xe_iload 1).trans (congrArg (x_iload 1) ((xe_iaload).trans (congrArg (x_iaload) ((xe_iconst 2).trans (congrArg (x_iconst 2) ((xe_if_icmp .ne 56).trans (congrArg (x_if_icmp .ne 56 K) ((xe_aload 0).trans (congrArg (x_aload 0) ((xe_iload 1).trans (congrArg (x_iload 1) ((xe_iload 2).trans (congrArg (x_iload 2) xe_nil))))))))))))))))))))))))))))))
theorem bk_X11_state_e_47 : ck_ fX11 (some .int) cX11_state 47 [.aload 0, .iload 1, .iload 2] 50 = true := qck_r (nn_ _) (by decide +kernel)
theorem bs_X11_state_e_47 {P : Zt → Option Zv → Prop} (K : Int → Zl → List Zv → Zt → Prop) : sx_ K P [.aload 0, .iload 1, .iload 2] 50 = x_aload 0 (x_iload 1 (x_iload 2 (K 50))) := ((xe_aload 0).trans (congrArg (x_aload 0) ((xe_iload 1).trans (congrArg (x_iload 1) ((xe_iload 2).trans (congrArg (x_iload 2) xe_nil))))))
theorem bk_X11_state_e_53 : ck_ fX11 (some .int) cX11_state 53 [.goto 58] 56 = true := qck_r (nn_ _) (by decide +kernel)
theorem bs_X11_state_e_53 {P : Zt → Option Zv → Prop} (K : Int → Zl → List Zv → Zt → Prop) : sx_ K P [.goto 58] 56 = x_goto 58 K := (xe_goto 58)
theorem bk_X11_state_e_58 : ck_ fX11 (some .int) cX11_state 58 [.ireturn] 59 = true := qck_r (nn_ _) (by decide +kernel)
theorem bs_X11_state_e_58 {P : Zt → Option Zv → Prop} (K : Int → Zl → List Zv → Zt → Prop) : sx_ K P [.ireturn] 59 = x_ireturn P := (xe_ireturn)
theorem bk_X11_state_e_56 : ck_ fX11 (some .int) cX11_state 56 [.iconst (-4), .ireturn] 59 = true := qck_r (nn_ _) (by decide +kernel)
theorem bs_X11_state_e_56 {P : Zt → Option Zv → Prop} (K : Int → Zl → List Zv → Zt → Prop) : sx_ K P [.iconst (-4), .ireturn] 59 = x_iconst (-4) (x_ireturn P) := ((xe_iconst (-4)).trans (congrArg (x_iconst (-4)) (xe_ireturn)))
abbrev po_X11_state_e (T : Zt) (m w : Int) : Zt → Option Zv → Prop := fun T' r => T = T' ∧ ∃ x : Int, r = some (vI x) ∧ ((x = -2 ∧ ¬ (0 ≤ m ∧ m < T 111 0 29)) ∨ ((0 ≤ m ∧ m < T 111 0 29) ∧ ((¬ (0 ≤ w ∧ w ≤ 7) ∧ x = -3) ∨ ((0 ≤ w ∧ w ≤ 7) ∧ ((¬ (T 235 0 m = 1 ∨ T 235 0 m = 2) ∧ x = -4) ∨ ((T 235 0 m = 1 ∨ T 235 0 m = 2) ∧ x = T 246 0 (8 * m + w)))))))
set_option maxHeartbeats 4000000 in
theorem ct_X11_state_e {T : Zt} {m w : Int} : Ct_ yX11_state zX11_state T [vR 111 0, vI m, vI w] (po_X11_state_e T m w) := by
  refine ct_of pn_11 rfl rfl (Nat.le_of_ble_eq_true rfl) (fun hT hav => ?_)
  have hr_m : -2147483648 ≤ m ∧ m ≤ 2147483647 := hav (vI m) (List.mem_cons_of_mem _ List.mem_cons_self)
  have hr_w : -2147483648 ≤ w ∧ w ≤ 2147483647 := hav (vI w) (List.mem_cons_of_mem _ (List.mem_cons_of_mem _ List.mem_cons_self))
  have hz : zX11_state.2.2.2.1 = some .boolean → ∀ (T' : Zt) (x : Int), po_X11_state_e T m w T' (some (vI x)) → 0 ≤ x ∧ x ≤ 1 := fun h => by cases h
  have hb_29 : 0 ≤ T 111 0 29 ∧ T 111 0 29 ≤ 400 := bd_f hT 111 29 tl_11_29 0
  show J_ zX11_state T (po_X11_state_e T m w) 0 0 0 [some (vR 111 0), some (vI m), some (vI w)] [] T
  refine j_blx (F := fX11) tb_X11 (nn_ _) bk_X11_state_e_0 bs_X11_state_e_0 hz (fun K hK => ?_)
  intro b1 b1b
  refine hK 5 _ [vI (T 111 0 29), vI m] T ?_
  refine j_callS (y := yX11_isOf) (Yc := zX11_isOf) (rest := []) [vI m, vI (T 111 0 29)] (ct_X11_isOf (T := T) (by omega)) cl_X11_317 (qd_c (by decide +kernel)) (nn_ _) rfl (rf_of rfl) (Nat.le_of_ble_eq_true rfl) (Nat.le_of_ble_eq_true rfl) (Nat.le_of_ble_eq_true rfl) rfl ?_
  rintro _ _ ⟨rfl, x2, rfl, hx2⟩
  show J_ zX11_state T (po_X11_state_e T m w) 0 0 8 _ [vI x2] T
  refine j_blx (F := fX11) tb_X11 (nn_ _) bk_X11_state_e_8 bs_X11_state_e_8 hz (fun K hK => ?_)
  refine And.intro (fun c3 => ?_) (fun c3 => ?_)
  · replace hx2 := hx2.resolve_right (fun z => c3 z.1)
    clear c3
    refine hK 14 _ [] T ?_
    refine j_blx (F := fX11) tb_X11 (nn_ _) bk_X11_state_e_14 bs_X11_state_e_14 hz (fun K hK => ?_)
    refine hK 18 _ [vI 7, vI 0, vI w] T ?_
    refine j_callS (y := yX11_in) (Yc := zX11_in) (rest := []) [vI w, vI 0, vI 7] (ct_X11_in (T := T)) cl_X11_255 (qd_c (by decide +kernel)) (nn_ _) rfl (rf_of rfl) (Nat.le_of_ble_eq_true rfl) (Nat.le_of_ble_eq_true rfl) (Nat.le_of_ble_eq_true rfl) rfl ?_
    rintro _ _ ⟨rfl, x4, rfl, hx4⟩
    show J_ zX11_state T (po_X11_state_e T m w) 0 0 21 _ [vI x4] T
    refine j_blx (F := fX11) tb_X11 (nn_ _) bk_X11_state_e_21 bs_X11_state_e_21 hz (fun K hK => ?_)
    refine And.intro (fun c5 => ?_) (fun c5 => ?_)
    · replace hx4 := hx4.resolve_right (fun z => c5 z.1)
      clear c5
      refine hK 27 _ [] T ?_
      refine j_blx (F := fX11) tb_X11 (nn_ _) bk_X11_state_e_27 bs_X11_state_e_27 hz (fun K hK => ?_)
      refine ix_i (by omega) ?_
      intro b6 b6b
      refine And.intro (fun c7 => ?_) (fun c7 => ?_)
      · refine hK 47 _ [] T ?_
        refine j_blx (F := fX11) tb_X11 (nn_ _) bk_X11_state_e_47 bs_X11_state_e_47 hz (fun K hK => ?_)
        refine hK 50 _ [vI w, vI m, vR 111 0] T ?_
        refine j_callV (y := yX11_liveOf) (Yc := zX11_liveOf) (rest := []) [vI m, vI w] (ct_X11_liveOf (T := T) (by omega) (by omega)) cl_X11_400 (qd_c (by decide +kernel)) (nn_ _) rfl (rf_of rfl) (Nat.le_of_ble_eq_true rfl) (Nat.le_of_ble_eq_true rfl) (Nat.le_of_ble_eq_true rfl) rfl ?_
        rintro _ _ ⟨rfl, rfl⟩
        show J_ zX11_state T (po_X11_state_e T m w) 0 0 53 _ [vI (T 246 0 (8 * m + w))] T
        refine j_blx (F := fX11) tb_X11 (nn_ _) bk_X11_state_e_53 bs_X11_state_e_53 hz (fun K hK => ?_)
        refine hK 58 _ [vI (T 246 0 (8 * m + w))] T ?_
        refine j_blx (F := fX11) tb_X11 (nn_ _) bk_X11_state_e_58 bs_X11_state_e_58 hz (fun K hK => ?_)
        refine (show po_X11_state_e T m w T (some (vI (T 246 0 (8 * m + w)))) from ?_)
        refine ⟨rfl, _, rfl, ?_⟩
        first
        | assumption
        | refine Or.inl ?_
          refine And.intro ?_ ?_
          · first | omega | rfl
          · first | omega | rfl
        | refine Or.inr ?_
          refine And.intro ?_ ?_
          · refine And.intro ?_ ?_
            · first | omega | rfl
            · first | omega | rfl
          · first
            | assumption
            | refine Or.inl ?_
              refine And.intro ?_ ?_
              · first | omega | rfl
              · first | omega | rfl
            | refine Or.inr ?_
              refine And.intro ?_ ?_
              · refine And.intro ?_ ?_
                · first | omega | rfl
                · first | omega | rfl
              · first
                | assumption
                | refine Or.inl ?_
                  refine And.intro ?_ ?_
                  · first | omega | rfl
                  · first | omega | rfl
                | refine Or.inr ?_
                  refine And.intro ?_ ?_
                  · first | omega | rfl
                  · first | omega | rfl
                | omega
            | omega
      · refine ix_i (by omega) ?_
        intro b8 b8b
        refine And.intro (fun c9 => ?_) (fun c9 => ?_)
        · refine hK 56 _ [] T ?_
          refine j_blx (F := fX11) tb_X11 (nn_ _) bk_X11_state_e_56 bs_X11_state_e_56 hz (fun K hK => ?_)
          refine (show po_X11_state_e T m w T (some (vI (-4))) from ?_)
          refine ⟨rfl, _, rfl, ?_⟩
          first
          | assumption
          | refine Or.inl ?_
            refine And.intro ?_ ?_
            · first | omega | rfl
            · first | omega | rfl
          | refine Or.inr ?_
            refine And.intro ?_ ?_
            · refine And.intro ?_ ?_
              · first | omega | rfl
              · first | omega | rfl
            · first
              | assumption
              | refine Or.inl ?_
                refine And.intro ?_ ?_
                · first | omega | rfl
                · first | omega | rfl
              | refine Or.inr ?_
                refine And.intro ?_ ?_
                · refine And.intro ?_ ?_
                  · first | omega | rfl
                  · first | omega | rfl
                · first
                  | assumption
                  | refine Or.inl ?_
                    refine And.intro ?_ ?_
                    · first | omega | rfl
                    · first | omega | rfl
                  | refine Or.inr ?_
                    refine And.intro ?_ ?_
                    · first | omega | rfl
                    · first | omega | rfl
                  | omega
              | omega
        · refine hK 50 _ [vI w, vI m, vR 111 0] T ?_
          refine j_callV (y := yX11_liveOf) (Yc := zX11_liveOf) (rest := []) [vI m, vI w] (ct_X11_liveOf (T := T) (by omega) (by omega)) cl_X11_400 (qd_c (by decide +kernel)) (nn_ _) rfl (rf_of rfl) (Nat.le_of_ble_eq_true rfl) (Nat.le_of_ble_eq_true rfl) (Nat.le_of_ble_eq_true rfl) rfl ?_
          rintro _ _ ⟨rfl, rfl⟩
          show J_ zX11_state T (po_X11_state_e T m w) 0 0 53 _ [vI (T 246 0 (8 * m + w))] T
          refine j_blx (F := fX11) tb_X11 (nn_ _) bk_X11_state_e_53 bs_X11_state_e_53 hz (fun K hK => ?_)
          refine hK 58 _ [vI (T 246 0 (8 * m + w))] T ?_
          refine j_blx (F := fX11) tb_X11 (nn_ _) bk_X11_state_e_58 bs_X11_state_e_58 hz (fun K hK => ?_)
          refine (show po_X11_state_e T m w T (some (vI (T 246 0 (8 * m + w)))) from ?_)
          refine ⟨rfl, _, rfl, ?_⟩
          first
          | assumption
          | refine Or.inl ?_
            refine And.intro ?_ ?_
            · first | omega | rfl
            · first | omega | rfl
          | refine Or.inr ?_
            refine And.intro ?_ ?_
            · refine And.intro ?_ ?_
              · first | omega | rfl
              · first | omega | rfl
            · first
              | assumption
              | refine Or.inl ?_
                refine And.intro ?_ ?_
                · first | omega | rfl
                · first | omega | rfl
              | refine Or.inr ?_
                refine And.intro ?_ ?_
                · refine And.intro ?_ ?_
                  · first | omega | rfl
                  · first | omega | rfl
                · first
                  | assumption
                  | refine Or.inl ?_
                    refine And.intro ?_ ?_
                    · first | omega | rfl
                    · first | omega | rfl
                  | refine Or.inr ?_
                    refine And.intro ?_ ?_
                    · first | omega | rfl
                    · first | omega | rfl
                  | omega
              | omega
    · replace hx4 := hx4.resolve_left (fun z => absurd (c5.symm.trans z.1) (by decide))
      clear c5
      refine (show po_X11_state_e T m w T (some (vI (-3))) from ?_)
      refine ⟨rfl, _, rfl, ?_⟩
      first
      | assumption
      | refine Or.inl ?_
        refine And.intro ?_ ?_
        · first | omega | rfl
        · first | omega | rfl
      | refine Or.inr ?_
        refine And.intro ?_ ?_
        · refine And.intro ?_ ?_
          · first | omega | rfl
          · first | omega | rfl
        · first
          | assumption
          | refine Or.inl ?_
            refine And.intro ?_ ?_
            · first | omega | rfl
            · first | omega | rfl
          | refine Or.inr ?_
            refine And.intro ?_ ?_
            · refine And.intro ?_ ?_
              · first | omega | rfl
              · first | omega | rfl
            · first
              | assumption
              | refine Or.inl ?_
                refine And.intro ?_ ?_
                · first | omega | rfl
                · first | omega | rfl
              | refine Or.inr ?_
                refine And.intro ?_ ?_
                · first | omega | rfl
                · first | omega | rfl
              | omega
          | omega
  · replace hx2 := hx2.resolve_left (fun z => absurd (c3.symm.trans z.1) (by decide))
    clear c3
    refine (show po_X11_state_e T m w T (some (vI (-2))) from ?_)
    refine ⟨rfl, _, rfl, ?_⟩
    first
    | assumption
    | refine Or.inl ?_
      refine And.intro ?_ ?_
      · first | omega | rfl
      · first | omega | rfl
    | refine Or.inr ?_
      refine And.intro ?_ ?_
      · refine And.intro ?_ ?_
        · first | omega | rfl
        · first | omega | rfl
      · first
        | assumption
        | refine Or.inl ?_
          refine And.intro ?_ ?_
          · first | omega | rfl
          · first | omega | rfl
        | refine Or.inr ?_
          refine And.intro ?_ ?_
          · refine And.intro ?_ ?_
            · first | omega | rfl
            · first | omega | rfl
          · first
            | assumption
            | refine Or.inl ?_
              refine And.intro ?_ ?_
              · first | omega | rfl
              · first | omega | rfl
            | refine Or.inr ?_
              refine And.intro ?_ ?_
              · first | omega | rfl
              · first | omega | rfl
            | omega
        | omega
theorem bk_X11_onField_e_51 : ck_ fX11 (some .int) cX11_onField 51 [.istore 4, .iload 4, .ifCond .eq 98, .iload 3, .aload 0, .tableswitch 0 11 44 #[], .iconst 2, .iload 1, .imul, .iload 2, .iadd, .iaload] 69 = true := qck_r (nn_ _) (by decide +kernel)
theorem bs_X11_onField_e_51 {P : Zt → Option Zv → Prop} (K : Int → Zl → List Zv → Zt → Prop) : sx_ K P [.istore 4, .iload 4, .ifCond .eq 98, .iload 3, .aload 0, .tableswitch 0 11 44 #[], .iconst 2, .iload 1, .imul, .iload 2, .iadd, .iaload] 69 = x_istore 4 (x_iload 4 (x_ifCond .eq 98 K (x_iload 3 (x_aload 0 (x_g1 111 244 (x_iconst 2 (x_iload 1 (x_imul (x_iload 2 (x_iadd (x_iaload (K 69)))))))))))) := ((xe_istore 4).trans (congrArg (x_istore 4) ((xe_iload 4).trans (congrArg (x_iload 4) ((xe_ifCond .eq 98).trans (congrArg (x_ifCond .eq 98 K) ((xe_iload 3).trans (congrArg (x_iload 3) ((xe_aload 0).trans (congrArg (x_aload 0) ((xe_g1 (kk := 111) rfl tl_11_44).trans (congrArg (x_g1 111 244) ((xe_iconst 2).trans (congrArg (x_iconst 2) ((xe_iload 1).trans (congrArg (x_iload 1) ((xe_imul).trans (congrArg (x_imul) ((xe_iload 2).trans (congrArg (x_iload 2) ((xe_iadd).trans (congrArg (x_iadd) ((xe_iaload).trans (congrArg (x_iaload) xe_nil))))))))))))))))))))))))
theorem bk_X11_onField_e_98 : ck_ fX11 (some .int) cX11_onField 98 [.iconst (-1), .ireturn] 100 = true := qck_r (nn_ _) (by decide +kernel)
theorem bs_X11_onField_e_98 {P : Zt → Option Zv → Prop} (K : Int → Zl → List Zv → Zt → Prop) : sx_ K P [.iconst (-1), .ireturn] 100 = x_iconst (-1) (x_ireturn P) := ((xe_iconst (-1)).trans (congrArg (x_iconst (-1)) (xe_ireturn)))
theorem bk_X11_onField_e_72 : ck_ fX11 (some .int) cX11_onField 72 [.ifCond .eq 98, .aload 0, .tableswitch 0 11 40 #[], .aload 0, .tableswitch 0 11 45 #[], .iconst 6, .iconst 2, .iload 1, .imul, .iload 2, .iadd, .imul, .iload 3, .iadd, .iaload, .iaload, .goto 99] 98 = true := qck_r (nn_ _) (by decide +kernel)
theorem bs_X11_onField_e_72 {P : Zt → Option Zv → Prop} (K : Int → Zl → List Zv → Zt → Prop) : sx_ K P [.ifCond .eq 98, .aload 0, .tableswitch 0 11 40 #[], .aload 0, .tableswitch 0 11 45 #[], .iconst 6, .iconst 2, .iload 1, .imul, .iload 2, .iadd, .imul, .iload 3, .iadd, .iaload, .iaload, .goto 99] 98 = x_ifCond .eq 98 K (x_aload 0 (x_g1 111 240 (x_aload 0 (x_g1 111 245 (x_iconst 6 (x_iconst 2 (x_iload 1 (x_imul (x_iload 2 (x_iadd (x_imul (x_iload 3 (x_iadd (x_iaload (x_iaload (x_goto 99 K)))))))))))))))) := ((xe_ifCond .eq 98).trans (congrArg (x_ifCond .eq 98 K) ((xe_aload 0).trans (congrArg (x_aload 0) ((xe_g1 (kk := 111) rfl tl_11_40).trans (congrArg (x_g1 111 240) ((xe_aload 0).trans (congrArg (x_aload 0) ((xe_g1 (kk := 111) rfl tl_11_45).trans (congrArg (x_g1 111 245) ((xe_iconst 6).trans (congrArg (x_iconst 6) ((xe_iconst 2).trans (congrArg (x_iconst 2) ((xe_iload 1).trans (congrArg (x_iload 1) ((xe_imul).trans (congrArg (x_imul) ((xe_iload 2).trans (congrArg (x_iload 2) ((xe_iadd).trans (congrArg (x_iadd) ((xe_imul).trans (congrArg (x_imul) ((xe_iload 3).trans (congrArg (x_iload 3) ((xe_iadd).trans (congrArg (x_iadd) ((xe_iaload).trans (congrArg (x_iaload) ((xe_iaload).trans (congrArg (x_iaload) (xe_goto 99)))))))))))))))))))))))))))))))))
theorem bk_X11_onField_e_99 : ck_ fX11 (some .int) cX11_onField 99 [.ireturn] 100 = true := qck_r (nn_ _) (by decide +kernel)
theorem bs_X11_onField_e_99 {P : Zt → Option Zv → Prop} (K : Int → Zl → List Zv → Zt → Prop) : sx_ K P [.ireturn] 100 = x_ireturn P := (xe_ireturn)
theorem bk_X11_onField_e_0 : ck_ fX11 (some .int) cX11_onField 0 [.iload 1, .aload 0, .tableswitch 0 11 29 #[]] 5 = true := qck_r (nn_ _) (by decide +kernel)
theorem bs_X11_onField_e_0 {P : Zt → Option Zv → Prop} (K : Int → Zl → List Zv → Zt → Prop) : sx_ K P [.iload 1, .aload 0, .tableswitch 0 11 29 #[]] 5 = x_iload 1 (x_aload 0 (x_g0 111 29 0 400 (K 5))) := ((xe_iload 1).trans (congrArg (x_iload 1) ((xe_aload 0).trans (congrArg (x_aload 0) ((xe_g0 (kk := 111) rfl tl_11_29).trans (congrArg (x_g0 111 29 0 400) xe_nil))))))
theorem bk_X11_onField_e_8 : ck_ fX11 (some .int) cX11_onField 8 [.ifCond .ne 14, .iconst (-2), .ireturn] 14 = true := qck_r (nn_ _) (by decide +kernel)
theorem bs_X11_onField_e_8 {P : Zt → Option Zv → Prop} (K : Int → Zl → List Zv → Zt → Prop) : sx_ K P [.ifCond .ne 14, .iconst (-2), .ireturn] 14 = x_ifCond .ne 14 K (x_iconst (-2) (x_ireturn P)) := ((xe_ifCond .ne 14).trans (congrArg (x_ifCond .ne 14 K) ((xe_iconst (-2)).trans (congrArg (x_iconst (-2)) (xe_ireturn)))))
theorem bk_X11_onField_e_14 : ck_ fX11 (some .int) cX11_onField 14 [.iload 2, .iconst 0, .iconst 1] 17 = true := qck_r (nn_ _) (by decide +kernel)
theorem bs_X11_onField_e_14 {P : Zt → Option Zv → Prop} (K : Int → Zl → List Zv → Zt → Prop) : sx_ K P [.iload 2, .iconst 0, .iconst 1] 17 = x_iload 2 (x_iconst 0 (x_iconst 1 (K 17))) := ((xe_iload 2).trans (congrArg (x_iload 2) ((xe_iconst 0).trans (congrArg (x_iconst 0) ((xe_iconst 1).trans (congrArg (x_iconst 1) xe_nil))))))
theorem bk_X11_onField_e_20 : ck_ fX11 (some .int) cX11_onField 20 [.ifCond .ne 26, .iconst (-3), .ireturn] 26 = true := qck_r (nn_ _) (by decide +kernel)
theorem bs_X11_onField_e_20 {P : Zt → Option Zv → Prop} (K : Int → Zl → List Zv → Zt → Prop) : sx_ K P [.ifCond .ne 26, .iconst (-3), .ireturn] 26 = x_ifCond .ne 26 K (x_iconst (-3) (x_ireturn P)) := ((xe_ifCond .ne 26).trans (congrArg (x_ifCond .ne 26 K) ((xe_iconst (-3)).trans (congrArg (x_iconst (-3)) (xe_ireturn)))))
theorem bk_X11_onField_e_26 : ck_ fX11 (some .int) cX11_onField 26 [.aload 0, .tableswitch 0 11 35 #[], .iload 1, .iaload, .iconst 1, .if_icmp .eq 46, .aload 0, .tableswitch 0 11 35 #[], .iload 1, .iaload, .iconst 2, .if_icmp .ne 50, .iconst 1, .goto 51] 50 = true := qck_r (nn_ _) (by decide +kernel)
theorem bs_X11_onField_e_26 {P : Zt → Option Zv → Prop} (K : Int → Zl → List Zv → Zt → Prop) : sx_ K P [.aload 0, .tableswitch 0 11 35 #[], .iload 1, .iaload, .iconst 1, .if_icmp .eq 46, .aload 0, .tableswitch 0 11 35 #[], .iload 1, .iaload, .iconst 2, .if_icmp .ne 50, .iconst 1, .goto 51] 50 = x_aload 0 (x_g1 111 235 (x_iload 1 (x_iaload (x_iconst 1 (x_if_icmp .eq 46 K (x_aload 0 (x_g1 111 235 (x_iload 1 (x_iaload (x_iconst 2 (x_if_icmp .ne 50 K (x_iconst 1 (x_goto 51 K))))))))))))) := ((xe_aload 0).trans (congrArg (x_aload 0) ((xe_g1 (kk := 111) rfl tl_11_35).trans (congrArg (x_g1 111 235) ((xe_iload 1).trans (congrArg (x_iload 1) ((xe_iaload).trans (congrArg (x_iaload) ((xe_iconst 1).trans (congrArg (x_iconst 1) ((xe_if_icmp .eq 46).trans (congrArg (x_if_icmp .eq 46 K) ((xe_aload 0).trans (congrArg (x_aload 0) ((xe_g1 (kk := 111) rfl tl_11_35).trans (congrArg (x_g1 111 235) ((xe_iload 1).trans (congrArg (x_iload 1) ((xe_iaload).trans (congrArg (x_iaload) ((xe_iconst 2).trans (congrArg (x_iconst 2) ((xe_if_icmp .ne 50).trans (congrArg (x_if_icmp .ne 50 K) ((xe_iconst 1).trans (congrArg (x_iconst 1) (xe_goto 51)))))))))))))))))))))))))))
theorem bk_X11_onField_e_46 : ck_ fX11 (some .int) cX11_onField 46 [.iconst 1, .goto 51] 50 = true := qck_r (nn_ _) (by decide +kernel)
theorem bs_X11_onField_e_46 {P : Zt → Option Zv → Prop} (K : Int → Zl → List Zv → Zt → Prop) : sx_ K P [.iconst 1, .goto 51] 50 = x_iconst 1 (x_goto 51 K) := ((xe_iconst 1).trans (congrArg (x_iconst 1) (xe_goto 51)))
theorem bk_X11_onField_e_50 : ck_ fX11 (some .int) cX11_onField 50 [.iconst 0] 51 = true := qck_r (nn_ _) (by decide +kernel)
theorem bs_X11_onField_e_50 {P : Zt → Option Zv → Prop} (K : Int → Zl → List Zv → Zt → Prop) : sx_ K P [.iconst 0] 51 = x_iconst 0 (K 51) := ((xe_iconst 0).trans (congrArg (x_iconst 0) xe_nil))
abbrev po_X11_onField_e (T : Zt) (m s i : Int) : Zt → Option Zv → Prop := fun T' r => T = T' ∧ ∃ x : Int, r = some (vI x) ∧ ((x = -2 ∧ ¬ (0 ≤ m ∧ m < T 111 0 29)) ∨ ((0 ≤ m ∧ m < T 111 0 29) ∧ ((¬ (0 ≤ s ∧ s ≤ 1) ∧ x = -3) ∨ ((0 ≤ s ∧ s ≤ 1) ∧ ((¬ ((T 235 0 m = 1 ∨ T 235 0 m = 2) ∧ 0 ≤ i ∧ i < T 244 0 (2 * m + s)) ∧ x = -1) ∨ ((T 235 0 m = 1 ∨ T 235 0 m = 2) ∧ (0 ≤ i ∧ i < T 244 0 (2 * m + s)) ∧ x = T 240 0 (T 245 0 (6 * (2 * m + s) + i))))))))
set_option maxHeartbeats 4000000 in
theorem ct_X11_onField_e {T : Zt} {m s i : Int} : Ct_ yX11_onField zX11_onField T [vR 111 0, vI m, vI s, vI i] (po_X11_onField_e T m s i) := by
  refine ct_of pn_11 rfl rfl (Nat.le_of_ble_eq_true rfl) (fun hT hav => ?_)
  have hr_m : -2147483648 ≤ m ∧ m ≤ 2147483647 := hav (vI m) (List.mem_cons_of_mem _ List.mem_cons_self)
  have hr_s : -2147483648 ≤ s ∧ s ≤ 2147483647 := hav (vI s) (List.mem_cons_of_mem _ (List.mem_cons_of_mem _ List.mem_cons_self))
  have hr_i : -2147483648 ≤ i ∧ i ≤ 2147483647 := hav (vI i) (List.mem_cons_of_mem _ (List.mem_cons_of_mem _ (List.mem_cons_of_mem _ List.mem_cons_self)))
  have hz : zX11_onField.2.2.2.1 = some .boolean → ∀ (T' : Zt) (x : Int), po_X11_onField_e T m s i T' (some (vI x)) → 0 ≤ x ∧ x ≤ 1 := fun h => by cases h
  have hb_29 : 0 ≤ T 111 0 29 ∧ T 111 0 29 ≤ 400 := bd_f hT 111 29 tl_11_29 0
  show J_ zX11_onField T (po_X11_onField_e T m s i) 0 0 0 [some (vR 111 0), some (vI m), some (vI s), some (vI i), none] [] T
  have c_51 : ∀ (v : Int), (0 ≤ m ∧ m < T 111 0 29 ∧ 0 ≤ s ∧ s ≤ 1) → ((v = 1 ∧ (T 235 0 m = 1 ∨ T 235 0 m = 2)) ∨ (v = 0 ∧ ¬ (T 235 0 m = 1 ∨ T 235 0 m = 2))) → J_ zX11_onField T (po_X11_onField_e T m s i) 0 0 51 [some (vR 111 0), some (vI m), some (vI s), some (vI i), none] [vI v] T := by
    intro v p1 p2
    refine j_blx (F := fX11) tb_X11 (nn_ _) bk_X11_onField_e_51 bs_X11_onField_e_51 hz (fun K hK => ?_)
    refine And.intro (fun c1 => ?_) (fun c1 => ?_)
    · refine hK 98 [some (vR 111 0), some (vI m), some (vI s), some (vI i), some (vI v)] [] T ?_
      refine j_blx (F := fX11) tb_X11 (nn_ _) bk_X11_onField_e_98 bs_X11_onField_e_98 hz (fun K hK => ?_)
      refine (show po_X11_onField_e T m s i T (some (vI (-1))) from ?_)
      refine ⟨rfl, _, rfl, ?_⟩
      first
      | assumption
      | refine Or.inl ?_
        refine And.intro ?_ ?_
        · first | omega | rfl
        · first | omega | rfl
      | refine Or.inr ?_
        refine And.intro ?_ ?_
        · refine And.intro ?_ ?_
          · first | omega | rfl
          · first | omega | rfl
        · first
          | assumption
          | refine Or.inl ?_
            refine And.intro ?_ ?_
            · first | omega | rfl
            · first | omega | rfl
          | refine Or.inr ?_
            refine And.intro ?_ ?_
            · refine And.intro ?_ ?_
              · first | omega | rfl
              · first | omega | rfl
            · first
              | assumption
              | refine Or.inl ?_
                refine And.intro ?_ ?_
                · first | omega | rfl
                · first | omega | rfl
              | refine Or.inr ?_
                refine And.intro ?_ ?_
                · first | omega | rfl
                · refine And.intro ?_ ?_
                  · refine And.intro ?_ ?_
                    · first | omega | rfl
                    · first | omega | rfl
                  · first | omega | rfl
    · refine rg_i (by omega) ?_
      refine rg_i (by omega) ?_
      refine ix_i (by omega) ?_
      intro b2 b2b
      refine hK 69 _ [vI (T 244 0 ((2 * m) + s)), vI i] T ?_
      refine j_callS (y := yX11_isOf) (Yc := zX11_isOf) (rest := []) [vI i, vI (T 244 0 ((2 * m) + s))] (ct_X11_isOf (T := T) (by omega)) cl_X11_317 (qd_c (by decide +kernel)) (nn_ _) rfl (rf_of rfl) (Nat.le_of_ble_eq_true rfl) (Nat.le_of_ble_eq_true rfl) (Nat.le_of_ble_eq_true rfl) rfl ?_
      rintro _ _ ⟨rfl, x3, rfl, hx3⟩
      show J_ zX11_onField T (po_X11_onField_e T m s i) 0 0 72 _ [vI x3] T
      refine j_blx (F := fX11) tb_X11 (nn_ _) bk_X11_onField_e_72 bs_X11_onField_e_72 hz (fun K hK => ?_)
      refine And.intro (fun c4 => ?_) (fun c4 => ?_)
      · replace hx3 := hx3.resolve_left (fun z => absurd (c4.symm.trans z.1) (by decide))
        clear c4
        refine hK 98 _ [] T ?_
        refine j_blx (F := fX11) tb_X11 (nn_ _) bk_X11_onField_e_98 bs_X11_onField_e_98 hz (fun K hK => ?_)
        refine (show po_X11_onField_e T m s i T (some (vI (-1))) from ?_)
        refine ⟨rfl, _, rfl, ?_⟩
        first
        | assumption
        | refine Or.inl ?_
          refine And.intro ?_ ?_
          · first | omega | rfl
          · first | omega | rfl
        | refine Or.inr ?_
          refine And.intro ?_ ?_
          · refine And.intro ?_ ?_
            · first | omega | rfl
            · first | omega | rfl
          · first
            | assumption
            | refine Or.inl ?_
              refine And.intro ?_ ?_
              · first | omega | rfl
              · first | omega | rfl
            | refine Or.inr ?_
              refine And.intro ?_ ?_
              · refine And.intro ?_ ?_
                · first | omega | rfl
                · first | omega | rfl
              · first
                | assumption
                | refine Or.inl ?_
                  refine And.intro ?_ ?_
                  · first | omega | rfl
                  · first | omega | rfl
                | refine Or.inr ?_
                  refine And.intro ?_ ?_
                  · first | omega | rfl
                  · refine And.intro ?_ ?_
                    · refine And.intro ?_ ?_
                      · first | omega | rfl
                      · first | omega | rfl
                    · first | omega | rfl
      · replace hx3 := hx3.resolve_right (fun z => c4 z.1)
        clear c4
        refine rg_i (by omega) ?_
        refine rg_i (by omega) ?_
        refine rg_i (by omega) ?_
        refine rg_i (by omega) ?_
        refine ix_i (by omega) ?_
        intro b5 b5b
        refine ix_i (by omega) ?_
        intro b6 b6b
        refine hK 99 _ [vI (T 240 0 (T 245 0 ((6 * ((2 * m) + s)) + i)))] T ?_
        refine j_blx (F := fX11) tb_X11 (nn_ _) bk_X11_onField_e_99 bs_X11_onField_e_99 hz (fun K hK => ?_)
        refine (show po_X11_onField_e T m s i T (some (vI (T 240 0 (T 245 0 ((6 * ((2 * m) + s)) + i))))) from ?_)
        refine ⟨rfl, _, rfl, ?_⟩
        first
        | assumption
        | refine Or.inl ?_
          refine And.intro ?_ ?_
          · first | omega | rfl
          · first | omega | rfl
        | refine Or.inr ?_
          refine And.intro ?_ ?_
          · refine And.intro ?_ ?_
            · first | omega | rfl
            · first | omega | rfl
          · first
            | assumption
            | refine Or.inl ?_
              refine And.intro ?_ ?_
              · first | omega | rfl
              · first | omega | rfl
            | refine Or.inr ?_
              refine And.intro ?_ ?_
              · refine And.intro ?_ ?_
                · first | omega | rfl
                · first | omega | rfl
              · first
                | assumption
                | refine Or.inl ?_
                  refine And.intro ?_ ?_
                  · first | omega | rfl
                  · first | omega | rfl
                | refine Or.inr ?_
                  refine And.intro ?_ ?_
                  · first | omega | rfl
                  · refine And.intro ?_ ?_
                    · refine And.intro ?_ ?_
                      · first | omega | rfl
                      · first | omega | rfl
                    · first | omega | rfl
  refine j_blx (F := fX11) tb_X11 (nn_ _) bk_X11_onField_e_0 bs_X11_onField_e_0 hz (fun K hK => ?_)
  intro b7 b7b
  refine hK 5 _ [vI (T 111 0 29), vI m] T ?_
  refine j_callS (y := yX11_isOf) (Yc := zX11_isOf) (rest := []) [vI m, vI (T 111 0 29)] (ct_X11_isOf (T := T) (by omega)) cl_X11_317 (qd_c (by decide +kernel)) (nn_ _) rfl (rf_of rfl) (Nat.le_of_ble_eq_true rfl) (Nat.le_of_ble_eq_true rfl) (Nat.le_of_ble_eq_true rfl) rfl ?_
  rintro _ _ ⟨rfl, x8, rfl, hx8⟩
  show J_ zX11_onField T (po_X11_onField_e T m s i) 0 0 8 _ [vI x8] T
  refine j_blx (F := fX11) tb_X11 (nn_ _) bk_X11_onField_e_8 bs_X11_onField_e_8 hz (fun K hK => ?_)
  refine And.intro (fun c9 => ?_) (fun c9 => ?_)
  · replace hx8 := hx8.resolve_right (fun z => c9 z.1)
    clear c9
    refine hK 14 _ [] T ?_
    refine j_blx (F := fX11) tb_X11 (nn_ _) bk_X11_onField_e_14 bs_X11_onField_e_14 hz (fun K hK => ?_)
    refine hK 17 _ [vI 1, vI 0, vI s] T ?_
    refine j_callS (y := yX11_in) (Yc := zX11_in) (rest := []) [vI s, vI 0, vI 1] (ct_X11_in (T := T)) cl_X11_255 (qd_c (by decide +kernel)) (nn_ _) rfl (rf_of rfl) (Nat.le_of_ble_eq_true rfl) (Nat.le_of_ble_eq_true rfl) (Nat.le_of_ble_eq_true rfl) rfl ?_
    rintro _ _ ⟨rfl, x10, rfl, hx10⟩
    show J_ zX11_onField T (po_X11_onField_e T m s i) 0 0 20 _ [vI x10] T
    refine j_blx (F := fX11) tb_X11 (nn_ _) bk_X11_onField_e_20 bs_X11_onField_e_20 hz (fun K hK => ?_)
    refine And.intro (fun c11 => ?_) (fun c11 => ?_)
    · replace hx10 := hx10.resolve_right (fun z => c11 z.1)
      clear c11
      refine hK 26 _ [] T ?_
      refine j_blx (F := fX11) tb_X11 (nn_ _) bk_X11_onField_e_26 bs_X11_onField_e_26 hz (fun K hK => ?_)
      refine ix_i (by omega) ?_
      intro b12 b12b
      refine And.intro (fun c13 => ?_) (fun c13 => ?_)
      · refine hK 46 _ [] T ?_
        refine j_blx (F := fX11) tb_X11 (nn_ _) bk_X11_onField_e_46 bs_X11_onField_e_46 hz (fun K hK => ?_)
        refine hK 51 _ [vI 1] T ?_
        refine c_51 1 ?_ ?_
        · omega
        · omega
      · refine ix_i (by omega) ?_
        intro b14 b14b
        refine And.intro (fun c15 => ?_) (fun c15 => ?_)
        · refine hK 50 _ [] T ?_
          refine j_blx (F := fX11) tb_X11 (nn_ _) bk_X11_onField_e_50 bs_X11_onField_e_50 hz (fun K hK => ?_)
          refine hK 51 _ [vI 0] T ?_
          refine c_51 0 ?_ ?_
          · omega
          · omega
        · refine hK 51 _ [vI 1] T ?_
          refine c_51 1 ?_ ?_
          · omega
          · omega
    · replace hx10 := hx10.resolve_left (fun z => absurd (c11.symm.trans z.1) (by decide))
      clear c11
      refine (show po_X11_onField_e T m s i T (some (vI (-3))) from ?_)
      refine ⟨rfl, _, rfl, ?_⟩
      first
      | assumption
      | refine Or.inl ?_
        refine And.intro ?_ ?_
        · first | omega | rfl
        · first | omega | rfl
      | refine Or.inr ?_
        refine And.intro ?_ ?_
        · refine And.intro ?_ ?_
          · first | omega | rfl
          · first | omega | rfl
        · first
          | assumption
          | refine Or.inl ?_
            refine And.intro ?_ ?_
            · first | omega | rfl
            · first | omega | rfl
          | refine Or.inr ?_
            refine And.intro ?_ ?_
            · refine And.intro ?_ ?_
              · first | omega | rfl
              · first | omega | rfl
            · first
              | assumption
              | refine Or.inl ?_
                refine And.intro ?_ ?_
                · first | omega | rfl
                · first | omega | rfl
              | refine Or.inr ?_
                refine And.intro ?_ ?_
                · first | omega | rfl
                · refine And.intro ?_ ?_
                  · refine And.intro ?_ ?_
                    · first | omega | rfl
                    · first | omega | rfl
                  · first | omega | rfl
  · replace hx8 := hx8.resolve_left (fun z => absurd (c9.symm.trans z.1) (by decide))
    clear c9
    refine (show po_X11_onField_e T m s i T (some (vI (-2))) from ?_)
    refine ⟨rfl, _, rfl, ?_⟩
    first
    | assumption
    | refine Or.inl ?_
      refine And.intro ?_ ?_
      · first | omega | rfl
      · first | omega | rfl
    | refine Or.inr ?_
      refine And.intro ?_ ?_
      · refine And.intro ?_ ?_
        · first | omega | rfl
        · first | omega | rfl
      · first
        | assumption
        | refine Or.inl ?_
          refine And.intro ?_ ?_
          · first | omega | rfl
          · first | omega | rfl
        | refine Or.inr ?_
          refine And.intro ?_ ?_
          · refine And.intro ?_ ?_
            · first | omega | rfl
            · first | omega | rfl
          · first
            | assumption
            | refine Or.inl ?_
              refine And.intro ?_ ?_
              · first | omega | rfl
              · first | omega | rfl
            | refine Or.inr ?_
              refine And.intro ?_ ?_
              · first | omega | rfl
              · refine And.intro ?_ ?_
                · refine And.intro ?_ ?_
                  · first | omega | rfl
                  · first | omega | rfl
                · first | omega | rfl
theorem bk_X11_count_e_0 : ck_ fX11 (some .int) cX11_count 0 [.iload 1] 1 = true := qck_r (nn_ _) (by decide +kernel)
theorem bs_X11_count_e_0 {P : Zt → Option Zv → Prop} (K : Int → Zl → List Zv → Zt → Prop) : sx_ K P [.iload 1] 1 = x_iload 1 (K 1) := ((xe_iload 1).trans (congrArg (x_iload 1) xe_nil))
theorem bk_X11_count_e_44 : ck_ fX11 (some .int) cX11_count 44 [.aload 0, .tableswitch 0 11 12 #[], .ireturn] 49 = true := qck_r (nn_ _) (by decide +kernel)
theorem bs_X11_count_e_44 {P : Zt → Option Zv → Prop} (K : Int → Zl → List Zv → Zt → Prop) : sx_ K P [.aload 0, .tableswitch 0 11 12 #[], .ireturn] 49 = x_aload 0 (x_g0 111 12 0 12 (x_ireturn P)) := ((xe_aload 0).trans (congrArg (x_aload 0) ((xe_g0 (kk := 111) rfl tl_11_12).trans (congrArg (x_g0 111 12 0 12) (xe_ireturn)))))
theorem bk_X11_count_e_49 : ck_ fX11 (some .int) cX11_count 49 [.aload 0, .tableswitch 0 11 15 #[], .ireturn] 54 = true := qck_r (nn_ _) (by decide +kernel)
theorem bs_X11_count_e_49 {P : Zt → Option Zv → Prop} (K : Int → Zl → List Zv → Zt → Prop) : sx_ K P [.aload 0, .tableswitch 0 11 15 #[], .ireturn] 54 = x_aload 0 (x_g0 111 15 0 200 (x_ireturn P)) := ((xe_aload 0).trans (congrArg (x_aload 0) ((xe_g0 (kk := 111) rfl tl_11_15).trans (congrArg (x_g0 111 15 0 200) (xe_ireturn)))))
theorem bk_X11_count_e_54 : ck_ fX11 (some .int) cX11_count 54 [.aload 0, .tableswitch 0 11 16 #[], .ireturn] 59 = true := qck_r (nn_ _) (by decide +kernel)
theorem bs_X11_count_e_54 {P : Zt → Option Zv → Prop} (K : Int → Zl → List Zv → Zt → Prop) : sx_ K P [.aload 0, .tableswitch 0 11 16 #[], .ireturn] 59 = x_aload 0 (x_g0 111 16 0 300 (x_ireturn P)) := ((xe_aload 0).trans (congrArg (x_aload 0) ((xe_g0 (kk := 111) rfl tl_11_16).trans (congrArg (x_g0 111 16 0 300) (xe_ireturn)))))
theorem bk_X11_count_e_59 : ck_ fX11 (some .int) cX11_count 59 [.aload 0, .tableswitch 0 11 21 #[], .ireturn] 64 = true := qck_r (nn_ _) (by decide +kernel)
theorem bs_X11_count_e_59 {P : Zt → Option Zv → Prop} (K : Int → Zl → List Zv → Zt → Prop) : sx_ K P [.aload 0, .tableswitch 0 11 21 #[], .ireturn] 64 = x_aload 0 (x_g0 111 21 0 8 (x_ireturn P)) := ((xe_aload 0).trans (congrArg (x_aload 0) ((xe_g0 (kk := 111) rfl tl_11_21).trans (congrArg (x_g0 111 21 0 8) (xe_ireturn)))))
theorem bk_X11_count_e_64 : ck_ fX11 (some .int) cX11_count 64 [.aload 0, .tableswitch 0 11 6 #[], .ireturn] 69 = true := qck_r (nn_ _) (by decide +kernel)
theorem bs_X11_count_e_64 {P : Zt → Option Zv → Prop} (K : Int → Zl → List Zv → Zt → Prop) : sx_ K P [.aload 0, .tableswitch 0 11 6 #[], .ireturn] 69 = x_aload 0 (x_g0 111 6 0 4 (x_ireturn P)) := ((xe_aload 0).trans (congrArg (x_aload 0) ((xe_g0 (kk := 111) rfl tl_11_6).trans (congrArg (x_g0 111 6 0 4) (xe_ireturn)))))
theorem bk_X11_count_e_69 : ck_ fX11 (some .int) cX11_count 69 [.aload 0, .tableswitch 0 11 29 #[], .ireturn] 74 = true := qck_r (nn_ _) (by decide +kernel)
theorem bs_X11_count_e_69 {P : Zt → Option Zv → Prop} (K : Int → Zl → List Zv → Zt → Prop) : sx_ K P [.aload 0, .tableswitch 0 11 29 #[], .ireturn] 74 = x_aload 0 (x_g0 111 29 0 400 (x_ireturn P)) := ((xe_aload 0).trans (congrArg (x_aload 0) ((xe_g0 (kk := 111) rfl tl_11_29).trans (congrArg (x_g0 111 29 0 400) (xe_ireturn)))))
theorem bk_X11_count_e_74 : ck_ fX11 (some .int) cX11_count 74 [.aload 0, .tableswitch 0 11 47 #[], .ireturn] 79 = true := qck_r (nn_ _) (by decide +kernel)
theorem bs_X11_count_e_74 {P : Zt → Option Zv → Prop} (K : Int → Zl → List Zv → Zt → Prop) : sx_ K P [.aload 0, .tableswitch 0 11 47 #[], .ireturn] 79 = x_aload 0 (x_g0 111 47 0 3000 (x_ireturn P)) := ((xe_aload 0).trans (congrArg (x_aload 0) ((xe_g0 (kk := 111) rfl tl_11_47).trans (congrArg (x_g0 111 47 0 3000) (xe_ireturn)))))
theorem bk_X11_count_e_79 : ck_ fX11 (some .int) cX11_count 79 [.iload 1, .iconst 7, .if_icmp .ne 92, .aload 0, .tableswitch 0 11 3 #[], .goto 94] 92 = true := qck_r (nn_ _) (by decide +kernel)
theorem bs_X11_count_e_79 {P : Zt → Option Zv → Prop} (K : Int → Zl → List Zv → Zt → Prop) : sx_ K P [.iload 1, .iconst 7, .if_icmp .ne 92, .aload 0, .tableswitch 0 11 3 #[], .goto 94] 92 = x_iload 1 (x_iconst 7 (x_if_icmp .ne 92 K (x_aload 0 (x_g0 111 3 0 999 (x_goto 94 K))))) := ((xe_iload 1).trans (congrArg (x_iload 1) ((xe_iconst 7).trans (congrArg (x_iconst 7) ((xe_if_icmp .ne 92).trans (congrArg (x_if_icmp .ne 92 K) ((xe_aload 0).trans (congrArg (x_aload 0) ((xe_g0 (kk := 111) rfl tl_11_3).trans (congrArg (x_g0 111 3 0 999) (xe_goto 94)))))))))))
theorem bk_X11_count_e_92 : ck_ fX11 (some .int) cX11_count 92 [.iconst (-3), .ireturn] 95 = true := qck_r (nn_ _) (by decide +kernel)
theorem bs_X11_count_e_92 {P : Zt → Option Zv → Prop} (K : Int → Zl → List Zv → Zt → Prop) : sx_ K P [.iconst (-3), .ireturn] 95 = x_iconst (-3) (x_ireturn P) := ((xe_iconst (-3)).trans (congrArg (x_iconst (-3)) (xe_ireturn)))
theorem bk_X11_count_e_94 : ck_ fX11 (some .int) cX11_count 94 [.ireturn] 95 = true := qck_r (nn_ _) (by decide +kernel)
theorem bs_X11_count_e_94 {P : Zt → Option Zv → Prop} (K : Int → Zl → List Zv → Zt → Prop) : sx_ K P [.ireturn] 95 = x_ireturn P := (xe_ireturn)
abbrev po_X11_count_e (T : Zt) (w : Int) : Zt → Option Zv → Prop := fun T' r => T = T' ∧ ∃ x : Int, r = some (vI x) ∧ ((w = 0 ∧ x = T 111 0 12) ∨ (w = 1 ∧ x = T 111 0 15) ∨ (w = 2 ∧ x = T 111 0 16) ∨ (w = 3 ∧ x = T 111 0 21) ∨ (w = 4 ∧ x = T 111 0 6) ∨ (w = 5 ∧ x = T 111 0 29) ∨ (w = 6 ∧ x = T 111 0 47) ∨ (w = 7 ∧ x = T 111 0 3) ∨ (¬ (0 ≤ w ∧ w ≤ 7) ∧ x = -3))
set_option maxHeartbeats 4000000 in
theorem ct_X11_count_e {T : Zt} {w : Int} : Ct_ yX11_count zX11_count T [vR 111 0, vI w] (po_X11_count_e T w) := by
  refine ct_of pn_11 rfl rfl (Nat.le_of_ble_eq_true rfl) (fun hT hav => ?_)
  have hr_w : -2147483648 ≤ w ∧ w ≤ 2147483647 := hav (vI w) (List.mem_cons_of_mem _ List.mem_cons_self)
  have hz : zX11_count.2.2.2.1 = some .boolean → ∀ (T' : Zt) (x : Int), po_X11_count_e T w T' (some (vI x)) → 0 ≤ x ∧ x ≤ 1 := fun h => by cases h
  show J_ zX11_count T (po_X11_count_e T w) 0 0 0 [some (vR 111 0), some (vI w)] [] T
  refine j_blx (F := fX11) tb_X11 (nn_ _) bk_X11_count_e_0 bs_X11_count_e_0 hz (fun K hK => ?_)
  refine hK 1 _ [vI w] T ?_
  by_cases z1_0 : w = 0
  · refine j_tsI (pc := 1) 0 (off := 43) (tgt := 44) (by decide) ds_X11_count_1 (by omega) (by decide) rfl (by decide) (by decide) ?_
    refine j_blx (F := fX11) tb_X11 (nn_ _) bk_X11_count_e_44 bs_X11_count_e_44 hz (fun K hK => ?_)
    intro b2 b2b
    refine (show po_X11_count_e T w T (some (vI (T 111 0 12))) from ?_)
    refine ⟨rfl, _, rfl, ?_⟩
    first
    | assumption
    | refine Or.inl ?_
      refine And.intro ?_ ?_
      · first | omega | rfl
      · first | omega | rfl
    | refine Or.inr ?_
      first
      | assumption
      | refine Or.inl ?_
        refine And.intro ?_ ?_
        · first | omega | rfl
        · first | omega | rfl
      | refine Or.inr ?_
        first
        | assumption
        | refine Or.inl ?_
          refine And.intro ?_ ?_
          · first | omega | rfl
          · first | omega | rfl
        | refine Or.inr ?_
          first
          | assumption
          | refine Or.inl ?_
            refine And.intro ?_ ?_
            · first | omega | rfl
            · first | omega | rfl
          | refine Or.inr ?_
            first
            | assumption
            | refine Or.inl ?_
              refine And.intro ?_ ?_
              · first | omega | rfl
              · first | omega | rfl
            | refine Or.inr ?_
              first
              | assumption
              | refine Or.inl ?_
                refine And.intro ?_ ?_
                · first | omega | rfl
                · first | omega | rfl
              | refine Or.inr ?_
                first
                | assumption
                | refine Or.inl ?_
                  refine And.intro ?_ ?_
                  · first | omega | rfl
                  · first | omega | rfl
                | refine Or.inr ?_
                  first
                  | assumption
                  | refine Or.inl ?_
                    refine And.intro ?_ ?_
                    · first | omega | rfl
                    · first | omega | rfl
                  | refine Or.inr ?_
                    refine And.intro ?_ ?_
                    · first | omega | rfl
                    · first | omega | rfl
  by_cases z1_1 : w = 1
  · refine j_tsI (pc := 1) 1 (off := 48) (tgt := 49) (by decide) ds_X11_count_1 (by omega) (by decide) rfl (by decide) (by decide) ?_
    refine j_blx (F := fX11) tb_X11 (nn_ _) bk_X11_count_e_49 bs_X11_count_e_49 hz (fun K hK => ?_)
    intro b3 b3b
    refine (show po_X11_count_e T w T (some (vI (T 111 0 15))) from ?_)
    refine ⟨rfl, _, rfl, ?_⟩
    first
    | assumption
    | refine Or.inl ?_
      refine And.intro ?_ ?_
      · first | omega | rfl
      · first | omega | rfl
    | refine Or.inr ?_
      first
      | assumption
      | refine Or.inl ?_
        refine And.intro ?_ ?_
        · first | omega | rfl
        · first | omega | rfl
      | refine Or.inr ?_
        first
        | assumption
        | refine Or.inl ?_
          refine And.intro ?_ ?_
          · first | omega | rfl
          · first | omega | rfl
        | refine Or.inr ?_
          first
          | assumption
          | refine Or.inl ?_
            refine And.intro ?_ ?_
            · first | omega | rfl
            · first | omega | rfl
          | refine Or.inr ?_
            first
            | assumption
            | refine Or.inl ?_
              refine And.intro ?_ ?_
              · first | omega | rfl
              · first | omega | rfl
            | refine Or.inr ?_
              first
              | assumption
              | refine Or.inl ?_
                refine And.intro ?_ ?_
                · first | omega | rfl
                · first | omega | rfl
              | refine Or.inr ?_
                first
                | assumption
                | refine Or.inl ?_
                  refine And.intro ?_ ?_
                  · first | omega | rfl
                  · first | omega | rfl
                | refine Or.inr ?_
                  first
                  | assumption
                  | refine Or.inl ?_
                    refine And.intro ?_ ?_
                    · first | omega | rfl
                    · first | omega | rfl
                  | refine Or.inr ?_
                    refine And.intro ?_ ?_
                    · first | omega | rfl
                    · first | omega | rfl
  by_cases z1_2 : w = 2
  · refine j_tsI (pc := 1) 2 (off := 53) (tgt := 54) (by decide) ds_X11_count_1 (by omega) (by decide) rfl (by decide) (by decide) ?_
    refine j_blx (F := fX11) tb_X11 (nn_ _) bk_X11_count_e_54 bs_X11_count_e_54 hz (fun K hK => ?_)
    intro b4 b4b
    refine (show po_X11_count_e T w T (some (vI (T 111 0 16))) from ?_)
    refine ⟨rfl, _, rfl, ?_⟩
    first
    | assumption
    | refine Or.inl ?_
      refine And.intro ?_ ?_
      · first | omega | rfl
      · first | omega | rfl
    | refine Or.inr ?_
      first
      | assumption
      | refine Or.inl ?_
        refine And.intro ?_ ?_
        · first | omega | rfl
        · first | omega | rfl
      | refine Or.inr ?_
        first
        | assumption
        | refine Or.inl ?_
          refine And.intro ?_ ?_
          · first | omega | rfl
          · first | omega | rfl
        | refine Or.inr ?_
          first
          | assumption
          | refine Or.inl ?_
            refine And.intro ?_ ?_
            · first | omega | rfl
            · first | omega | rfl
          | refine Or.inr ?_
            first
            | assumption
            | refine Or.inl ?_
              refine And.intro ?_ ?_
              · first | omega | rfl
              · first | omega | rfl
            | refine Or.inr ?_
              first
              | assumption
              | refine Or.inl ?_
                refine And.intro ?_ ?_
                · first | omega | rfl
                · first | omega | rfl
              | refine Or.inr ?_
                first
                | assumption
                | refine Or.inl ?_
                  refine And.intro ?_ ?_
                  · first | omega | rfl
                  · first | omega | rfl
                | refine Or.inr ?_
                  first
                  | assumption
                  | refine Or.inl ?_
                    refine And.intro ?_ ?_
                    · first | omega | rfl
                    · first | omega | rfl
                  | refine Or.inr ?_
                    refine And.intro ?_ ?_
                    · first | omega | rfl
                    · first | omega | rfl
  by_cases z1_3 : w = 3
  · refine j_tsI (pc := 1) 3 (off := 58) (tgt := 59) (by decide) ds_X11_count_1 (by omega) (by decide) rfl (by decide) (by decide) ?_
    refine j_blx (F := fX11) tb_X11 (nn_ _) bk_X11_count_e_59 bs_X11_count_e_59 hz (fun K hK => ?_)
    intro b5 b5b
    refine (show po_X11_count_e T w T (some (vI (T 111 0 21))) from ?_)
    refine ⟨rfl, _, rfl, ?_⟩
    first
    | assumption
    | refine Or.inl ?_
      refine And.intro ?_ ?_
      · first | omega | rfl
      · first | omega | rfl
    | refine Or.inr ?_
      first
      | assumption
      | refine Or.inl ?_
        refine And.intro ?_ ?_
        · first | omega | rfl
        · first | omega | rfl
      | refine Or.inr ?_
        first
        | assumption
        | refine Or.inl ?_
          refine And.intro ?_ ?_
          · first | omega | rfl
          · first | omega | rfl
        | refine Or.inr ?_
          first
          | assumption
          | refine Or.inl ?_
            refine And.intro ?_ ?_
            · first | omega | rfl
            · first | omega | rfl
          | refine Or.inr ?_
            first
            | assumption
            | refine Or.inl ?_
              refine And.intro ?_ ?_
              · first | omega | rfl
              · first | omega | rfl
            | refine Or.inr ?_
              first
              | assumption
              | refine Or.inl ?_
                refine And.intro ?_ ?_
                · first | omega | rfl
                · first | omega | rfl
              | refine Or.inr ?_
                first
                | assumption
                | refine Or.inl ?_
                  refine And.intro ?_ ?_
                  · first | omega | rfl
                  · first | omega | rfl
                | refine Or.inr ?_
                  first
                  | assumption
                  | refine Or.inl ?_
                    refine And.intro ?_ ?_
                    · first | omega | rfl
                    · first | omega | rfl
                  | refine Or.inr ?_
                    refine And.intro ?_ ?_
                    · first | omega | rfl
                    · first | omega | rfl
  by_cases z1_4 : w = 4
  · refine j_tsI (pc := 1) 4 (off := 63) (tgt := 64) (by decide) ds_X11_count_1 (by omega) (by decide) rfl (by decide) (by decide) ?_
    refine j_blx (F := fX11) tb_X11 (nn_ _) bk_X11_count_e_64 bs_X11_count_e_64 hz (fun K hK => ?_)
    intro b6 b6b
    refine (show po_X11_count_e T w T (some (vI (T 111 0 6))) from ?_)
    refine ⟨rfl, _, rfl, ?_⟩
    first
    | assumption
    | refine Or.inl ?_
      refine And.intro ?_ ?_
      · first | omega | rfl
      · first | omega | rfl
    | refine Or.inr ?_
      first
      | assumption
      | refine Or.inl ?_
        refine And.intro ?_ ?_
        · first | omega | rfl
        · first | omega | rfl
      | refine Or.inr ?_
        first
        | assumption
        | refine Or.inl ?_
          refine And.intro ?_ ?_
          · first | omega | rfl
          · first | omega | rfl
        | refine Or.inr ?_
          first
          | assumption
          | refine Or.inl ?_
            refine And.intro ?_ ?_
            · first | omega | rfl
            · first | omega | rfl
          | refine Or.inr ?_
            first
            | assumption
            | refine Or.inl ?_
              refine And.intro ?_ ?_
              · first | omega | rfl
              · first | omega | rfl
            | refine Or.inr ?_
              first
              | assumption
              | refine Or.inl ?_
                refine And.intro ?_ ?_
                · first | omega | rfl
                · first | omega | rfl
              | refine Or.inr ?_
                first
                | assumption
                | refine Or.inl ?_
                  refine And.intro ?_ ?_
                  · first | omega | rfl
                  · first | omega | rfl
                | refine Or.inr ?_
                  first
                  | assumption
                  | refine Or.inl ?_
                    refine And.intro ?_ ?_
                    · first | omega | rfl
                    · first | omega | rfl
                  | refine Or.inr ?_
                    refine And.intro ?_ ?_
                    · first | omega | rfl
                    · first | omega | rfl
  by_cases z1_5 : w = 5
  · refine j_tsI (pc := 1) 5 (off := 68) (tgt := 69) (by decide) ds_X11_count_1 (by omega) (by decide) rfl (by decide) (by decide) ?_
    refine j_blx (F := fX11) tb_X11 (nn_ _) bk_X11_count_e_69 bs_X11_count_e_69 hz (fun K hK => ?_)
    intro b7 b7b
    refine (show po_X11_count_e T w T (some (vI (T 111 0 29))) from ?_)
    refine ⟨rfl, _, rfl, ?_⟩
    first
    | assumption
    | refine Or.inl ?_
      refine And.intro ?_ ?_
      · first | omega | rfl
      · first | omega | rfl
    | refine Or.inr ?_
      first
      | assumption
      | refine Or.inl ?_
        refine And.intro ?_ ?_
        · first | omega | rfl
        · first | omega | rfl
      | refine Or.inr ?_
        first
        | assumption
        | refine Or.inl ?_
          refine And.intro ?_ ?_
          · first | omega | rfl
          · first | omega | rfl
        | refine Or.inr ?_
          first
          | assumption
          | refine Or.inl ?_
            refine And.intro ?_ ?_
            · first | omega | rfl
            · first | omega | rfl
          | refine Or.inr ?_
            first
            | assumption
            | refine Or.inl ?_
              refine And.intro ?_ ?_
              · first | omega | rfl
              · first | omega | rfl
            | refine Or.inr ?_
              first
              | assumption
              | refine Or.inl ?_
                refine And.intro ?_ ?_
                · first | omega | rfl
                · first | omega | rfl
              | refine Or.inr ?_
                first
                | assumption
                | refine Or.inl ?_
                  refine And.intro ?_ ?_
                  · first | omega | rfl
                  · first | omega | rfl
                | refine Or.inr ?_
                  first
                  | assumption
                  | refine Or.inl ?_
                    refine And.intro ?_ ?_
                    · first | omega | rfl
                    · first | omega | rfl
                  | refine Or.inr ?_
                    refine And.intro ?_ ?_
                    · first | omega | rfl
                    · first | omega | rfl
  by_cases z1_6 : w = 6
  · refine j_tsI (pc := 1) 6 (off := 73) (tgt := 74) (by decide) ds_X11_count_1 (by omega) (by decide) rfl (by decide) (by decide) ?_
    refine j_blx (F := fX11) tb_X11 (nn_ _) bk_X11_count_e_74 bs_X11_count_e_74 hz (fun K hK => ?_)
    intro b8 b8b
    refine (show po_X11_count_e T w T (some (vI (T 111 0 47))) from ?_)
    refine ⟨rfl, _, rfl, ?_⟩
    first
    | assumption
    | refine Or.inl ?_
      refine And.intro ?_ ?_
      · first | omega | rfl
      · first | omega | rfl
    | refine Or.inr ?_
      first
      | assumption
      | refine Or.inl ?_
        refine And.intro ?_ ?_
        · first | omega | rfl
        · first | omega | rfl
      | refine Or.inr ?_
        first
        | assumption
        | refine Or.inl ?_
          refine And.intro ?_ ?_
          · first | omega | rfl
          · first | omega | rfl
        | refine Or.inr ?_
          first
          | assumption
          | refine Or.inl ?_
            refine And.intro ?_ ?_
            · first | omega | rfl
            · first | omega | rfl
          | refine Or.inr ?_
            first
            | assumption
            | refine Or.inl ?_
              refine And.intro ?_ ?_
              · first | omega | rfl
              · first | omega | rfl
            | refine Or.inr ?_
              first
              | assumption
              | refine Or.inl ?_
                refine And.intro ?_ ?_
                · first | omega | rfl
                · first | omega | rfl
              | refine Or.inr ?_
                first
                | assumption
                | refine Or.inl ?_
                  refine And.intro ?_ ?_
                  · first | omega | rfl
                  · first | omega | rfl
                | refine Or.inr ?_
                  first
                  | assumption
                  | refine Or.inl ?_
                    refine And.intro ?_ ?_
                    · first | omega | rfl
                    · first | omega | rfl
                  | refine Or.inr ?_
                    refine And.intro ?_ ?_
                    · first | omega | rfl
                    · first | omega | rfl
  refine j_tsO (pc := 1) (tgt := 79) (by decide) ds_X11_count_1 (by omega) (by decide) (by decide) ?_
  refine j_blx (F := fX11) tb_X11 (nn_ _) bk_X11_count_e_79 bs_X11_count_e_79 hz (fun K hK => ?_)
  refine And.intro (fun c9 => ?_) (fun c9 => ?_)
  · refine hK 92 _ [] T ?_
    refine j_blx (F := fX11) tb_X11 (nn_ _) bk_X11_count_e_92 bs_X11_count_e_92 hz (fun K hK => ?_)
    refine (show po_X11_count_e T w T (some (vI (-3))) from ?_)
    refine ⟨rfl, _, rfl, ?_⟩
    first
    | assumption
    | refine Or.inl ?_
      refine And.intro ?_ ?_
      · first | omega | rfl
      · first | omega | rfl
    | refine Or.inr ?_
      first
      | assumption
      | refine Or.inl ?_
        refine And.intro ?_ ?_
        · first | omega | rfl
        · first | omega | rfl
      | refine Or.inr ?_
        first
        | assumption
        | refine Or.inl ?_
          refine And.intro ?_ ?_
          · first | omega | rfl
          · first | omega | rfl
        | refine Or.inr ?_
          first
          | assumption
          | refine Or.inl ?_
            refine And.intro ?_ ?_
            · first | omega | rfl
            · first | omega | rfl
          | refine Or.inr ?_
            first
            | assumption
            | refine Or.inl ?_
              refine And.intro ?_ ?_
              · first | omega | rfl
              · first | omega | rfl
            | refine Or.inr ?_
              first
              | assumption
              | refine Or.inl ?_
                refine And.intro ?_ ?_
                · first | omega | rfl
                · first | omega | rfl
              | refine Or.inr ?_
                first
                | assumption
                | refine Or.inl ?_
                  refine And.intro ?_ ?_
                  · first | omega | rfl
                  · first | omega | rfl
                | refine Or.inr ?_
                  first
                  | assumption
                  | refine Or.inl ?_
                    refine And.intro ?_ ?_
                    · first | omega | rfl
                    · first | omega | rfl
                  | refine Or.inr ?_
                    refine And.intro ?_ ?_
                    · first | omega | rfl
                    · first | omega | rfl
  · intro b10 b10b
    refine hK 94 _ [vI (T 111 0 3)] T ?_
    refine j_blx (F := fX11) tb_X11 (nn_ _) bk_X11_count_e_94 bs_X11_count_e_94 hz (fun K hK => ?_)
    refine (show po_X11_count_e T w T (some (vI (T 111 0 3))) from ?_)
    refine ⟨rfl, _, rfl, ?_⟩
    first
    | assumption
    | refine Or.inl ?_
      refine And.intro ?_ ?_
      · first | omega | rfl
      · first | omega | rfl
    | refine Or.inr ?_
      first
      | assumption
      | refine Or.inl ?_
        refine And.intro ?_ ?_
        · first | omega | rfl
        · first | omega | rfl
      | refine Or.inr ?_
        first
        | assumption
        | refine Or.inl ?_
          refine And.intro ?_ ?_
          · first | omega | rfl
          · first | omega | rfl
        | refine Or.inr ?_
          first
          | assumption
          | refine Or.inl ?_
            refine And.intro ?_ ?_
            · first | omega | rfl
            · first | omega | rfl
          | refine Or.inr ?_
            first
            | assumption
            | refine Or.inl ?_
              refine And.intro ?_ ?_
              · first | omega | rfl
              · first | omega | rfl
            | refine Or.inr ?_
              first
              | assumption
              | refine Or.inl ?_
                refine And.intro ?_ ?_
                · first | omega | rfl
                · first | omega | rfl
              | refine Or.inr ?_
                first
                | assumption
                | refine Or.inl ?_
                  refine And.intro ?_ ?_
                  · first | omega | rfl
                  · first | omega | rfl
                | refine Or.inr ?_
                  first
                  | assumption
                  | refine Or.inl ?_
                    refine And.intro ?_ ?_
                    · first | omega | rfl
                    · first | omega | rfl
                  | refine Or.inr ?_
                    refine And.intro ?_ ?_
                    · first | omega | rfl
                    · first | omega | rfl
theorem bk_X11_moved_e_0 : ck_ fX11 (some .int) cX11_moved 0 [.iload 1, .aload 0, .tableswitch 0 11 75 #[]] 5 = true := qck_r (nn_ _) (by decide +kernel)
theorem bs_X11_moved_e_0 {P : Zt → Option Zv → Prop} (K : Int → Zl → List Zv → Zt → Prop) : sx_ K P [.iload 1, .aload 0, .tableswitch 0 11 75 #[]] 5 = x_iload 1 (x_aload 0 (x_g0 111 75 0 400 (K 5))) := ((xe_iload 1).trans (congrArg (x_iload 1) ((xe_aload 0).trans (congrArg (x_aload 0) ((xe_g0 (kk := 111) rfl tl_11_75).trans (congrArg (x_g0 111 75 0 400) xe_nil))))))
theorem bk_X11_moved_e_8 : ck_ fX11 (some .int) cX11_moved 8 [.ifCond .eq 20, .aload 0, .tableswitch 0 11 74 #[], .iload 1, .iaload, .goto 21] 20 = true := qck_r (nn_ _) (by decide +kernel)
theorem bs_X11_moved_e_8 {P : Zt → Option Zv → Prop} (K : Int → Zl → List Zv → Zt → Prop) : sx_ K P [.ifCond .eq 20, .aload 0, .tableswitch 0 11 74 #[], .iload 1, .iaload, .goto 21] 20 = x_ifCond .eq 20 K (x_aload 0 (x_g1 111 274 (x_iload 1 (x_iaload (x_goto 21 K))))) := ((xe_ifCond .eq 20).trans (congrArg (x_ifCond .eq 20 K) ((xe_aload 0).trans (congrArg (x_aload 0) ((xe_g1 (kk := 111) rfl tl_11_74).trans (congrArg (x_g1 111 274) ((xe_iload 1).trans (congrArg (x_iload 1) ((xe_iaload).trans (congrArg (x_iaload) (xe_goto 21)))))))))))
theorem bk_X11_moved_e_20 : ck_ fX11 (some .int) cX11_moved 20 [.iconst (-1), .ireturn] 22 = true := qck_r (nn_ _) (by decide +kernel)
theorem bs_X11_moved_e_20 {P : Zt → Option Zv → Prop} (K : Int → Zl → List Zv → Zt → Prop) : sx_ K P [.iconst (-1), .ireturn] 22 = x_iconst (-1) (x_ireturn P) := ((xe_iconst (-1)).trans (congrArg (x_iconst (-1)) (xe_ireturn)))
theorem bk_X11_moved_e_21 : ck_ fX11 (some .int) cX11_moved 21 [.ireturn] 22 = true := qck_r (nn_ _) (by decide +kernel)
theorem bs_X11_moved_e_21 {P : Zt → Option Zv → Prop} (K : Int → Zl → List Zv → Zt → Prop) : sx_ K P [.ireturn] 22 = x_ireturn P := (xe_ireturn)
abbrev po_X11_moved_e (T : Zt) (k : Int) : Zt → Option Zv → Prop := fun T' r => T = T' ∧ ∃ x : Int, r = some (vI x) ∧ ((0 ≤ k ∧ k < T 111 0 75 ∧ x = T 274 0 k) ∨ (¬ (0 ≤ k ∧ k < T 111 0 75) ∧ x = -1))
set_option maxHeartbeats 4000000 in
theorem ct_X11_moved_e {T : Zt} {k : Int} : Ct_ yX11_moved zX11_moved T [vR 111 0, vI k] (po_X11_moved_e T k) := by
  refine ct_of pn_11 rfl rfl (Nat.le_of_ble_eq_true rfl) (fun hT hav => ?_)
  have hr_k : -2147483648 ≤ k ∧ k ≤ 2147483647 := hav (vI k) (List.mem_cons_of_mem _ List.mem_cons_self)
  have hz : zX11_moved.2.2.2.1 = some .boolean → ∀ (T' : Zt) (x : Int), po_X11_moved_e T k T' (some (vI x)) → 0 ≤ x ∧ x ≤ 1 := fun h => by cases h
  have hb_75 : 0 ≤ T 111 0 75 ∧ T 111 0 75 ≤ 400 := bd_f hT 111 75 tl_11_75 0
  show J_ zX11_moved T (po_X11_moved_e T k) 0 0 0 [some (vR 111 0), some (vI k)] [] T
  refine j_blx (F := fX11) tb_X11 (nn_ _) bk_X11_moved_e_0 bs_X11_moved_e_0 hz (fun K hK => ?_)
  intro b1 b1b
  refine hK 5 _ [vI (T 111 0 75), vI k] T ?_
  refine j_callS (y := yX11_isOf) (Yc := zX11_isOf) (rest := []) [vI k, vI (T 111 0 75)] (ct_X11_isOf (T := T) (by omega)) cl_X11_317 (qd_c (by decide +kernel)) (nn_ _) rfl (rf_of rfl) (Nat.le_of_ble_eq_true rfl) (Nat.le_of_ble_eq_true rfl) (Nat.le_of_ble_eq_true rfl) rfl ?_
  rintro _ _ ⟨rfl, x2, rfl, hx2⟩
  show J_ zX11_moved T (po_X11_moved_e T k) 0 0 8 _ [vI x2] T
  refine j_blx (F := fX11) tb_X11 (nn_ _) bk_X11_moved_e_8 bs_X11_moved_e_8 hz (fun K hK => ?_)
  refine And.intro (fun c3 => ?_) (fun c3 => ?_)
  · replace hx2 := hx2.resolve_left (fun z => absurd (c3.symm.trans z.1) (by decide))
    clear c3
    refine hK 20 _ [] T ?_
    refine j_blx (F := fX11) tb_X11 (nn_ _) bk_X11_moved_e_20 bs_X11_moved_e_20 hz (fun K hK => ?_)
    refine (show po_X11_moved_e T k T (some (vI (-1))) from ?_)
    exact ⟨rfl, _, rfl, by omega⟩
  · replace hx2 := hx2.resolve_right (fun z => c3 z.1)
    clear c3
    refine ix_i (by omega) ?_
    intro b4 b4b
    refine hK 21 _ [vI (T 274 0 k)] T ?_
    refine j_blx (F := fX11) tb_X11 (nn_ _) bk_X11_moved_e_21 bs_X11_moved_e_21 hz (fun K hK => ?_)
    refine (show po_X11_moved_e T k T (some (vI (T 274 0 k))) from ?_)
    exact ⟨rfl, _, rfl, by omega⟩
theorem bk_X11_clubOf_e_57 : ck_ fX11 (some .int) cX11_clubOf 57 [.istore 3, .iinc 4 1, .goto 5] 64 = true := qck_r (nn_ _) (by decide +kernel)
theorem bs_X11_clubOf_e_57 {P : Zt → Option Zv → Prop} (K : Int → Zl → List Zv → Zt → Prop) : sx_ K P [.istore 3, .iinc 4 1, .goto 5] 64 = x_istore 3 (x_iinc 4 1 (x_goto 5 K)) := ((xe_istore 3).trans (congrArg (x_istore 3) ((xe_iinc 4 1).trans (congrArg (x_iinc 4 1) (xe_goto 5)))))
theorem bk_X11_clubOf_e_5 : ck_ fX11 (some .int) cX11_clubOf 5 [.iload 4, .aload 0, .tableswitch 0 11 16 #[], .if_icmp .ge 64, .aload 0, .tableswitch 0 11 17 #[], .iload 4, .iaload, .iload 1, .if_icmp .ne 56, .iload 2, .aload 0, .tableswitch 0 11 19 #[], .iload 4, .iaload, .aload 0, .tableswitch 0 11 20 #[], .iload 4, .iaload] 40 = true := qck_r (nn_ _) (by decide +kernel)
theorem bs_X11_clubOf_e_5 {P : Zt → Option Zv → Prop} (K : Int → Zl → List Zv → Zt → Prop) : sx_ K P [.iload 4, .aload 0, .tableswitch 0 11 16 #[], .if_icmp .ge 64, .aload 0, .tableswitch 0 11 17 #[], .iload 4, .iaload, .iload 1, .if_icmp .ne 56, .iload 2, .aload 0, .tableswitch 0 11 19 #[], .iload 4, .iaload, .aload 0, .tableswitch 0 11 20 #[], .iload 4, .iaload] 40 = x_iload 4 (x_aload 0 (x_g0 111 16 0 300 (x_if_icmp .ge 64 K (x_aload 0 (x_g1 111 217 (x_iload 4 (x_iaload (x_iload 1 (x_if_icmp .ne 56 K (x_iload 2 (x_aload 0 (x_g1 111 219 (x_iload 4 (x_iaload (x_aload 0 (x_g1 111 220 (x_iload 4 (x_iaload (K 40))))))))))))))))))) := ((xe_iload 4).trans (congrArg (x_iload 4) ((xe_aload 0).trans (congrArg (x_aload 0) ((xe_g0 (kk := 111) rfl tl_11_16).trans (congrArg (x_g0 111 16 0 300) ((xe_if_icmp .ge 64).trans (congrArg (x_if_icmp .ge 64 K) ((xe_aload 0).trans (congrArg (x_aload 0) ((xe_g1 (kk := 111) rfl tl_11_17).trans (congrArg (x_g1 111 217) ((xe_iload 4).trans (congrArg (x_iload 4) ((xe_iaload).trans (congrArg (x_iaload) ((xe_iload 1).trans (congrArg (x_iload 1) ((xe_if_icmp .ne 56).trans (congrArg (x_if_icmp .ne 56 K) ((xe_iload 2).trans (congrArg (x_iload 2) ((xe_aload 0).trans (congrArg (x_aload 0) ((xe_g1 (kk := 111) rfl tl_11_19).trans (congrArg (x_g1 111 219) ((xe_iload 4).trans (congrArg (x_iload 4) ((xe_iaload).trans (congrArg (x_iaload) ((xe_aload 0).trans (congrArg (x_aload 0) ((xe_g1 (kk := 111) rfl tl_11_20).trans (congrArg (x_g1 111 220) ((xe_iload 4).trans (congrArg (x_iload 4) ((xe_iaload).trans (congrArg (x_iaload) xe_nil))))))))))))))))))))))))))))))))))))))
theorem bk_X11_clubOf_e_64 : ck_ fX11 (some .int) cX11_clubOf 64 [.iload 3, .ireturn] 66 = true := qck_r (nn_ _) (by decide +kernel)
theorem bs_X11_clubOf_e_64 {P : Zt → Option Zv → Prop} (K : Int → Zl → List Zv → Zt → Prop) : sx_ K P [.iload 3, .ireturn] 66 = x_iload 3 (x_ireturn P) := ((xe_iload 3).trans (congrArg (x_iload 3) (xe_ireturn)))
theorem bk_X11_clubOf_e_56 : ck_ fX11 (some .int) cX11_clubOf 56 [.iload 3] 57 = true := qck_r (nn_ _) (by decide +kernel)
theorem bs_X11_clubOf_e_56 {P : Zt → Option Zv → Prop} (K : Int → Zl → List Zv → Zt → Prop) : sx_ K P [.iload 3] 57 = x_iload 3 (K 57) := ((xe_iload 3).trans (congrArg (x_iload 3) xe_nil))
theorem bk_X11_clubOf_e_43 : ck_ fX11 (some .int) cX11_clubOf 43 [.ifCond .eq 56, .aload 0, .tableswitch 0 11 18 #[], .iload 4, .iaload, .goto 57] 56 = true := qck_r (nn_ _) (by decide +kernel)
theorem bs_X11_clubOf_e_43 {P : Zt → Option Zv → Prop} (K : Int → Zl → List Zv → Zt → Prop) : sx_ K P [.ifCond .eq 56, .aload 0, .tableswitch 0 11 18 #[], .iload 4, .iaload, .goto 57] 56 = x_ifCond .eq 56 K (x_aload 0 (x_g1 111 218 (x_iload 4 (x_iaload (x_goto 57 K))))) := ((xe_ifCond .eq 56).trans (congrArg (x_ifCond .eq 56 K) ((xe_aload 0).trans (congrArg (x_aload 0) ((xe_g1 (kk := 111) rfl tl_11_18).trans (congrArg (x_g1 111 218) ((xe_iload 4).trans (congrArg (x_iload 4) ((xe_iaload).trans (congrArg (x_iaload) (xe_goto 57)))))))))))
theorem bk_X11_clubOf_e_0 : ck_ fX11 (some .int) cX11_clubOf 0 [.iconst (-1), .istore 3, .iconst 0, .istore 4] 5 = true := qck_r (nn_ _) (by decide +kernel)
theorem bs_X11_clubOf_e_0 {P : Zt → Option Zv → Prop} (K : Int → Zl → List Zv → Zt → Prop) : sx_ K P [.iconst (-1), .istore 3, .iconst 0, .istore 4] 5 = x_iconst (-1) (x_istore 3 (x_iconst 0 (x_istore 4 (K 5)))) := ((xe_iconst (-1)).trans (congrArg (x_iconst (-1)) ((xe_istore 3).trans (congrArg (x_istore 3) ((xe_iconst 0).trans (congrArg (x_iconst 0) ((xe_istore 4).trans (congrArg (x_istore 4) xe_nil))))))))
abbrev po_X11_clubOf_e (T : Zt) (p d : Int) : Zt → Option Zv → Prop := fun T' r => T = T' ∧ ∃ x : Int, r = some (vI x) ∧ (x = co9_c T p d)
set_option maxHeartbeats 4000000 in
theorem ct_X11_clubOf_e {T : Zt} {p d : Int} : Ct_ yX11_clubOf zX11_clubOf T [vR 111 0, vI p, vI d] (po_X11_clubOf_e T p d) := by
  refine ct_of pn_11 rfl rfl (Nat.le_of_ble_eq_true rfl) (fun hT hav => ?_)
  have hr_p : -2147483648 ≤ p ∧ p ≤ 2147483647 := hav (vI p) (List.mem_cons_of_mem _ List.mem_cons_self)
  have hr_d : -2147483648 ≤ d ∧ d ≤ 2147483647 := hav (vI d) (List.mem_cons_of_mem _ (List.mem_cons_of_mem _ List.mem_cons_self))
  have hz : zX11_clubOf.2.2.2.1 = some .boolean → ∀ (T' : Zt) (x : Int), po_X11_clubOf_e T p d T' (some (vI x)) → 0 ≤ x ∧ x ≤ 1 := fun h => by cases h
  have hb_16 : 0 ≤ T 111 0 16 ∧ T 111 0 16 ≤ 300 := bd_f hT 111 16 tl_11_16 0
  show J_ zX11_clubOf T (po_X11_clubOf_e T p d) 0 0 0 [some (vR 111 0), some (vI p), some (vI d), none, none] [] T
  have c_5 : ∀ (nn : Nat) (cl : Int) (s : Int), ((300 - s).toNat) ≤ nn → (0 ≤ s ∧ (s = 0 ∨ s ≤ T 111 0 16)) → (cl = cnn_ T p d s.toNat) → J_ zX11_clubOf T (po_X11_clubOf_e T p d) 0 0 5 [some (vR 111 0), some (vI p), some (vI d), some (vI cl), some (vI s)] [] T := by
    intro nn
    induction nn using Nat.strongRecOn with
    | _ nn ih_5 =>
      intro cl s hm_5 k1 kc
      replace hm_5 := fun (_ : Unit) => hm_5
      have c_57 : ∀ (v : Int), (s < T 111 0 16 ∧ T 111 0 16 ≤ 300) → (v = cnn_ T p d (s + 1).toNat) → J_ zX11_clubOf T (po_X11_clubOf_e T p d) 0 0 57 [some (vR 111 0), some (vI p), some (vI d), some (vI cl), some (vI s)] [vI v] T := by
        intro v k2 v57
        refine j_blx (F := fX11) tb_X11 (nn_ _) bk_X11_clubOf_e_57 bs_X11_clubOf_e_57 hz (fun K hK => ?_)
        refine rg_i (by omega) ?_
        refine hK 5 [some (vR 111 0), some (vI p), some (vI d), some (vI v), some (vI (s + 1))] [] T ?_
        refine ih_5 _ ?_ v (s + 1) (Nat.le_refl _) ?_ ?_
        · have hm_5 := hm_5 (); omega
        · omega
        · exact v57
      refine j_blx (F := fX11) tb_X11 (nn_ _) bk_X11_clubOf_e_5 bs_X11_clubOf_e_5 hz (fun K hK => ?_)
      intro b1 b1b
      refine And.intro (fun c2 => ?_) (fun c2 => ?_)
      · refine hK 64 _ [] T ?_
        refine j_blx (F := fX11) tb_X11 (nn_ _) bk_X11_clubOf_e_64 bs_X11_clubOf_e_64 hz (fun K hK => ?_)
        refine (show po_X11_clubOf_e T p d T (some (vI cl)) from ?_)
        refine ⟨rfl, _, rfl, ?_⟩
        unfold co9_c
        rw [show T 111 0 16 = s by omega]
        exact kc
      · refine ix_i (by omega) ?_
        intro b3 b3b
        refine And.intro (fun c4 => ?_) (fun c4 => ?_)
        · refine hK 56 _ [] T ?_
          refine j_blx (F := fX11) tb_X11 (nn_ _) bk_X11_clubOf_e_56 bs_X11_clubOf_e_56 hz (fun K hK => ?_)
          refine hK 57 _ [vI cl] T ?_
          refine c_57 cl ?_ ?_
          · omega
          · have ez : ((s.toNat : Nat) : Int) = s := by omega
            rw [show (s + 1).toNat = s.toNat + 1 by omega]
            rw [cnn_f (by rw [ez]; omega)]
            exact kc
        · refine ix_i (by omega) ?_
          intro b5 b5b
          refine ix_i (by omega) ?_
          intro b6 b6b
          refine hK 40 _ [vI (T 220 0 s), vI (T 219 0 s), vI d] T ?_
          refine j_callS (y := yX11_in) (Yc := zX11_in) (rest := []) [vI d, vI (T 219 0 s), vI (T 220 0 s)] (ct_X11_in (T := T)) cl_X11_255 (qd_c (by decide +kernel)) (nn_ _) rfl (rf_of rfl) (Nat.le_of_ble_eq_true rfl) (Nat.le_of_ble_eq_true rfl) (Nat.le_of_ble_eq_true rfl) rfl ?_
          rintro _ _ ⟨rfl, x7, rfl, hx7⟩
          show J_ zX11_clubOf T (po_X11_clubOf_e T p d) 0 0 43 _ [vI x7] T
          refine j_blx (F := fX11) tb_X11 (nn_ _) bk_X11_clubOf_e_43 bs_X11_clubOf_e_43 hz (fun K hK => ?_)
          refine And.intro (fun c8 => ?_) (fun c8 => ?_)
          · replace hx7 := hx7.resolve_left (fun z => absurd (c8.symm.trans z.1) (by decide))
            clear c8
            refine hK 56 _ [] T ?_
            refine j_blx (F := fX11) tb_X11 (nn_ _) bk_X11_clubOf_e_56 bs_X11_clubOf_e_56 hz (fun K hK => ?_)
            refine hK 57 _ [vI cl] T ?_
            refine c_57 cl ?_ ?_
            · omega
            · have ez : ((s.toNat : Nat) : Int) = s := by omega
              rw [show (s + 1).toNat = s.toNat + 1 by omega]
              rw [cnn_f (by rw [ez]; omega)]
              exact kc
          · replace hx7 := hx7.resolve_right (fun z => c8 z.1)
            clear c8
            refine ix_i (by omega) ?_
            intro b9 b9b
            refine hK 57 _ [vI (T 218 0 s)] T ?_
            refine c_57 (T 218 0 s) ?_ ?_
            · omega
            · have ez : ((s.toNat : Nat) : Int) = s := by omega
              rw [show (s + 1).toNat = s.toNat + 1 by omega]
              rw [cnn_t (by rw [ez]; omega), ez]
  refine j_blx (F := fX11) tb_X11 (nn_ _) bk_X11_clubOf_e_0 bs_X11_clubOf_e_0 hz (fun K hK => ?_)
  refine hK 5 [some (vR 111 0), some (vI p), some (vI d), some (vI (-1)), some (vI 0)] [] T ?_
  refine c_5 _ (-1) 0 (Nat.le_refl _) ?_ ?_
  · omega
  · rfl

