-- layDefaults and readStatement of the reference
def TA9_ (T : Zt) (t : Int → Int) : Prop := ∀ j, 0 ≤ j → j < 14 → T 269 0 j = t j
theorem ta9_s {T T' : Zt} {t : Int → Int} {x : Int} (h : TA9_ T t) (ho : ∀ j, j ≠ x → T' 269 0 j = T 269 0 j) (hx : T' 269 0 x = 1) : TA9_ T' (u9_ t x 1) := fun j a b => by
  by_cases z : j = x
  · rw [z, u9_e]
    exact hx
  · rw [u9_n z, ho j z]
    exact h j a b
theorem TA9_f {ws : List (Nat × List Int)} {T T' : Zt} {t : Int → Int} (h : TA9_ T t) (f : fr_ ws T T') (w : ∀ j, fw_ ws 269 j = false) : TA9_ T' t := fun j a b => (f 269 0 j (w j)).trans (h j a b)
def MS9_ (r : Qr9_ (Int × (Int → Int) × (Int → Int))) (T : Zt) : Prop := ∃ t v, r = Sum.inr (T 111 0 57, t, v) ∧ TA9_ T t ∧ VR9_ T v
/-- three numbers, one behind the other -/
theorem pnf9_h {b : Int → Int} {n a A0 B0 A1 B1 p1 v1 A2 B2 p2 v2 A3 B3 p3 v3 : Int} (h0 : A0 = 0)
  (q1 : (A0 ≠ 0 ∧ A1 = A0 ∧ B1 = B0) ∨ (A0 = 0 ∧ A1 ≠ 0 ∧ nrf9_ b n a 0 9 = Sum.inl (A1, B1)) ∨ (A0 = 0 ∧ A1 = 0 ∧ nrf9_ b n a 0 9 = Sum.inr (p1, v1) ∧ B1 = B0 ∧ a ≤ p1 ∧ p1 ≤ n))
  (q2 : (A1 ≠ 0 ∧ A2 = A1 ∧ B2 = B1) ∨ (A1 = 0 ∧ A2 ≠ 0 ∧ nrf9_ b n p1 0 v1 = Sum.inl (A2, B2)) ∨ (A1 = 0 ∧ A2 = 0 ∧ nrf9_ b n p1 0 v1 = Sum.inr (p2, v2) ∧ B2 = B1 ∧ p1 ≤ p2 ∧ p2 ≤ n))
  (q3 : (A2 ≠ 0 ∧ A3 = A2 ∧ B3 = B2) ∨ (A2 = 0 ∧ A3 ≠ 0 ∧ nrf9_ b n p2 0 v2 = Sum.inl (A3, B3)) ∨ (A2 = 0 ∧ A3 = 0 ∧ nrf9_ b n p2 0 v2 = Sum.inr (p3, v3) ∧ B3 = B2 ∧ p2 ≤ p3 ∧ p3 ≤ n)) :
  (A3 ≠ 0 ∧ pnf9_ b n a = Sum.inl (A3, B3)) ∨ (A3 = 0 ∧ pnf9_ b n a = Sum.inr (p3, v1, v2, v3) ∧ B3 = B0 ∧ a ≤ p3 ∧ p3 ≤ n) := by
  rcases q1 with ⟨x1, _⟩ | ⟨_, x2, x3⟩ | ⟨_, x2, x3, x4, x5, x6⟩
  · exact absurd h0 x1
  · rcases q2 with ⟨_, y2, y3⟩ | ⟨y1, _⟩ | ⟨y1, _⟩
    · rcases q3 with ⟨_, z2, z3⟩ | ⟨z1, _⟩ | ⟨z1, _⟩
      · refine Or.inl ⟨by omega, ?_⟩
        rw [z2, z3, y2, y3]
        exact bn9_l x3
      · exact absurd z1 (by omega)
      · exact absurd z1 (by omega)
    · exact absurd y1 x2
    · exact absurd y1 x2
  · rcases q2 with ⟨y1, _⟩ | ⟨_, y2, y3⟩ | ⟨_, y2, y3, y4, y5, y6⟩
    · exact absurd x2 y1
    · rcases q3 with ⟨_, z2, z3⟩ | ⟨z1, _⟩ | ⟨z1, _⟩
      · refine Or.inl ⟨by omega, ?_⟩
        rw [z2, z3]
        exact (bn9_r x3).trans (bn9_l y3)
      · exact absurd z1 y2
      · exact absurd z1 y2
    · rcases q3 with ⟨z1, _⟩ | ⟨_, z2, z3⟩ | ⟨_, z2, z3, z4, z5, z6⟩
      · exact absurd y2 z1
      · exact Or.inl ⟨z2, (bn9_r x3).trans ((bn9_r y3).trans (bn9_l z3))⟩
      · exact Or.inr ⟨z2, (bn9_r x3).trans ((bn9_r y3).trans (bn9_r z3)), by omega, by omega, by omega⟩
def sb9_c (k : Nat) : Bool := wl_267.getD k 0 == (sa_ 1).getD (k + 6) 0 && wl_268.getD k 0 == (sa_ 2).getD (k + 6) 0
theorem sb9_a : ∀ k, k < 10 → sb9_c k = true := by decide +kernel
theorem sb9_q {x : Int} (h0 : 4 ≤ x) (h1 : x < 14) : wl_267.getD (x - 4).toNat 0 = (sa_ 1).getD (x + 2).toNat 0 ∧ wl_268.getD (x - 4).toNat 0 = (sa_ 2).getD (x + 2).toNat 0 := by
  have h := sb9_a (x - 4).toNat (by omega)
  unfold sb9_c at h
  rw [Bool.and_eq_true, beq_iff_eq, beq_iff_eq, show (x - 4).toNat + 6 = (x + 2).toNat by omega] at h
  exact h
theorem bk_X11_layDefaults_e_143 : ck_ fX11 none cX11_layDefaults 143 [.iload 1, .iconst 14, .if_icmp .ge 162, .aload 0, .tableswitch 0 11 69 #[], .iload 1, .iconst 0, .bastore, .iinc 1 1, .goto 143] 162 = true := qck_r (nn_ _) (by decide +kernel)
theorem bs_X11_layDefaults_e_143 {P : Zt → Option Zv → Prop} (K : Int → Zl → List Zv → Zt → Prop) : sx_ K P [.iload 1, .iconst 14, .if_icmp .ge 162, .aload 0, .tableswitch 0 11 69 #[], .iload 1, .iconst 0, .bastore, .iinc 1 1, .goto 143] 162 = x_iload 1 (x_iconst 14 (x_if_icmp .ge 162 K (x_aload 0 (x_g1 111 269 (x_iload 1 (x_iconst 0 (x_bastore (x_iinc 1 1 (x_goto 143 K))))))))) := ((xe_iload 1).trans (congrArg (x_iload 1) ((xe_iconst 14).trans (congrArg (x_iconst 14) ((xe_if_icmp .ge 162).trans (congrArg (x_if_icmp .ge 162 K) ((xe_aload 0).trans (congrArg (x_aload 0) ((xe_g1 (kk := 111) rfl tl_11_69).trans (congrArg (x_g1 111 269) ((xe_iload 1).trans (congrArg (x_iload 1) ((xe_iconst 0).trans (congrArg (x_iconst 0) ((xe_bastore).trans (congrArg (x_bastore) ((xe_iinc 1 1).trans (congrArg (x_iinc 1 1) (xe_goto 143)))))))))))))))))))
theorem bk_X11_layDefaults_e_162 : ck_ fX11 none cX11_layDefaults 162 [.return_] 163 = true := qck_r (nn_ _) (by decide +kernel)
theorem bs_X11_layDefaults_e_162 {P : Zt → Option Zv → Prop} (K : Int → Zl → List Zv → Zt → Prop) : sx_ K P [.return_] 163 = x_return_ P := (xe_return_)
theorem bk_X11_layDefaults_e_2 : ck_ fX11 none cX11_layDefaults 2 [.iload 1, .iconst 23, .if_icmp .ge 31, .aload 0, .tableswitch 0 11 4 #[], .iload 1, .iload 1, .iconst 15, .if_icmp .le 23, .iconst (-1), .goto 24] 23 = true := qck_r (nn_ _) (by decide +kernel)
theorem bs_X11_layDefaults_e_2 {P : Zt → Option Zv → Prop} (K : Int → Zl → List Zv → Zt → Prop) : sx_ K P [.iload 1, .iconst 23, .if_icmp .ge 31, .aload 0, .tableswitch 0 11 4 #[], .iload 1, .iload 1, .iconst 15, .if_icmp .le 23, .iconst (-1), .goto 24] 23 = x_iload 1 (x_iconst 23 (x_if_icmp .ge 31 K (x_aload 0 (x_g1 111 204 (x_iload 1 (x_iload 1 (x_iconst 15 (x_if_icmp .le 23 K (x_iconst (-1) (x_goto 24 K)))))))))) := ((xe_iload 1).trans (congrArg (x_iload 1) ((xe_iconst 23).trans (congrArg (x_iconst 23) ((xe_if_icmp .ge 31).trans (congrArg (x_if_icmp .ge 31 K) ((xe_aload 0).trans (congrArg (x_aload 0) ((xe_g1 (kk := 111) rfl tl_11_4).trans (congrArg (x_g1 111 204) ((xe_iload 1).trans (congrArg (x_iload 1) ((xe_iload 1).trans (congrArg (x_iload 1) ((xe_iconst 15).trans (congrArg (x_iconst 15) ((xe_if_icmp .le 23).trans (congrArg (x_if_icmp .le 23 K) ((xe_iconst (-1)).trans (congrArg (x_iconst (-1)) (xe_goto 24)))))))))))))))))))))
theorem bk_X11_layDefaults_e_31 : ck_ fX11 none cX11_layDefaults 31 [.aload 0, .tableswitch 0 11 4 #[], .iconst 1, .iconst 3, .iastore, .aload 0, .tableswitch 0 11 4 #[], .iconst 2, .iconst 1, .iastore, .aload 0, .tableswitch 0 11 4 #[], .iconst 4, .iconst 2, .iastore, .aload 0, .tableswitch 0 11 4 #[], .iconst 6, .iconst 1, .iastore, .aload 0, .tableswitch 0 11 4 #[], .iconst 7, .iconst 7, .iastore, .aload 0, .tableswitch 0 11 4 #[], .iconst 8, .iconst 1, .iastore, .aload 0, .tableswitch 0 11 4 #[], .iconst 9, .iconst 2, .iastore, .aload 0, .tableswitch 0 11 4 #[], .iconst 10, .iconst 2, .iastore, .aload 0, .tableswitch 0 11 4 #[], .iconst 11, .iconst 3, .iastore, .aload 0, .tableswitch 0 11 4 #[], .iconst 12, .iconst 3, .iastore, .aload 0, .tableswitch 0 11 4 #[], .iconst 13, .iconst 3, .iastore, .aload 0, .tableswitch 0 11 4 #[], .iconst 14, .iconst 1, .iastore, .aload 0, .tableswitch 0 11 4 #[], .iconst 16, .iconst 0, .iastore, .aload 0, .tableswitch 0 11 4 #[], .iconst 17, .iconst 1, .iastore, .iconst 0, .istore 1] 143 = true := qck_r (nn_ _) (by decide +kernel)
theorem bs_X11_layDefaults_e_31 {P : Zt → Option Zv → Prop} (K : Int → Zl → List Zv → Zt → Prop) : sx_ K P [.aload 0, .tableswitch 0 11 4 #[], .iconst 1, .iconst 3, .iastore, .aload 0, .tableswitch 0 11 4 #[], .iconst 2, .iconst 1, .iastore, .aload 0, .tableswitch 0 11 4 #[], .iconst 4, .iconst 2, .iastore, .aload 0, .tableswitch 0 11 4 #[], .iconst 6, .iconst 1, .iastore, .aload 0, .tableswitch 0 11 4 #[], .iconst 7, .iconst 7, .iastore, .aload 0, .tableswitch 0 11 4 #[], .iconst 8, .iconst 1, .iastore, .aload 0, .tableswitch 0 11 4 #[], .iconst 9, .iconst 2, .iastore, .aload 0, .tableswitch 0 11 4 #[], .iconst 10, .iconst 2, .iastore, .aload 0, .tableswitch 0 11 4 #[], .iconst 11, .iconst 3, .iastore, .aload 0, .tableswitch 0 11 4 #[], .iconst 12, .iconst 3, .iastore, .aload 0, .tableswitch 0 11 4 #[], .iconst 13, .iconst 3, .iastore, .aload 0, .tableswitch 0 11 4 #[], .iconst 14, .iconst 1, .iastore, .aload 0, .tableswitch 0 11 4 #[], .iconst 16, .iconst 0, .iastore, .aload 0, .tableswitch 0 11 4 #[], .iconst 17, .iconst 1, .iastore, .iconst 0, .istore 1] 143 = x_aload 0 (x_g1 111 204 (x_iconst 1 (x_iconst 3 (x_iastore (x_aload 0 (x_g1 111 204 (x_iconst 2 (x_iconst 1 (x_iastore (x_aload 0 (x_g1 111 204 (x_iconst 4 (x_iconst 2 (x_iastore (x_aload 0 (x_g1 111 204 (x_iconst 6 (x_iconst 1 (x_iastore (x_aload 0 (x_g1 111 204 (x_iconst 7 (x_iconst 7 (x_iastore (x_aload 0 (x_g1 111 204 (x_iconst 8 (x_iconst 1 (x_iastore (x_aload 0 (x_g1 111 204 (x_iconst 9 (x_iconst 2 (x_iastore (x_aload 0 (x_g1 111 204 (x_iconst 10 (x_iconst 2 (x_iastore (x_aload 0 (x_g1 111 204 (x_iconst 11 (x_iconst 3 (x_iastore (x_aload 0 (x_g1 111 204 (x_iconst 12 (x_iconst 3 (x_iastore (x_aload 0 (x_g1 111 204 (x_iconst 13 (x_iconst 3 (x_iastore (x_aload 0 (x_g1 111 204 (x_iconst 14 (x_iconst 1 (x_iastore (x_aload 0 (x_g1 111 204 (x_iconst 16 (x_iconst 0 (x_iastore (x_aload 0 (x_g1 111 204 (x_iconst 17 (x_iconst 1 (x_iastore (x_iconst 0 (x_istore 1 (K 143)))))))))))))))))))))))))))))))))))))))))))))))))))))))))))))))))))))))) := ((xe_aload 0).trans (congrArg (x_aload 0) ((xe_g1 (kk := 111) rfl tl_11_4).trans (congrArg (x_g1 111 204) ((xe_iconst 1).trans (congrArg (x_iconst 1) ((xe_iconst 3).trans (congrArg (x_iconst 3) ((xe_iastore).trans (congrArg (x_iastore) ((xe_aload 0).trans (congrArg (x_aload 0) ((xe_g1 (kk := 111) rfl tl_11_4).trans (congrArg (x_g1 111 204) ((xe_iconst 2).trans (congrArg (x_iconst 2) ((xe_iconst 1).trans (congrArg (x_iconst 1) ((xe_iastore).trans (congrArg (x_iastore) ((xe_aload 0).trans (congrArg (x_aload 0) ((xe_g1 (kk := 111) rfl tl_11_4).trans (congrArg (x_g1 111 204) ((xe_iconst 4).trans (congrArg (x_iconst 4) ((xe_iconst 2).trans (congrArg (x_iconst 2) ((xe_iastore).trans (congrArg (x_iastore) ((xe_aload 0).trans (congrArg (x_aload 0) ((xe_g1 (kk := 111) rfl tl_11_4).trans (congrArg (x_g1 111 204) ((xe_iconst 6).trans (congrArg (x_iconst 6) ((xe_iconst 1).trans (congrArg (x_iconst 1) ((xe_iastore).trans (congrArg (x_iastore) ((xe_aload 0).trans (congrArg (x_aload 0) ((xe_g1 (kk := 111) rfl tl_11_4).trans (congrArg (x_g1 111 204) ((xe_iconst 7).trans (congrArg (x_iconst 7) ((xe_iconst 7).trans (congrArg (x_iconst 7) ((xe_iastore).trans (congrArg (x_iastore) ((xe_aload 0).trans (congrArg (x_aload 0) ((xe_g1 (kk := 111) rfl tl_11_4).trans (congrArg (x_g1 111 204) ((xe_iconst 8).trans (congrArg (x_iconst 8) ((xe_iconst 1).trans (congrArg (x_iconst 1) ((xe_iastore).trans (congrArg (x_iastore) ((xe_aload 0).trans (congrArg (x_aload 0) ((xe_g1 (kk := 111) rfl tl_11_4).trans (congrArg (x_g1 111 204) ((xe_iconst 9).trans (congrArg (x_iconst 9) ((xe_iconst 2).trans (congrArg (x_iconst 2) ((xe_iastore).trans (congrArg (x_iastore) ((xe_aload 0).trans (congrArg (x_aload 0) ((xe_g1 (kk := 111) rfl tl_11_4).trans (congrArg (x_g1 111 204) ((xe_iconst 10).trans (congrArg (x_iconst 10) ((xe_iconst 2).trans (congrArg (x_iconst 2) ((xe_iastore).trans (congrArg (x_iastore) ((xe_aload 0).trans (congrArg (x_aload 0) ((xe_g1 (kk := 111) rfl tl_11_4).trans (congrArg (x_g1 111 204) ((xe_iconst 11).trans (congrArg (x_iconst 11) ((xe_iconst 3).trans (congrArg (x_iconst 3) ((xe_iastore).trans (congrArg (x_iastore) ((xe_aload 0).trans (congrArg (x_aload 0) ((xe_g1 (kk := 111) rfl tl_11_4).trans (congrArg (x_g1 111 204) ((xe_iconst 12).trans (congrArg (x_iconst 12) ((xe_iconst 3).trans (congrArg (x_iconst 3) ((xe_iastore).trans (congrArg (x_iastore) ((xe_aload 0).trans (congrArg (x_aload 0) ((xe_g1 (kk := 111) rfl tl_11_4).trans (congrArg (x_g1 111 204) ((xe_iconst 13).trans (congrArg (x_iconst 13) ((xe_iconst 3).trans (congrArg (x_iconst 3) ((xe_iastore).trans (congrArg (x_iastore) ((xe_aload 0).trans (congrArg (x_aload 0) ((xe_g1 (kk := 111) rfl tl_11_4).trans (congrArg (x_g1 111 204) ((xe_iconst 14).trans (congrArg (x_iconst 14) ((xe_iconst 1).trans (congrArg (x_iconst 1) ((xe_iastore).trans (congrArg (x_iastore) ((xe_aload 0).trans (congrArg (x_aload 0) ((xe_g1 (kk := 111) rfl tl_11_4).trans (congrArg (x_g1 111 204) ((xe_iconst 16).trans (congrArg (x_iconst 16) ((xe_iconst 0).trans (congrArg (x_iconst 0) ((xe_iastore).trans (congrArg (x_iastore) ((xe_aload 0).trans (congrArg (x_aload 0) ((xe_g1 (kk := 111) rfl tl_11_4).trans (congrArg (x_g1 111 204) ((xe_iconst 17).trans (congrArg (x_iconst 17) ((xe_iconst 1).trans (congrArg (x_iconst 1) ((xe_iastore).trans (congrArg (x_iastore) ((xe_iconst 0).trans (congrArg (x_iconst 0) ((xe_istore 1).trans (congrArg (x_istore 1) xe_nil))))))))))))))))))))))))))))))))))))))))))))))))))))))))))))))))))))))))))))))))))))))))))))))))))))))))))))))))))))))))))))))))))))))))))))))))
theorem bk_X11_layDefaults_e_23 : ck_ fX11 none cX11_layDefaults 23 [.iconst 0, .iastore, .iinc 1 1, .goto 2] 31 = true := qck_r (nn_ _) (by decide +kernel)
theorem bs_X11_layDefaults_e_23 {P : Zt → Option Zv → Prop} (K : Int → Zl → List Zv → Zt → Prop) : sx_ K P [.iconst 0, .iastore, .iinc 1 1, .goto 2] 31 = x_iconst 0 (x_iastore (x_iinc 1 1 (x_goto 2 K))) := ((xe_iconst 0).trans (congrArg (x_iconst 0) ((xe_iastore).trans (congrArg (x_iastore) ((xe_iinc 1 1).trans (congrArg (x_iinc 1 1) (xe_goto 2)))))))
theorem bk_X11_layDefaults_e_24 : ck_ fX11 none cX11_layDefaults 24 [.iastore, .iinc 1 1, .goto 2] 31 = true := qck_r (nn_ _) (by decide +kernel)
theorem bs_X11_layDefaults_e_24 {P : Zt → Option Zv → Prop} (K : Int → Zl → List Zv → Zt → Prop) : sx_ K P [.iastore, .iinc 1 1, .goto 2] 31 = x_iastore (x_iinc 1 1 (x_goto 2 K)) := ((xe_iastore).trans (congrArg (x_iastore) ((xe_iinc 1 1).trans (congrArg (x_iinc 1 1) (xe_goto 2)))))
theorem bk_X11_layDefaults_e_0 : ck_ fX11 none cX11_layDefaults 0 [.iconst 0, .istore 1] 2 = true := qck_r (nn_ _) (by decide +kernel)
theorem bs_X11_layDefaults_e_0 {P : Zt → Option Zv → Prop} (K : Int → Zl → List Zv → Zt → Prop) : sx_ K P [.iconst 0, .istore 1] 2 = x_iconst 0 (x_istore 1 (K 2)) := ((xe_iconst 0).trans (congrArg (x_iconst 0) ((xe_istore 1).trans (congrArg (x_istore 1) xe_nil))))
abbrev po_X11_layDefaults_e (T : Zt) : Zt → Option Zv → Prop := fun T' r => r = none ∧ fr_ [(204, []), (269, [])] T T' ∧ (VR9_ T' dv9_ ∧ TA9_ T' (fun _ => 0))
set_option maxHeartbeats 4000000 in
theorem ct_X11_layDefaults_e {T : Zt} : Ct_ yX11_layDefaults zX11_layDefaults T [vR 111 0] (po_X11_layDefaults_e T) := by
  refine ct_of pn_11 rfl rfl (Nat.le_of_ble_eq_true rfl) (fun hT hav => ?_)
  have hz : zX11_layDefaults.2.2.2.1 = some .boolean → ∀ (T' : Zt) (x : Int), po_X11_layDefaults_e T T' (some (vI x)) → 0 ≤ x ∧ x ≤ 1 := fun h => by cases h
  show J_ zX11_layDefaults T (po_X11_layDefaults_e T) 0 0 0 [some (vR 111 0), none] [] T
  have c_2 : ∀ (nn : Nat) (k : Int) (T1 : Zt), ((23 - k).toNat) ≤ nn → (fr_ [(204, []), (269, [])] T T1) → (0 ≤ k ∧ k ≤ 23) → (∀ j : Int, 0 ≤ j → j < k → (j ≤ 15 → T1 204 0 j = 0)) → (∀ j : Int, 0 ≤ j → j < k → (15 < j → T1 204 0 j = -1)) → J_ zX11_layDefaults T (po_X11_layDefaults_e T) 0 0 2 [some (vR 111 0), some (vI k)] [] T1 := by
    intro nn
    induction nn using Nat.strongRecOn with
    | _ nn ih_2 =>
      intro k T1 hm_2 hf_2 k1 l1 l2
      replace hm_2 := fun (_ : Unit) => hm_2
      have c_143 : ∀ (nn : Nat) (k : Int) (T2 : Zt), ((14 - k).toNat) ≤ nn → (fr_ [(204, []), (269, [])] T T2) → (0 ≤ k ∧ k ≤ 14) → (VR9_ T2 dv9_) → (∀ j : Int, 0 ≤ j → j < k → T2 269 0 j = 0) → J_ zX11_layDefaults T (po_X11_layDefaults_e T) 0 0 143 [some (vR 111 0), some (vI k)] [] T2 := by
        intro nn
        induction nn using Nat.strongRecOn with
        | _ nn ih_143 =>
          intro k T2 hm_143 hf_143 k1 f1 tl
          replace hm_143 := fun (_ : Unit) => hm_143
          refine j_blx (F := fX11) tb_X11 (nn_ _) bk_X11_layDefaults_e_143 bs_X11_layDefaults_e_143 hz (fun K hK => ?_)
          refine And.intro (fun c1 => ?_) (fun c1 => ?_)
          · refine hK 162 _ [] T2 ?_
            refine j_blx (F := fX11) tb_X11 (nn_ _) bk_X11_layDefaults_e_162 bs_X11_layDefaults_e_162 hz (fun K hK => ?_)
            refine (show po_X11_layDefaults_e T T2 (none) from ?_)
            exact ⟨rfl, fr_t (fr_0 _ _) (fr_s hf_143 rfl), f1, fun j a b => tl j a (by omega)⟩
          · refine iy_i (by omega) (by omega) ?_
            refine x_nm (fun U2 hU2 => ?_)
            have e3 := up_f hU2
            refine rg_i (by omega) ?_
            refine hK 143 [some (vR 111 0), some (vI (k + 1))] [] U2 ?_
            refine ih_143 _ ?_ (k + 1) U2 (Nat.le_refl _) ?_ ?_ ?_ ?_
            · have hm_143 := hm_143 (); omega
            · exact fr_u (fr_t (fr_0 _ _) (fr_s hf_143 rfl)) hU2 rfl
            · omega
            · exact VR9_f f1 (show fr_ [(269, [])] T2 U2 from fr_u (fr_0 _ _) hU2 rfl) (fun _ => rfl)
            · intro j a b
              by_cases z : j = k
              · rw [z]; exact up_f hU2
              · rw [up_g hU2 (by omega)]; exact tl j a (by omega)
      refine j_blx (F := fX11) tb_X11 (nn_ _) bk_X11_layDefaults_e_2 bs_X11_layDefaults_e_2 hz (fun K hK => ?_)
      refine And.intro (fun c4 => ?_) (fun c4 => ?_)
      · refine hK 31 _ [] T1 ?_
        refine j_blx (F := fX11) tb_X11 (nn_ _) bk_X11_layDefaults_e_31 bs_X11_layDefaults_e_31 hz (fun K hK => ?_)
        refine iy_i (by omega) (by omega) ?_
        refine x_nm (fun U5 hU5 => ?_)
        have e6 := up_f hU5
        refine iy_i (by omega) (by omega) ?_
        refine x_nm (fun U7 hU7 => ?_)
        have e8 := up_f hU7
        refine iy_i (by omega) (by omega) ?_
        refine x_nm (fun U9 hU9 => ?_)
        have e10 := up_f hU9
        refine iy_i (by omega) (by omega) ?_
        refine x_nm (fun U11 hU11 => ?_)
        have e12 := up_f hU11
        refine iy_i (by omega) (by omega) ?_
        refine x_nm (fun U13 hU13 => ?_)
        have e14 := up_f hU13
        refine iy_i (by omega) (by omega) ?_
        refine x_nm (fun U15 hU15 => ?_)
        have e16 := up_f hU15
        refine iy_i (by omega) (by omega) ?_
        refine x_nm (fun U17 hU17 => ?_)
        have e18 := up_f hU17
        refine iy_i (by omega) (by omega) ?_
        refine x_nm (fun U19 hU19 => ?_)
        have e20 := up_f hU19
        refine iy_i (by omega) (by omega) ?_
        refine x_nm (fun U21 hU21 => ?_)
        have e22 := up_f hU21
        refine iy_i (by omega) (by omega) ?_
        refine x_nm (fun U23 hU23 => ?_)
        have e24 := up_f hU23
        refine iy_i (by omega) (by omega) ?_
        refine x_nm (fun U25 hU25 => ?_)
        have e26 := up_f hU25
        refine iy_i (by omega) (by omega) ?_
        refine x_nm (fun U27 hU27 => ?_)
        have e28 := up_f hU27
        refine iy_i (by omega) (by omega) ?_
        refine x_nm (fun U29 hU29 => ?_)
        have e30 := up_f hU29
        refine iy_i (by omega) (by omega) ?_
        refine x_nm (fun U31 hU31 => ?_)
        have e32 := up_f hU31
        refine hK 143 [some (vR 111 0), some (vI 0)] [] U31 ?_
        refine c_143 _ 0 U31 (Nat.le_refl _) ?_ ?_ ?_ ?_
        · exact fr_u (fr_u (fr_u (fr_u (fr_u (fr_u (fr_u (fr_u (fr_u (fr_u (fr_u (fr_u (fr_u (fr_u (fr_t (fr_0 _ _) (fr_s hf_2 rfl)) hU5 rfl) hU7 rfl) hU9 rfl) hU11 rfl) hU13 rfl) hU15 rfl) hU17 rfl) hU19 rfl) hU21 rfl) hU23 rfl) hU25 rfl) hU27 rfl) hU29 rfl) hU31 rfl
        · omega
        have e33 : U31 204 0 0 = T1 204 0 0 := (up_j hU31 (by decide) 204 0).trans ((up_j hU29 (by decide) 204 0).trans ((up_j hU27 (by decide) 204 0).trans ((up_j hU25 (by decide) 204 0).trans ((up_j hU23 (by decide) 204 0).trans ((up_j hU21 (by decide) 204 0).trans ((up_j hU19 (by decide) 204 0).trans ((up_j hU17 (by decide) 204 0).trans ((up_j hU15 (by decide) 204 0).trans ((up_j hU13 (by decide) 204 0).trans ((up_j hU11 (by decide) 204 0).trans ((up_j hU9 (by decide) 204 0).trans ((up_j hU7 (by decide) 204 0).trans (up_j hU5 (by decide) 204 0)))))))))))))
        have e34 : U31 204 0 1 = 3 := (up_j hU31 (by decide) 204 0).trans ((up_j hU29 (by decide) 204 0).trans ((up_j hU27 (by decide) 204 0).trans ((up_j hU25 (by decide) 204 0).trans ((up_j hU23 (by decide) 204 0).trans ((up_j hU21 (by decide) 204 0).trans ((up_j hU19 (by decide) 204 0).trans ((up_j hU17 (by decide) 204 0).trans ((up_j hU15 (by decide) 204 0).trans ((up_j hU13 (by decide) 204 0).trans ((up_j hU11 (by decide) 204 0).trans ((up_j hU9 (by decide) 204 0).trans ((up_j hU7 (by decide) 204 0).trans (up_f hU5)))))))))))))
        have e35 : U31 204 0 2 = 1 := (up_j hU31 (by decide) 204 0).trans ((up_j hU29 (by decide) 204 0).trans ((up_j hU27 (by decide) 204 0).trans ((up_j hU25 (by decide) 204 0).trans ((up_j hU23 (by decide) 204 0).trans ((up_j hU21 (by decide) 204 0).trans ((up_j hU19 (by decide) 204 0).trans ((up_j hU17 (by decide) 204 0).trans ((up_j hU15 (by decide) 204 0).trans ((up_j hU13 (by decide) 204 0).trans ((up_j hU11 (by decide) 204 0).trans ((up_j hU9 (by decide) 204 0).trans (up_f hU7))))))))))))
        have e36 : U31 204 0 3 = T1 204 0 3 := (up_j hU31 (by decide) 204 0).trans ((up_j hU29 (by decide) 204 0).trans ((up_j hU27 (by decide) 204 0).trans ((up_j hU25 (by decide) 204 0).trans ((up_j hU23 (by decide) 204 0).trans ((up_j hU21 (by decide) 204 0).trans ((up_j hU19 (by decide) 204 0).trans ((up_j hU17 (by decide) 204 0).trans ((up_j hU15 (by decide) 204 0).trans ((up_j hU13 (by decide) 204 0).trans ((up_j hU11 (by decide) 204 0).trans ((up_j hU9 (by decide) 204 0).trans ((up_j hU7 (by decide) 204 0).trans (up_j hU5 (by decide) 204 0)))))))))))))
        have e37 : U31 204 0 4 = 2 := (up_j hU31 (by decide) 204 0).trans ((up_j hU29 (by decide) 204 0).trans ((up_j hU27 (by decide) 204 0).trans ((up_j hU25 (by decide) 204 0).trans ((up_j hU23 (by decide) 204 0).trans ((up_j hU21 (by decide) 204 0).trans ((up_j hU19 (by decide) 204 0).trans ((up_j hU17 (by decide) 204 0).trans ((up_j hU15 (by decide) 204 0).trans ((up_j hU13 (by decide) 204 0).trans ((up_j hU11 (by decide) 204 0).trans (up_f hU9)))))))))))
        have e38 : U31 204 0 5 = T1 204 0 5 := (up_j hU31 (by decide) 204 0).trans ((up_j hU29 (by decide) 204 0).trans ((up_j hU27 (by decide) 204 0).trans ((up_j hU25 (by decide) 204 0).trans ((up_j hU23 (by decide) 204 0).trans ((up_j hU21 (by decide) 204 0).trans ((up_j hU19 (by decide) 204 0).trans ((up_j hU17 (by decide) 204 0).trans ((up_j hU15 (by decide) 204 0).trans ((up_j hU13 (by decide) 204 0).trans ((up_j hU11 (by decide) 204 0).trans ((up_j hU9 (by decide) 204 0).trans ((up_j hU7 (by decide) 204 0).trans (up_j hU5 (by decide) 204 0)))))))))))))
        have e39 : U31 204 0 6 = 1 := (up_j hU31 (by decide) 204 0).trans ((up_j hU29 (by decide) 204 0).trans ((up_j hU27 (by decide) 204 0).trans ((up_j hU25 (by decide) 204 0).trans ((up_j hU23 (by decide) 204 0).trans ((up_j hU21 (by decide) 204 0).trans ((up_j hU19 (by decide) 204 0).trans ((up_j hU17 (by decide) 204 0).trans ((up_j hU15 (by decide) 204 0).trans ((up_j hU13 (by decide) 204 0).trans (up_f hU11))))))))))
        have e40 : U31 204 0 7 = 7 := (up_j hU31 (by decide) 204 0).trans ((up_j hU29 (by decide) 204 0).trans ((up_j hU27 (by decide) 204 0).trans ((up_j hU25 (by decide) 204 0).trans ((up_j hU23 (by decide) 204 0).trans ((up_j hU21 (by decide) 204 0).trans ((up_j hU19 (by decide) 204 0).trans ((up_j hU17 (by decide) 204 0).trans ((up_j hU15 (by decide) 204 0).trans (up_f hU13)))))))))
        have e41 : U31 204 0 8 = 1 := (up_j hU31 (by decide) 204 0).trans ((up_j hU29 (by decide) 204 0).trans ((up_j hU27 (by decide) 204 0).trans ((up_j hU25 (by decide) 204 0).trans ((up_j hU23 (by decide) 204 0).trans ((up_j hU21 (by decide) 204 0).trans ((up_j hU19 (by decide) 204 0).trans ((up_j hU17 (by decide) 204 0).trans (up_f hU15))))))))
        have e42 : U31 204 0 9 = 2 := (up_j hU31 (by decide) 204 0).trans ((up_j hU29 (by decide) 204 0).trans ((up_j hU27 (by decide) 204 0).trans ((up_j hU25 (by decide) 204 0).trans ((up_j hU23 (by decide) 204 0).trans ((up_j hU21 (by decide) 204 0).trans ((up_j hU19 (by decide) 204 0).trans (up_f hU17)))))))
        have e43 : U31 204 0 10 = 2 := (up_j hU31 (by decide) 204 0).trans ((up_j hU29 (by decide) 204 0).trans ((up_j hU27 (by decide) 204 0).trans ((up_j hU25 (by decide) 204 0).trans ((up_j hU23 (by decide) 204 0).trans ((up_j hU21 (by decide) 204 0).trans (up_f hU19))))))
        have e44 : U31 204 0 11 = 3 := (up_j hU31 (by decide) 204 0).trans ((up_j hU29 (by decide) 204 0).trans ((up_j hU27 (by decide) 204 0).trans ((up_j hU25 (by decide) 204 0).trans ((up_j hU23 (by decide) 204 0).trans (up_f hU21)))))
        have e45 : U31 204 0 12 = 3 := (up_j hU31 (by decide) 204 0).trans ((up_j hU29 (by decide) 204 0).trans ((up_j hU27 (by decide) 204 0).trans ((up_j hU25 (by decide) 204 0).trans (up_f hU23))))
        have e46 : U31 204 0 13 = 3 := (up_j hU31 (by decide) 204 0).trans ((up_j hU29 (by decide) 204 0).trans ((up_j hU27 (by decide) 204 0).trans (up_f hU25)))
        have e47 : U31 204 0 14 = 1 := (up_j hU31 (by decide) 204 0).trans ((up_j hU29 (by decide) 204 0).trans (up_f hU27))
        have e48 : U31 204 0 15 = T1 204 0 15 := (up_j hU31 (by decide) 204 0).trans ((up_j hU29 (by decide) 204 0).trans ((up_j hU27 (by decide) 204 0).trans ((up_j hU25 (by decide) 204 0).trans ((up_j hU23 (by decide) 204 0).trans ((up_j hU21 (by decide) 204 0).trans ((up_j hU19 (by decide) 204 0).trans ((up_j hU17 (by decide) 204 0).trans ((up_j hU15 (by decide) 204 0).trans ((up_j hU13 (by decide) 204 0).trans ((up_j hU11 (by decide) 204 0).trans ((up_j hU9 (by decide) 204 0).trans ((up_j hU7 (by decide) 204 0).trans (up_j hU5 (by decide) 204 0)))))))))))))
        have e49 : U31 204 0 16 = 0 := (up_j hU31 (by decide) 204 0).trans (up_f hU29)
        have e50 : U31 204 0 17 = 1 := up_f hU31
        have e51 : U31 204 0 18 = T1 204 0 18 := (up_j hU31 (by decide) 204 0).trans ((up_j hU29 (by decide) 204 0).trans ((up_j hU27 (by decide) 204 0).trans ((up_j hU25 (by decide) 204 0).trans ((up_j hU23 (by decide) 204 0).trans ((up_j hU21 (by decide) 204 0).trans ((up_j hU19 (by decide) 204 0).trans ((up_j hU17 (by decide) 204 0).trans ((up_j hU15 (by decide) 204 0).trans ((up_j hU13 (by decide) 204 0).trans ((up_j hU11 (by decide) 204 0).trans ((up_j hU9 (by decide) 204 0).trans ((up_j hU7 (by decide) 204 0).trans (up_j hU5 (by decide) 204 0)))))))))))))
        have e52 : U31 204 0 19 = T1 204 0 19 := (up_j hU31 (by decide) 204 0).trans ((up_j hU29 (by decide) 204 0).trans ((up_j hU27 (by decide) 204 0).trans ((up_j hU25 (by decide) 204 0).trans ((up_j hU23 (by decide) 204 0).trans ((up_j hU21 (by decide) 204 0).trans ((up_j hU19 (by decide) 204 0).trans ((up_j hU17 (by decide) 204 0).trans ((up_j hU15 (by decide) 204 0).trans ((up_j hU13 (by decide) 204 0).trans ((up_j hU11 (by decide) 204 0).trans ((up_j hU9 (by decide) 204 0).trans ((up_j hU7 (by decide) 204 0).trans (up_j hU5 (by decide) 204 0)))))))))))))
        have e53 : U31 204 0 20 = T1 204 0 20 := (up_j hU31 (by decide) 204 0).trans ((up_j hU29 (by decide) 204 0).trans ((up_j hU27 (by decide) 204 0).trans ((up_j hU25 (by decide) 204 0).trans ((up_j hU23 (by decide) 204 0).trans ((up_j hU21 (by decide) 204 0).trans ((up_j hU19 (by decide) 204 0).trans ((up_j hU17 (by decide) 204 0).trans ((up_j hU15 (by decide) 204 0).trans ((up_j hU13 (by decide) 204 0).trans ((up_j hU11 (by decide) 204 0).trans ((up_j hU9 (by decide) 204 0).trans ((up_j hU7 (by decide) 204 0).trans (up_j hU5 (by decide) 204 0)))))))))))))
        have e54 : U31 204 0 21 = T1 204 0 21 := (up_j hU31 (by decide) 204 0).trans ((up_j hU29 (by decide) 204 0).trans ((up_j hU27 (by decide) 204 0).trans ((up_j hU25 (by decide) 204 0).trans ((up_j hU23 (by decide) 204 0).trans ((up_j hU21 (by decide) 204 0).trans ((up_j hU19 (by decide) 204 0).trans ((up_j hU17 (by decide) 204 0).trans ((up_j hU15 (by decide) 204 0).trans ((up_j hU13 (by decide) 204 0).trans ((up_j hU11 (by decide) 204 0).trans ((up_j hU9 (by decide) 204 0).trans ((up_j hU7 (by decide) 204 0).trans (up_j hU5 (by decide) 204 0)))))))))))))
        have e55 : U31 204 0 22 = T1 204 0 22 := (up_j hU31 (by decide) 204 0).trans ((up_j hU29 (by decide) 204 0).trans ((up_j hU27 (by decide) 204 0).trans ((up_j hU25 (by decide) 204 0).trans ((up_j hU23 (by decide) 204 0).trans ((up_j hU21 (by decide) 204 0).trans ((up_j hU19 (by decide) 204 0).trans ((up_j hU17 (by decide) 204 0).trans ((up_j hU15 (by decide) 204 0).trans ((up_j hU13 (by decide) 204 0).trans ((up_j hU11 (by decide) 204 0).trans ((up_j hU9 (by decide) 204 0).trans ((up_j hU7 (by decide) 204 0).trans (up_j hU5 (by decide) 204 0)))))))))))))
        · intro w h1 h2
          rcases (by omega : w = 0 ∨ w = 1 ∨ w = 2 ∨ w = 3 ∨ w = 4 ∨ w = 5 ∨ w = 6 ∨ w = 7 ∨ w = 8 ∨ w = 9 ∨ w = 10 ∨ w = 11 ∨ w = 12 ∨ w = 13 ∨ w = 14 ∨ w = 15 ∨ w = 16 ∨ w = 17 ∨ w = 18 ∨ w = 19 ∨ w = 20 ∨ w = 21 ∨ w = 22) with rfl | rfl | rfl | rfl | rfl | rfl | rfl | rfl | rfl | rfl | rfl | rfl | rfl | rfl | rfl | rfl | rfl | rfl | rfl | rfl | rfl | rfl | rfl
          · rw [show dv9_ 0 = 0 by decide +kernel]
            have z := l1 0 (by omega) (by omega)
            have z2 := l2 0 (by omega) (by omega)
            omega
          · rw [show dv9_ 1 = 3 by decide +kernel]
            have z := l1 1 (by omega) (by omega)
            have z2 := l2 1 (by omega) (by omega)
            omega
          · rw [show dv9_ 2 = 1 by decide +kernel]
            have z := l1 2 (by omega) (by omega)
            have z2 := l2 2 (by omega) (by omega)
            omega
          · rw [show dv9_ 3 = 0 by decide +kernel]
            have z := l1 3 (by omega) (by omega)
            have z2 := l2 3 (by omega) (by omega)
            omega
          · rw [show dv9_ 4 = 2 by decide +kernel]
            have z := l1 4 (by omega) (by omega)
            have z2 := l2 4 (by omega) (by omega)
            omega
          · rw [show dv9_ 5 = 0 by decide +kernel]
            have z := l1 5 (by omega) (by omega)
            have z2 := l2 5 (by omega) (by omega)
            omega
          · rw [show dv9_ 6 = 1 by decide +kernel]
            have z := l1 6 (by omega) (by omega)
            have z2 := l2 6 (by omega) (by omega)
            omega
          · rw [show dv9_ 7 = 7 by decide +kernel]
            have z := l1 7 (by omega) (by omega)
            have z2 := l2 7 (by omega) (by omega)
            omega
          · rw [show dv9_ 8 = 1 by decide +kernel]
            have z := l1 8 (by omega) (by omega)
            have z2 := l2 8 (by omega) (by omega)
            omega
          · rw [show dv9_ 9 = 2 by decide +kernel]
            have z := l1 9 (by omega) (by omega)
            have z2 := l2 9 (by omega) (by omega)
            omega
          · rw [show dv9_ 10 = 2 by decide +kernel]
            have z := l1 10 (by omega) (by omega)
            have z2 := l2 10 (by omega) (by omega)
            omega
          · rw [show dv9_ 11 = 3 by decide +kernel]
            have z := l1 11 (by omega) (by omega)
            have z2 := l2 11 (by omega) (by omega)
            omega
          · rw [show dv9_ 12 = 3 by decide +kernel]
            have z := l1 12 (by omega) (by omega)
            have z2 := l2 12 (by omega) (by omega)
            omega
          · rw [show dv9_ 13 = 3 by decide +kernel]
            have z := l1 13 (by omega) (by omega)
            have z2 := l2 13 (by omega) (by omega)
            omega
          · rw [show dv9_ 14 = 1 by decide +kernel]
            have z := l1 14 (by omega) (by omega)
            have z2 := l2 14 (by omega) (by omega)
            omega
          · rw [show dv9_ 15 = 0 by decide +kernel]
            have z := l1 15 (by omega) (by omega)
            have z2 := l2 15 (by omega) (by omega)
            omega
          · rw [show dv9_ 16 = 0 by decide +kernel]
            have z := l1 16 (by omega) (by omega)
            have z2 := l2 16 (by omega) (by omega)
            omega
          · rw [show dv9_ 17 = 1 by decide +kernel]
            have z := l1 17 (by omega) (by omega)
            have z2 := l2 17 (by omega) (by omega)
            omega
          · rw [show dv9_ 18 = (-1) by decide +kernel]
            have z := l1 18 (by omega) (by omega)
            have z2 := l2 18 (by omega) (by omega)
            omega
          · rw [show dv9_ 19 = (-1) by decide +kernel]
            have z := l1 19 (by omega) (by omega)
            have z2 := l2 19 (by omega) (by omega)
            omega
          · rw [show dv9_ 20 = (-1) by decide +kernel]
            have z := l1 20 (by omega) (by omega)
            have z2 := l2 20 (by omega) (by omega)
            omega
          · rw [show dv9_ 21 = (-1) by decide +kernel]
            have z := l1 21 (by omega) (by omega)
            have z2 := l2 21 (by omega) (by omega)
            omega
          · rw [show dv9_ 22 = (-1) by decide +kernel]
            have z := l1 22 (by omega) (by omega)
            have z2 := l2 22 (by omega) (by omega)
            omega
        · intro j a b; omega
      · refine And.intro (fun c56 => ?_) (fun c56 => ?_)
        · refine hK 23 [some (vR 111 0), some (vI k)] [vI k, vR 204 0] T1 ?_
          refine j_blx (F := fX11) tb_X11 (nn_ _) bk_X11_layDefaults_e_23 bs_X11_layDefaults_e_23 hz (fun K hK => ?_)
          refine iy_i (by omega) (by omega) ?_
          refine x_nm (fun U57 hU57 => ?_)
          have e58 := up_f hU57
          refine rg_i (by omega) ?_
          refine hK 2 [some (vR 111 0), some (vI (k + 1))] [] U57 ?_
          refine ih_2 _ ?_ (k + 1) U57 (Nat.le_refl _) ?_ ?_ ?_ ?_
          · have hm_2 := hm_2 (); omega
          · exact fr_u (fr_t (fr_0 _ _) (fr_s hf_2 rfl)) hU57 rfl
          · omega
          · intro j a b
            by_cases z : j = k
            · subst z; rw [up_f hU57]; omega
            · rw [up_g hU57 (by omega)]; exact l1 j a (by omega)
          · intro j a b
            by_cases z : j = k
            · subst z; rw [up_f hU57]; omega
            · rw [up_g hU57 (by omega)]; exact l2 j a (by omega)
        · refine hK 24 [some (vR 111 0), some (vI k)] [vI (-1), vI k, vR 204 0] T1 ?_
          refine j_blx (F := fX11) tb_X11 (nn_ _) bk_X11_layDefaults_e_24 bs_X11_layDefaults_e_24 hz (fun K hK => ?_)
          refine iy_i (by omega) (by omega) ?_
          refine x_nm (fun U59 hU59 => ?_)
          have e60 := up_f hU59
          refine rg_i (by omega) ?_
          refine hK 2 [some (vR 111 0), some (vI (k + 1))] [] U59 ?_
          refine ih_2 _ ?_ (k + 1) U59 (Nat.le_refl _) ?_ ?_ ?_ ?_
          · have hm_2 := hm_2 (); omega
          · exact fr_u (fr_t (fr_0 _ _) (fr_s hf_2 rfl)) hU59 rfl
          · omega
          · intro j a b
            by_cases z : j = k
            · subst z; rw [up_f hU59]; omega
            · rw [up_g hU59 (by omega)]; exact l1 j a (by omega)
          · intro j a b
            by_cases z : j = k
            · subst z; rw [up_f hU59]; omega
            · rw [up_g hU59 (by omega)]; exact l2 j a (by omega)
  refine j_blx (F := fX11) tb_X11 (nn_ _) bk_X11_layDefaults_e_0 bs_X11_layDefaults_e_0 hz (fun K hK => ?_)
  refine hK 2 [some (vR 111 0), some (vI 0)] [] T ?_
  refine c_2 _ 0 T (Nat.le_refl _) ?_ ?_ ?_ ?_
  · exact fr_0 _ _
  · omega
  · intro j a b; omega
  · intro j a b; omega
theorem bk_X11_readStatement_e_0 : ck_ fX11 none cX11_readStatement 0 [.aload 0, .tableswitch 0 11 58 #[], .iconst 1, .if_icmp .eq 17, .aload 0, .iconst 2, .aload 0, .tableswitch 0 11 59 #[]] 14 = true := qck_r (nn_ _) (by decide +kernel)
theorem bs_X11_readStatement_e_0 {P : Zt → Option Zv → Prop} (K : Int → Zl → List Zv → Zt → Prop) : sx_ K P [.aload 0, .tableswitch 0 11 58 #[], .iconst 1, .if_icmp .eq 17, .aload 0, .iconst 2, .aload 0, .tableswitch 0 11 59 #[]] 14 = x_aload 0 (x_g0 111 58 0 4 (x_iconst 1 (x_if_icmp .eq 17 K (x_aload 0 (x_iconst 2 (x_aload 0 (x_g0 111 59 0 400 (K 14)))))))) := ((xe_aload 0).trans (congrArg (x_aload 0) ((xe_g0 (kk := 111) rfl tl_11_58).trans (congrArg (x_g0 111 58 0 4) ((xe_iconst 1).trans (congrArg (x_iconst 1) ((xe_if_icmp .eq 17).trans (congrArg (x_if_icmp .eq 17 K) ((xe_aload 0).trans (congrArg (x_aload 0) ((xe_iconst 2).trans (congrArg (x_iconst 2) ((xe_aload 0).trans (congrArg (x_aload 0) ((xe_g0 (kk := 111) rfl tl_11_59).trans (congrArg (x_g0 111 59 0 400) xe_nil))))))))))))))))
theorem bk_X11_readStatement_e_17 : ck_ fX11 none cX11_readStatement 17 [.aload 0, .tableswitch 0 11 62 #[], .ifCond .ne 35, .aload 0, .aload 0, .tableswitch 0 11 64 #[]] 29 = true := qck_r (nn_ _) (by decide +kernel)
theorem bs_X11_readStatement_e_17 {P : Zt → Option Zv → Prop} (K : Int → Zl → List Zv → Zt → Prop) : sx_ K P [.aload 0, .tableswitch 0 11 62 #[], .ifCond .ne 35, .aload 0, .aload 0, .tableswitch 0 11 64 #[]] 29 = x_aload 0 (x_g0 111 62 0 5 (x_ifCond .ne 35 K (x_aload 0 (x_aload 0 (x_g1 111 264 (K 29)))))) := ((xe_aload 0).trans (congrArg (x_aload 0) ((xe_g0 (kk := 111) rfl tl_11_62).trans (congrArg (x_g0 111 62 0 5) ((xe_ifCond .ne 35).trans (congrArg (x_ifCond .ne 35 K) ((xe_aload 0).trans (congrArg (x_aload 0) ((xe_aload 0).trans (congrArg (x_aload 0) ((xe_g1 (kk := 111) rfl tl_11_64).trans (congrArg (x_g1 111 264) xe_nil))))))))))))
theorem bk_X11_readStatement_e_32 : ck_ fX11 none cX11_readStatement 32 [.goto 36] 35 = true := qck_r (nn_ _) (by decide +kernel)
theorem bs_X11_readStatement_e_32 {P : Zt → Option Zv → Prop} (K : Int → Zl → List Zv → Zt → Prop) : sx_ K P [.goto 36] 35 = x_goto 36 K := (xe_goto 36)
theorem bk_X11_readStatement_e_36 : ck_ fX11 none cX11_readStatement 36 [.istore 1, .aload 0, .tableswitch 0 11 62 #[], .ifCond .ne 58, .iload 1, .iconst (-1), .if_icmp .ne 58, .aload 0, .iconst 3, .aload 0, .tableswitch 0 11 59 #[]] 55 = true := qck_r (nn_ _) (by decide +kernel)
theorem bs_X11_readStatement_e_36 {P : Zt → Option Zv → Prop} (K : Int → Zl → List Zv → Zt → Prop) : sx_ K P [.istore 1, .aload 0, .tableswitch 0 11 62 #[], .ifCond .ne 58, .iload 1, .iconst (-1), .if_icmp .ne 58, .aload 0, .iconst 3, .aload 0, .tableswitch 0 11 59 #[]] 55 = x_istore 1 (x_aload 0 (x_g0 111 62 0 5 (x_ifCond .ne 58 K (x_iload 1 (x_iconst (-1) (x_if_icmp .ne 58 K (x_aload 0 (x_iconst 3 (x_aload 0 (x_g0 111 59 0 400 (K 55))))))))))) := ((xe_istore 1).trans (congrArg (x_istore 1) ((xe_aload 0).trans (congrArg (x_aload 0) ((xe_g0 (kk := 111) rfl tl_11_62).trans (congrArg (x_g0 111 62 0 5) ((xe_ifCond .ne 58).trans (congrArg (x_ifCond .ne 58 K) ((xe_iload 1).trans (congrArg (x_iload 1) ((xe_iconst (-1)).trans (congrArg (x_iconst (-1)) ((xe_if_icmp .ne 58).trans (congrArg (x_if_icmp .ne 58 K) ((xe_aload 0).trans (congrArg (x_aload 0) ((xe_iconst 3).trans (congrArg (x_iconst 3) ((xe_aload 0).trans (congrArg (x_aload 0) ((xe_g0 (kk := 111) rfl tl_11_59).trans (congrArg (x_g0 111 59 0 400) xe_nil))))))))))))))))))))))
theorem bk_X11_readStatement_e_58 : ck_ fX11 none cX11_readStatement 58 [.aload 0, .tableswitch 0 11 62 #[], .ifCond .ne 83, .aload 0, .tableswitch 0 11 69 #[], .iload 1, .baload, .ifCond .eq 83, .aload 0, .iconst 5, .aload 0, .tableswitch 0 11 59 #[]] 80 = true := qck_r (nn_ _) (by decide +kernel)
theorem bs_X11_readStatement_e_58 {P : Zt → Option Zv → Prop} (K : Int → Zl → List Zv → Zt → Prop) : sx_ K P [.aload 0, .tableswitch 0 11 62 #[], .ifCond .ne 83, .aload 0, .tableswitch 0 11 69 #[], .iload 1, .baload, .ifCond .eq 83, .aload 0, .iconst 5, .aload 0, .tableswitch 0 11 59 #[]] 80 = x_aload 0 (x_g0 111 62 0 5 (x_ifCond .ne 83 K (x_aload 0 (x_g1 111 269 (x_iload 1 (x_baload (x_ifCond .eq 83 K (x_aload 0 (x_iconst 5 (x_aload 0 (x_g0 111 59 0 400 (K 80)))))))))))) := ((xe_aload 0).trans (congrArg (x_aload 0) ((xe_g0 (kk := 111) rfl tl_11_62).trans (congrArg (x_g0 111 62 0 5) ((xe_ifCond .ne 83).trans (congrArg (x_ifCond .ne 83 K) ((xe_aload 0).trans (congrArg (x_aload 0) ((xe_g1 (kk := 111) rfl tl_11_69).trans (congrArg (x_g1 111 269) ((xe_iload 1).trans (congrArg (x_iload 1) ((xe_baload).trans (congrArg (x_baload) ((xe_ifCond .eq 83).trans (congrArg (x_ifCond .eq 83 K) ((xe_aload 0).trans (congrArg (x_aload 0) ((xe_iconst 5).trans (congrArg (x_iconst 5) ((xe_aload 0).trans (congrArg (x_aload 0) ((xe_g0 (kk := 111) rfl tl_11_59).trans (congrArg (x_g0 111 59 0 400) xe_nil))))))))))))))))))))))))
theorem bk_X11_readStatement_e_83 : ck_ fX11 none cX11_readStatement 83 [.aload 0, .tableswitch 0 11 62 #[], .ifCond .eq 91, .return_] 91 = true := qck_r (nn_ _) (by decide +kernel)
theorem bs_X11_readStatement_e_83 {P : Zt → Option Zv → Prop} (K : Int → Zl → List Zv → Zt → Prop) : sx_ K P [.aload 0, .tableswitch 0 11 62 #[], .ifCond .eq 91, .return_] 91 = x_aload 0 (x_g0 111 62 0 5 (x_ifCond .eq 91 K (x_return_ P))) := ((xe_aload 0).trans (congrArg (x_aload 0) ((xe_g0 (kk := 111) rfl tl_11_62).trans (congrArg (x_g0 111 62 0 5) ((xe_ifCond .eq 91).trans (congrArg (x_ifCond .eq 91 K) (xe_return_)))))))
theorem bk_X11_readStatement_e_91 : ck_ fX11 none cX11_readStatement 91 [.aload 0, .tableswitch 0 11 69 #[], .iload 1, .iconst 1, .bastore, .iload 1, .iconst 2, .if_icmp .ne 108, .aload 0] 104 = true := qck_r (nn_ _) (by decide +kernel)
theorem bs_X11_readStatement_e_91 {P : Zt → Option Zv → Prop} (K : Int → Zl → List Zv → Zt → Prop) : sx_ K P [.aload 0, .tableswitch 0 11 69 #[], .iload 1, .iconst 1, .bastore, .iload 1, .iconst 2, .if_icmp .ne 108, .aload 0] 104 = x_aload 0 (x_g1 111 269 (x_iload 1 (x_iconst 1 (x_bastore (x_iload 1 (x_iconst 2 (x_if_icmp .ne 108 K (x_aload 0 (K 104))))))))) := ((xe_aload 0).trans (congrArg (x_aload 0) ((xe_g1 (kk := 111) rfl tl_11_69).trans (congrArg (x_g1 111 269) ((xe_iload 1).trans (congrArg (x_iload 1) ((xe_iconst 1).trans (congrArg (x_iconst 1) ((xe_bastore).trans (congrArg (x_bastore) ((xe_iload 1).trans (congrArg (x_iload 1) ((xe_iconst 2).trans (congrArg (x_iconst 2) ((xe_if_icmp .ne 108).trans (congrArg (x_if_icmp .ne 108 K) ((xe_aload 0).trans (congrArg (x_aload 0) xe_nil))))))))))))))))))
theorem bk_X11_readStatement_e_108 : ck_ fX11 none cX11_readStatement 108 [.iload 1, .ifCond .ne 119, .aload 0] 113 = true := qck_r (nn_ _) (by decide +kernel)
theorem bs_X11_readStatement_e_108 {P : Zt → Option Zv → Prop} (K : Int → Zl → List Zv → Zt → Prop) : sx_ K P [.iload 1, .ifCond .ne 119, .aload 0] 113 = x_iload 1 (x_ifCond .ne 119 K (x_aload 0 (K 113))) := ((xe_iload 1).trans (congrArg (x_iload 1) ((xe_ifCond .ne 119).trans (congrArg (x_ifCond .ne 119 K) ((xe_aload 0).trans (congrArg (x_aload 0) xe_nil))))))
theorem bk_X11_readStatement_e_119 : ck_ fX11 none cX11_readStatement 119 [.iload 1, .iconst 1, .if_icmp .ne 159, .aload 0, .iconst 0, .iconst 9, .iconst 1] 129 = true := qck_r (nn_ _) (by decide +kernel)
theorem bs_X11_readStatement_e_119 {P : Zt → Option Zv → Prop} (K : Int → Zl → List Zv → Zt → Prop) : sx_ K P [.iload 1, .iconst 1, .if_icmp .ne 159, .aload 0, .iconst 0, .iconst 9, .iconst 1] 129 = x_iload 1 (x_iconst 1 (x_if_icmp .ne 159 K (x_aload 0 (x_iconst 0 (x_iconst 9 (x_iconst 1 (K 129))))))) := ((xe_iload 1).trans (congrArg (x_iload 1) ((xe_iconst 1).trans (congrArg (x_iconst 1) ((xe_if_icmp .ne 159).trans (congrArg (x_if_icmp .ne 159 K) ((xe_aload 0).trans (congrArg (x_aload 0) ((xe_iconst 0).trans (congrArg (x_iconst 0) ((xe_iconst 9).trans (congrArg (x_iconst 9) ((xe_iconst 1).trans (congrArg (x_iconst 1) xe_nil))))))))))))))
theorem bk_X11_readStatement_e_159 : ck_ fX11 none cX11_readStatement 159 [.iload 1, .iconst 3, .if_icmp .ne 174, .aload 0, .tableswitch 0 11 4 #[], .iconst 5, .iconst 1, .iastore, .goto 200] 174 = true := qck_r (nn_ _) (by decide +kernel)
theorem bs_X11_readStatement_e_159 {P : Zt → Option Zv → Prop} (K : Int → Zl → List Zv → Zt → Prop) : sx_ K P [.iload 1, .iconst 3, .if_icmp .ne 174, .aload 0, .tableswitch 0 11 4 #[], .iconst 5, .iconst 1, .iastore, .goto 200] 174 = x_iload 1 (x_iconst 3 (x_if_icmp .ne 174 K (x_aload 0 (x_g1 111 204 (x_iconst 5 (x_iconst 1 (x_iastore (x_goto 200 K)))))))) := ((xe_iload 1).trans (congrArg (x_iload 1) ((xe_iconst 3).trans (congrArg (x_iconst 3) ((xe_if_icmp .ne 174).trans (congrArg (x_if_icmp .ne 174 K) ((xe_aload 0).trans (congrArg (x_aload 0) ((xe_g1 (kk := 111) rfl tl_11_4).trans (congrArg (x_g1 111 204) ((xe_iconst 5).trans (congrArg (x_iconst 5) ((xe_iconst 1).trans (congrArg (x_iconst 1) ((xe_iastore).trans (congrArg (x_iastore) (xe_goto 200)))))))))))))))))
theorem bk_X11_readStatement_e_174 : ck_ fX11 none cX11_readStatement 174 [.aload 0, .aload 0, .tableswitch 0 11 67 #[], .iload 1, .iconst 4, .isub, .iaload, .aload 0, .tableswitch 0 11 68 #[], .iload 1, .iconst 4, .isub, .iaload, .iconst 6, .iload 1, .iadd, .iconst 4, .isub] 197 = true := qck_r (nn_ _) (by decide +kernel)
theorem bs_X11_readStatement_e_174 {P : Zt → Option Zv → Prop} (K : Int → Zl → List Zv → Zt → Prop) : sx_ K P [.aload 0, .aload 0, .tableswitch 0 11 67 #[], .iload 1, .iconst 4, .isub, .iaload, .aload 0, .tableswitch 0 11 68 #[], .iload 1, .iconst 4, .isub, .iaload, .iconst 6, .iload 1, .iadd, .iconst 4, .isub] 197 = x_aload 0 (x_aload 0 (x_g1 111 267 (x_iload 1 (x_iconst 4 (x_isub (x_iaload (x_aload 0 (x_g1 111 268 (x_iload 1 (x_iconst 4 (x_isub (x_iaload (x_iconst 6 (x_iload 1 (x_iadd (x_iconst 4 (x_isub (K 197)))))))))))))))))) := ((xe_aload 0).trans (congrArg (x_aload 0) ((xe_aload 0).trans (congrArg (x_aload 0) ((xe_g1 (kk := 111) rfl tl_11_67).trans (congrArg (x_g1 111 267) ((xe_iload 1).trans (congrArg (x_iload 1) ((xe_iconst 4).trans (congrArg (x_iconst 4) ((xe_isub).trans (congrArg (x_isub) ((xe_iaload).trans (congrArg (x_iaload) ((xe_aload 0).trans (congrArg (x_aload 0) ((xe_g1 (kk := 111) rfl tl_11_68).trans (congrArg (x_g1 111 268) ((xe_iload 1).trans (congrArg (x_iload 1) ((xe_iconst 4).trans (congrArg (x_iconst 4) ((xe_isub).trans (congrArg (x_isub) ((xe_iaload).trans (congrArg (x_iaload) ((xe_iconst 6).trans (congrArg (x_iconst 6) ((xe_iload 1).trans (congrArg (x_iload 1) ((xe_iadd).trans (congrArg (x_iadd) ((xe_iconst 4).trans (congrArg (x_iconst 4) ((xe_isub).trans (congrArg (x_isub) xe_nil))))))))))))))))))))))))))))))))))))
theorem bk_X11_readStatement_e_200 : ck_ fX11 none cX11_readStatement 200 [.aload 0, .tableswitch 0 11 62 #[], .ifCond .ne 235, .aload 0] 208 = true := qck_r (nn_ _) (by decide +kernel)
theorem bs_X11_readStatement_e_200 {P : Zt → Option Zv → Prop} (K : Int → Zl → List Zv → Zt → Prop) : sx_ K P [.aload 0, .tableswitch 0 11 62 #[], .ifCond .ne 235, .aload 0] 208 = x_aload 0 (x_g0 111 62 0 5 (x_ifCond .ne 235 K (x_aload 0 (K 208)))) := ((xe_aload 0).trans (congrArg (x_aload 0) ((xe_g0 (kk := 111) rfl tl_11_62).trans (congrArg (x_g0 111 62 0 5) ((xe_ifCond .ne 235).trans (congrArg (x_ifCond .ne 235 K) ((xe_aload 0).trans (congrArg (x_aload 0) xe_nil))))))))
theorem bk_X11_readStatement_e_235 : ck_ fX11 none cX11_readStatement 235 [.return_] 236 = true := qck_r (nn_ _) (by decide +kernel)
theorem bs_X11_readStatement_e_235 {P : Zt → Option Zv → Prop} (K : Int → Zl → List Zv → Zt → Prop) : sx_ K P [.return_] 236 = x_return_ P := (xe_return_)
theorem bk_X11_readStatement_e_211 : ck_ fX11 none cX11_readStatement 211 [.aload 0, .tableswitch 0 11 62 #[], .ifCond .ne 235, .aload 0, .tableswitch 0 11 58 #[], .iconst 3, .if_icmp .eq 235, .aload 0, .iconst 2, .aload 0, .tableswitch 0 11 59 #[]] 232 = true := qck_r (nn_ _) (by decide +kernel)
theorem bs_X11_readStatement_e_211 {P : Zt → Option Zv → Prop} (K : Int → Zl → List Zv → Zt → Prop) : sx_ K P [.aload 0, .tableswitch 0 11 62 #[], .ifCond .ne 235, .aload 0, .tableswitch 0 11 58 #[], .iconst 3, .if_icmp .eq 235, .aload 0, .iconst 2, .aload 0, .tableswitch 0 11 59 #[]] 232 = x_aload 0 (x_g0 111 62 0 5 (x_ifCond .ne 235 K (x_aload 0 (x_g0 111 58 0 4 (x_iconst 3 (x_if_icmp .eq 235 K (x_aload 0 (x_iconst 2 (x_aload 0 (x_g0 111 59 0 400 (K 232))))))))))) := ((xe_aload 0).trans (congrArg (x_aload 0) ((xe_g0 (kk := 111) rfl tl_11_62).trans (congrArg (x_g0 111 62 0 5) ((xe_ifCond .ne 235).trans (congrArg (x_ifCond .ne 235 K) ((xe_aload 0).trans (congrArg (x_aload 0) ((xe_g0 (kk := 111) rfl tl_11_58).trans (congrArg (x_g0 111 58 0 4) ((xe_iconst 3).trans (congrArg (x_iconst 3) ((xe_if_icmp .eq 235).trans (congrArg (x_if_icmp .eq 235 K) ((xe_aload 0).trans (congrArg (x_aload 0) ((xe_iconst 2).trans (congrArg (x_iconst 2) ((xe_aload 0).trans (congrArg (x_aload 0) ((xe_g0 (kk := 111) rfl tl_11_59).trans (congrArg (x_g0 111 59 0 400) xe_nil))))))))))))))))))))))
theorem bk_X11_readStatement_e_132 : ck_ fX11 none cX11_readStatement 132 [.aload 0, .iconst 0, .aload 0, .tableswitch 0 11 4 #[], .iconst 1, .iaload, .iconst 2] 141 = true := qck_r (nn_ _) (by decide +kernel)
theorem bs_X11_readStatement_e_132 {P : Zt → Option Zv → Prop} (K : Int → Zl → List Zv → Zt → Prop) : sx_ K P [.aload 0, .iconst 0, .aload 0, .tableswitch 0 11 4 #[], .iconst 1, .iaload, .iconst 2] 141 = x_aload 0 (x_iconst 0 (x_aload 0 (x_g1 111 204 (x_iconst 1 (x_iaload (x_iconst 2 (K 141))))))) := ((xe_aload 0).trans (congrArg (x_aload 0) ((xe_iconst 0).trans (congrArg (x_iconst 0) ((xe_aload 0).trans (congrArg (x_aload 0) ((xe_g1 (kk := 111) rfl tl_11_4).trans (congrArg (x_g1 111 204) ((xe_iconst 1).trans (congrArg (x_iconst 1) ((xe_iaload).trans (congrArg (x_iaload) ((xe_iconst 2).trans (congrArg (x_iconst 2) xe_nil))))))))))))))
theorem bk_X11_readStatement_e_144 : ck_ fX11 none cX11_readStatement 144 [.aload 0, .iconst 0, .aload 0, .tableswitch 0 11 4 #[], .iconst 2, .iaload, .iconst 3] 153 = true := qck_r (nn_ _) (by decide +kernel)
theorem bs_X11_readStatement_e_144 {P : Zt → Option Zv → Prop} (K : Int → Zl → List Zv → Zt → Prop) : sx_ K P [.aload 0, .iconst 0, .aload 0, .tableswitch 0 11 4 #[], .iconst 2, .iaload, .iconst 3] 153 = x_aload 0 (x_iconst 0 (x_aload 0 (x_g1 111 204 (x_iconst 2 (x_iaload (x_iconst 3 (K 153))))))) := ((xe_aload 0).trans (congrArg (x_aload 0) ((xe_iconst 0).trans (congrArg (x_iconst 0) ((xe_aload 0).trans (congrArg (x_aload 0) ((xe_g1 (kk := 111) rfl tl_11_4).trans (congrArg (x_g1 111 204) ((xe_iconst 2).trans (congrArg (x_iconst 2) ((xe_iaload).trans (congrArg (x_iaload) ((xe_iconst 3).trans (congrArg (x_iconst 3) xe_nil))))))))))))))
theorem bk_X11_readStatement_e_156 : ck_ fX11 none cX11_readStatement 156 [.goto 200] 159 = true := qck_r (nn_ _) (by decide +kernel)
theorem bs_X11_readStatement_e_156 {P : Zt → Option Zv → Prop} (K : Int → Zl → List Zv → Zt → Prop) : sx_ K P [.goto 200] 159 = x_goto 200 K := (xe_goto 200)
theorem bk_X11_readStatement_e_116 : ck_ fX11 none cX11_readStatement 116 [.goto 200] 119 = true := qck_r (nn_ _) (by decide +kernel)
theorem bs_X11_readStatement_e_116 {P : Zt → Option Zv → Prop} (K : Int → Zl → List Zv → Zt → Prop) : sx_ K P [.goto 200] 119 = x_goto 200 K := (xe_goto 200)
theorem bk_X11_readStatement_e_107 : ck_ fX11 none cX11_readStatement 107 [.return_] 108 = true := qck_r (nn_ _) (by decide +kernel)
theorem bs_X11_readStatement_e_107 {P : Zt → Option Zv → Prop} (K : Int → Zl → List Zv → Zt → Prop) : sx_ K P [.return_] 108 = x_return_ P := (xe_return_)
theorem bk_X11_readStatement_e_35 : ck_ fX11 none cX11_readStatement 35 [.iconst (-1), .istore 1, .aload 0, .tableswitch 0 11 62 #[], .ifCond .ne 58, .iload 1, .iconst (-1), .if_icmp .ne 58, .aload 0, .iconst 3, .aload 0, .tableswitch 0 11 59 #[]] 55 = true := qck_r (nn_ _) (by decide +kernel)
theorem bs_X11_readStatement_e_35 {P : Zt → Option Zv → Prop} (K : Int → Zl → List Zv → Zt → Prop) : sx_ K P [.iconst (-1), .istore 1, .aload 0, .tableswitch 0 11 62 #[], .ifCond .ne 58, .iload 1, .iconst (-1), .if_icmp .ne 58, .aload 0, .iconst 3, .aload 0, .tableswitch 0 11 59 #[]] 55 = x_iconst (-1) (x_istore 1 (x_aload 0 (x_g0 111 62 0 5 (x_ifCond .ne 58 K (x_iload 1 (x_iconst (-1) (x_if_icmp .ne 58 K (x_aload 0 (x_iconst 3 (x_aload 0 (x_g0 111 59 0 400 (K 55)))))))))))) := ((xe_iconst (-1)).trans (congrArg (x_iconst (-1)) ((xe_istore 1).trans (congrArg (x_istore 1) ((xe_aload 0).trans (congrArg (x_aload 0) ((xe_g0 (kk := 111) rfl tl_11_62).trans (congrArg (x_g0 111 62 0 5) ((xe_ifCond .ne 58).trans (congrArg (x_ifCond .ne 58 K) ((xe_iload 1).trans (congrArg (x_iload 1) ((xe_iconst (-1)).trans (congrArg (x_iconst (-1)) ((xe_if_icmp .ne 58).trans (congrArg (x_if_icmp .ne 58 K) ((xe_aload 0).trans (congrArg (x_aload 0) ((xe_iconst 3).trans (congrArg (x_iconst 3) ((xe_aload 0).trans (congrArg (x_aload 0) ((xe_g0 (kk := 111) rfl tl_11_59).trans (congrArg (x_g0 111 59 0 400) xe_nil))))))))))))))))))))))))
abbrev po_X11_readStatement_e (T : Zt) (a : Int) (t : Int → Int) (v : Int → Int) : Zt → Option Zv → Prop := fun T' r => r = none ∧ fr_ [(111, [57, 58, 59, 60, 61, 62, 63]), (204, []), (269, []), (270, [])] T T' ∧ ((T' 111 0 62 ≠ 0 ∧ stf9_ (cl9_ (T 111 0 1) (fun j => T 200 0 j)) (T 111 0 1) a t v = Sum.inl (T' 111 0 62, T' 111 0 63)) ∨ (T' 111 0 62 = 0 ∧ MS9_ (stf9_ (cl9_ (T 111 0 1) (fun j => T 200 0 j)) (T 111 0 1) a t v) T' ∧ T' 111 0 63 = T 111 0 63 ∧ T 111 0 60 ≤ T' 111 0 57 ∧ T' 111 0 57 ≤ T 111 0 1))
set_option maxHeartbeats 4000000 in
theorem ct_X11_readStatement_e {T : Zt} {a : Int} {t : Int → Int} {v : Int → Int} (h0 : 0 ≤ a) (hk : TK9_ (fun j => T 200 0 j) (T 111 0 1) a (T 111 0 59) (T 111 0 60) (T 111 0 58)) (h57 : T 111 0 57 = T 111 0 60) (h62 : T 111 0 62 = 0) (hC : CW_ T) (ht : TA9_ T t) (hv : VR9_ T v) : Ct_ yX11_readStatement zX11_readStatement T [vR 111 0] (po_X11_readStatement_e T a t v) := by
  refine ct_of pn_11 rfl rfl (Nat.le_of_ble_eq_true rfl) (fun hT hav => ?_)
  have hz : zX11_readStatement.2.2.2.1 = some .boolean → ∀ (T' : Zt) (x : Int), po_X11_readStatement_e T a t v T' (some (vI x)) → 0 ≤ x ∧ x ≤ 1 := fun h => by cases h
  have hb_1 : 0 ≤ T 111 0 1 ∧ T 111 0 1 ≤ 400 := bd_f hT 111 1 tl_11_1 0
  have hb_57 : 0 ≤ T 111 0 57 ∧ T 111 0 57 ≤ 400 := bd_f hT 111 57 tl_11_57 0
  have hb_58 : 0 ≤ T 111 0 58 ∧ T 111 0 58 ≤ 4 := bd_f hT 111 58 tl_11_58 0
  have tr := tk9_r hk
  show J_ zX11_readStatement T (po_X11_readStatement_e T a t v) 0 0 0 [some (vR 111 0), none] [] T
  refine j_blx (F := fX11) tb_X11 (nn_ _) bk_X11_readStatement_e_0 bs_X11_readStatement_e_0 hz (fun K hK => ?_)
  intro b1 b1b
  refine And.intro (fun c2 => ?_) (fun c2 => ?_)
  · refine hK 17 _ [] T ?_
    refine j_blx (F := fX11) tb_X11 (nn_ _) bk_X11_readStatement_e_17 bs_X11_readStatement_e_17 hz (fun K hK => ?_)
    intro b3 b3b
    refine And.intro (fun c4 => ?_) (fun c4 => ?_)
    · exfalso; omega
    · refine hK 29 _ [vR 264 0, vR 111 0] T ?_
      refine j_callV (y := yX11_whichOf) (Yc := zX11_whichOf) (rest := []) [vR 264 0] (ct_X11_whichOf_e0 (T := T) (by omega) (by exact hC)) cl_X11_294 (qd_c (by decide +kernel)) (nn_ _) rfl (rf_of rfl) (Nat.le_of_ble_eq_true rfl) (Nat.le_of_ble_eq_true rfl) (Nat.le_of_ble_eq_true rfl) rfl ?_
      rintro _ _ ⟨rfl, x5, rfl, hx5, wx5⟩
      show J_ zX11_readStatement T (po_X11_readStatement_e T a t v) 0 0 32 _ [vI x5] T
      refine j_blx (F := fX11) tb_X11 (nn_ _) bk_X11_readStatement_e_32 bs_X11_readStatement_e_32 hz (fun K hK => ?_)
      refine hK 36 _ [vI x5] T ?_
      refine j_blx (F := fX11) tb_X11 (nn_ _) bk_X11_readStatement_e_36 bs_X11_readStatement_e_36 hz (fun K hK => ?_)
      intro b6 b6b
      refine And.intro (fun c7 => ?_) (fun c7 => ?_)
      · exfalso; omega
      · refine And.intro (fun c8 => ?_) (fun c8 => ?_)
        · have hwi := wof9_0 ds9_0 hk h0 (by omega) wx5 (by omega)
          have htx := ht x5 (by omega) (by omega)
          refine hK 58 [some (vR 111 0), some (vI x5)] [] T ?_
          refine j_blx (F := fX11) tb_X11 (nn_ _) bk_X11_readStatement_e_58 bs_X11_readStatement_e_58 hz (fun K hK => ?_)
          intro b9 b9b
          refine And.intro (fun c10 => ?_) (fun c10 => ?_)
          · exfalso; omega
          · refine ix_i (by omega) ?_
            intro b11 b11b
            refine And.intro (fun c12 => ?_) (fun c12 => ?_)
            · have hx0 : t x5 = 0 := by omega
              refine hK 83 _ [] T ?_
              refine j_blx (F := fX11) tb_X11 (nn_ _) bk_X11_readStatement_e_83 bs_X11_readStatement_e_83 hz (fun K hK => ?_)
              intro b13 b13b
              refine And.intro (fun c14 => ?_) (fun c14 => ?_)
              · refine hK 91 _ [] T ?_
                refine j_blx (F := fX11) tb_X11 (nn_ _) bk_X11_readStatement_e_91 bs_X11_readStatement_e_91 hz (fun K hK => ?_)
                refine iy_i (by omega) (by omega) ?_
                refine x_nm (fun U15 hU15 => ?_)
                have e16 := up_f hU15
                have ta : TA9_ U15 (u9_ t x5 1) := ta9_s (T := T) (ht) (fun j hj => up_g hU15 (fun z => hj z.2.2)) (up_f hU15)
                have vr0 : VR9_ U15 v := VR9_f hv (show fr_ [(269, [])] T U15 from fr_u (fr_0 _ _) hU15 rfl) (fun _ => rfl)
                have e17 : U15 111 0 57 = T 111 0 57 := up_k hU15 (by exact Nat.ne_of_beq_eq_false rfl) 0 57
                have e18 : U15 111 0 62 = T 111 0 62 := up_k hU15 (by exact Nat.ne_of_beq_eq_false rfl) 0 62
                have e19 : U15 111 0 63 = T 111 0 63 := up_k hU15 (by exact Nat.ne_of_beq_eq_false rfl) 0 63
                have e20 : U15 111 0 1 = T 111 0 1 := up_k hU15 (by exact Nat.ne_of_beq_eq_false rfl) 0 1
                refine And.intro (fun c21 => ?_) (fun c21 => ?_)
                · refine hK 108 _ [] U15 ?_
                  refine j_blx (F := fX11) tb_X11 (nn_ _) bk_X11_readStatement_e_108 bs_X11_readStatement_e_108 hz (fun K hK => ?_)
                  refine And.intro (fun c22 => ?_) (fun c22 => ?_)
                  · refine hK 119 _ [] U15 ?_
                    refine j_blx (F := fX11) tb_X11 (nn_ _) bk_X11_readStatement_e_119 bs_X11_readStatement_e_119 hz (fun K hK => ?_)
                    refine And.intro (fun c23 => ?_) (fun c23 => ?_)
                    · refine hK 159 _ [] U15 ?_
                      refine j_blx (F := fX11) tb_X11 (nn_ _) bk_X11_readStatement_e_159 bs_X11_readStatement_e_159 hz (fun K hK => ?_)
                      refine And.intro (fun c24 => ?_) (fun c24 => ?_)
                      · refine hK 174 _ [] U15 ?_
                        refine j_blx (F := fX11) tb_X11 (nn_ _) bk_X11_readStatement_e_174 bs_X11_readStatement_e_174 hz (fun K hK => ?_)
                        refine rg_i (by omega) ?_
                        refine ix_i (by omega) ?_
                        intro b25 b25b
                        have e26 : U15 267 0 (x5 - 4) = T 267 0 (x5 - 4) := up_k hU15 (by exact Nat.ne_of_beq_eq_false rfl) 0 (x5 - 4)
                        rw [e26] at b25 b25b ⊢
                        have hl7 := hC.2.2.2.1 (x5 - 4) (by omega) (by omega)
                        refine rg_i (by omega) ?_
                        refine ix_i (by omega) ?_
                        intro b27 b27b
                        have e28 : U15 268 0 (x5 - 4) = T 268 0 (x5 - 4) := up_k hU15 (by exact Nat.ne_of_beq_eq_false rfl) 0 (x5 - 4)
                        rw [e28] at b27 b27b ⊢
                        have hl8 := hC.2.2.2.2 (x5 - 4) (by omega) (by omega)
                        refine rg_i (by omega) ?_
                        refine rg_i (by omega) ?_
                        refine hK 197 _ [vI ((6 + x5) - 4), vI (T 268 0 (x5 - 4)), vI (T 267 0 (x5 - 4)), vR 111 0] U15 ?_
                        have e29 : U15 111 0 57 = T 111 0 57 := up_k hU15 (by exact Nat.ne_of_beq_eq_false rfl) 0 57
                        have e30 : U15 111 0 1 = T 111 0 1 := up_k hU15 (by exact Nat.ne_of_beq_eq_false rfl) 0 1
                        have e31 : U15 111 0 62 = T 111 0 62 := up_k hU15 (by exact Nat.ne_of_beq_eq_false rfl) 0 62
                        refine j_callV (y := yX11_wantNumber) (Yc := zX11_wantNumber) (rest := []) [vI (T 267 0 (x5 - 4)), vI (T 268 0 (x5 - 4)), vI ((6 + x5) - 4)] (ct_X11_wantNumber_e (T := U15) (by omega) (by omega) (by omega)) cl_X11_304 (qd_c (by decide +kernel)) (nn_ _) rfl (rf_of rfl) (Nat.le_of_ble_eq_true rfl) (Nat.le_of_ble_eq_true rfl) (Nat.le_of_ble_eq_true rfl) rfl ?_
                        rintro U32 _ ⟨rfl, fU32, qU32, oU32⟩
                        show J_ zX11_readStatement T (po_X11_readStatement_e T a t v) 0 0 200 _ [] U32
                        have hq := qU32
                        have fb33 : fr_ [(269, [])] T U15 := fr_u (fr_0 _ _) hU15 rfl
                        rw [show (fun j => U15 200 0 j) = fun j => T 200 0 j from funext fun j => fb33 200 0 j rfl, show U15 111 0 1 = T 111 0 1 from fb33 111 0 1 rfl] at hq
                        have oq := oU32
                        have sb := sb9_q (x := x5) (by omega) (by omega)
                        rw [show U15 111 0 57 = T 111 0 60 by omega, show 6 + x5 - 4 = x5 + 2 by omega, show T 267 0 (x5 - 4) = (sa_ 1).getD (x5 + 2).toNat 0 by omega, show T 268 0 (x5 - 4) = (sa_ 2).getD (x5 + 2).toNat 0 by omega] at hq
                        rw [show 6 + x5 - 4 = x5 + 2 by omega] at oq
                        have hq := hq.resolve_left (fun z => by omega)
                        have hvr : VR9_ U32 (u9_ v (x5 + 2) (U32 204 0 (x5 + 2))) := VR9_u vr0 oq rfl
                        have hbz : U32 111 0 62 ≠ 0 → bdf9_ (cl9_ (T 111 0 1) (fun j => T 200 0 j)) (T 111 0 1) (T 111 0 60) x5 v = Sum.inl (U32 111 0 62, U32 111 0 63) := fun z => (bdf9_4 (by omega)).trans (bn9_l (hq.resolve_right (fun y => by omega)).2.2)
                        have hbo0 : U32 111 0 62 = 0 → bdf9_ (cl9_ (T 111 0 1) (fun j => T 200 0 j)) (T 111 0 1) (T 111 0 60) x5 v = Sum.inr (U32 111 0 57, u9_ v (x5 + 2) (U32 204 0 (x5 + 2))) := fun z => (bdf9_4 (by omega)).trans (bn9_r (hq.resolve_left (fun y => by omega)).2.2.1)
                        have hbb : U32 111 0 62 = 0 → U32 111 0 63 = T 111 0 63 ∧ T 111 0 60 ≤ U32 111 0 57 ∧ U32 111 0 57 ≤ T 111 0 1 := fun z => by have y := (hq.resolve_left (fun y => by omega)).2.2.2; omega
                        have e34 : U32 111 0 1 = T 111 0 1 := (fU32 111 0 1 rfl).trans (up_k hU15 (by exact Nat.ne_of_beq_eq_false rfl) 0 1)
                        refine j_blx (F := fX11) tb_X11 (nn_ _) bk_X11_readStatement_e_200 bs_X11_readStatement_e_200 hz (fun K hK => ?_)
                        intro b35 b35b
                        refine And.intro (fun c36 => ?_) (fun c36 => ?_)
                        · refine hK 235 _ [] U32 ?_
                          refine j_blx (F := fX11) tb_X11 (nn_ _) bk_X11_readStatement_e_235 bs_X11_readStatement_e_235 hz (fun K hK => ?_)
                          refine (show po_X11_readStatement_e T a t v U32 (none) from ?_)
                          exact ⟨rfl, fr_t (fr_u (fr_0 _ _) hU15 rfl) (fr_s fU32 rfl), Or.inl ⟨by omega, (stf9_b hwi hx0 (by omega)).trans (bn9_l (hbz (by omega)))⟩⟩
                        · have hbo := hbo0 (by omega)
                          have hb1 := hbb (by omega)
                          have st := (stf9_b hwi hx0 (by omega)).trans (bn9_r hbo)
                          refine hK 208 _ [vR 111 0] U32 ?_
                          have e37 : U32 111 0 1 = T 111 0 1 := (fU32 111 0 1 rfl).trans (up_k hU15 (by exact Nat.ne_of_beq_eq_false rfl) 0 1)
                          refine j_callV (y := yX11_take) (Yc := zX11_take) (rest := []) [] (ct_X11_take_e (T := U32) (by omega) (by omega)) cl_X11_291 (qd_c (by decide +kernel)) (nn_ _) rfl (rf_of rfl) (Nat.le_of_ble_eq_true rfl) (Nat.le_of_ble_eq_true rfl) (Nat.le_of_ble_eq_true rfl) rfl ?_
                          rintro U38 _ ⟨rfl, fU38, qU38⟩
                          show J_ zX11_readStatement T (po_X11_readStatement_e T a t v) 0 0 211 _ [] U38
                          have qkb := qU38
                          have fb39 : fr_ [(111, [57, 58, 59, 60, 61, 62, 63]), (204, []), (269, [])] T U32 := fr_t (fr_u (fr_0 _ _) hU15 rfl) (fr_s fU32 rfl)
                          rw [show (fun j => U32 200 0 j) = fun j => T 200 0 j from funext fun j => fb39 200 0 j rfl, show U32 111 0 1 = T 111 0 1 from fb39 111 0 1 rfl] at qkb
                          obtain ⟨qab, eb, kb, hkb, hqb⟩ := qkb
                          have trb := tk9_r hkb
                          have tab := TA9_f ta (show fr_ [(111, [57, 58, 59, 60, 61, 62, 63]), (204, [])] U15 U38 from fr_t (fr_t (fr_0 _ _) (fr_s fU32 rfl)) (fr_s fU38 rfl)) (fun _ => rfl)
                          have vrb := VR9_f hvr fU38 (fun _ => rfl)
                          refine j_blx (F := fX11) tb_X11 (nn_ _) bk_X11_readStatement_e_211 bs_X11_readStatement_e_211 hz (fun K hK => ?_)
                          intro b40 b40b
                          refine And.intro (fun c41 => ?_) (fun c41 => ?_)
                          · refine hK 235 _ [] U38 ?_
                            refine j_blx (F := fX11) tb_X11 (nn_ _) bk_X11_readStatement_e_235 bs_X11_readStatement_e_235 hz (fun K hK => ?_)
                            refine (show po_X11_readStatement_e T a t v U38 (none) from ?_)
                            refine ⟨rfl, fr_t (fr_t (fr_u (fr_0 _ _) hU15 rfl) (fr_s fU32 rfl)) (fr_s fU38 rfl), Or.inl ⟨by omega, ?_⟩⟩
                            rw [show U38 111 0 62 = 1 by omega, show U38 111 0 63 = U38 111 0 59 by omega]
                            exact st.trans (bn9_l (smf9_1 hkb (by omega) (by omega)))
                          · intro b42 b42b
                            refine And.intro (fun c43 => ?_) (fun c43 => ?_)
                            · refine hK 235 _ [] U38 ?_
                              refine j_blx (F := fX11) tb_X11 (nn_ _) bk_X11_readStatement_e_235 bs_X11_readStatement_e_235 hz (fun K hK => ?_)
                              refine (show po_X11_readStatement_e T a t v U38 (none) from ?_)
                              refine ⟨rfl, fr_t (fr_t (fr_u (fr_0 _ _) hU15 rfl) (fr_s fU32 rfl)) (fr_s fU38 rfl), Or.inr ⟨by omega, ⟨u9_ t x5 1, u9_ v (x5 + 2) (U32 204 0 (x5 + 2)), ?_, tab, vrb⟩, by omega, by omega, by omega⟩⟩
                              rw [show U38 111 0 57 = eb by omega]
                              exact st.trans (bn9_r (smf9_0 hkb (by omega) (by omega)))
                            · intro b44 b44b
                              refine hK 232 _ [vI (U38 111 0 59), vI 2, vR 111 0] U38 ?_
                              refine j_callV (y := yX11_bad) (Yc := zX11_bad) (rest := []) [vI 2, vI (U38 111 0 59)] (ct_X11_bad_e (T := U38) (by omega) (by omega)) cl_X11_281 (qd_c (by decide +kernel)) (nn_ _) rfl (rf_of rfl) (Nat.le_of_ble_eq_true rfl) (Nat.le_of_ble_eq_true rfl) (Nat.le_of_ble_eq_true rfl) rfl ?_
                              rintro U45 _ ⟨rfl, fU45, qU45⟩
                              show J_ zX11_readStatement T (po_X11_readStatement_e T a t v) 0 0 235 _ [] U45
                              refine j_blx (F := fX11) tb_X11 (nn_ _) bk_X11_readStatement_e_235 bs_X11_readStatement_e_235 hz (fun K hK => ?_)
                              refine (show po_X11_readStatement_e T a t v U45 (none) from ?_)
                              have e46 : U45 111 0 57 = U38 111 0 57 := fU45 111 0 57 rfl
                              refine ⟨rfl, fr_t (fr_t (fr_t (fr_u (fr_0 _ _) hU15 rfl) (fr_s fU32 rfl)) (fr_s fU38 rfl)) (fr_s fU45 rfl), Or.inl ⟨by omega, ?_⟩⟩
                              rw [show U45 111 0 62 = 2 by omega, show U45 111 0 63 = U38 111 0 59 by omega]
                              exact st.trans (bn9_l (smf9_2 hkb (by omega) (by omega) (by omega)))
                      · refine iy_i (by omega) (by omega) ?_
                        refine x_nm (fun U47 hU47 => ?_)
                        have e48 := up_f hU47
                        refine hK 200 _ [] U47 ?_
                        have e49 : U47 111 0 57 = T 111 0 57 := (up_k hU47 (by exact Nat.ne_of_beq_eq_false rfl) 0 57).trans (up_k hU15 (by exact Nat.ne_of_beq_eq_false rfl) 0 57)
                        have e50 : U47 111 0 62 = T 111 0 62 := (up_k hU47 (by exact Nat.ne_of_beq_eq_false rfl) 0 62).trans (up_k hU15 (by exact Nat.ne_of_beq_eq_false rfl) 0 62)
                        have e51 : U47 111 0 63 = T 111 0 63 := (up_k hU47 (by exact Nat.ne_of_beq_eq_false rfl) 0 63).trans (up_k hU15 (by exact Nat.ne_of_beq_eq_false rfl) 0 63)
                        have e52 : U47 111 0 1 = T 111 0 1 := (up_k hU47 (by exact Nat.ne_of_beq_eq_false rfl) 0 1).trans (up_k hU15 (by exact Nat.ne_of_beq_eq_false rfl) 0 1)
                        have hbo : bdf9_ (cl9_ (T 111 0 1) (fun j => T 200 0 j)) (T 111 0 1) (T 111 0 60) x5 v = Sum.inr (U47 111 0 57, u9_ v 5 1) := by
                          rw [show U47 111 0 57 = T 111 0 60 by omega]
                          exact bdf9_3 (by omega)
                        have hvr : VR9_ U47 (u9_ v 5 1) := VR9_u vr0 (fun j hj => up_g hU47 (fun z => hj z.2.2)) (up_f hU47)
                        refine j_blx (F := fX11) tb_X11 (nn_ _) bk_X11_readStatement_e_200 bs_X11_readStatement_e_200 hz (fun K hK => ?_)
                        intro b53 b53b
                        have e54 : U47 111 0 62 = T 111 0 62 := (up_k hU47 (by exact Nat.ne_of_beq_eq_false rfl) 0 62).trans (up_k hU15 (by exact Nat.ne_of_beq_eq_false rfl) 0 62)
                        rw [e54] at b53 b53b ⊢
                        refine And.intro (fun c55 => ?_) (fun c55 => ?_)
                        · exfalso; omega
                        · have st := (stf9_b hwi hx0 (by omega)).trans (bn9_r hbo)
                          refine hK 208 _ [vR 111 0] U47 ?_
                          have e56 : U47 111 0 57 = T 111 0 57 := (up_k hU47 (by exact Nat.ne_of_beq_eq_false rfl) 0 57).trans (up_k hU15 (by exact Nat.ne_of_beq_eq_false rfl) 0 57)
                          have e57 : U47 111 0 1 = T 111 0 1 := (up_k hU47 (by exact Nat.ne_of_beq_eq_false rfl) 0 1).trans (up_k hU15 (by exact Nat.ne_of_beq_eq_false rfl) 0 1)
                          have e58 : U47 111 0 62 = T 111 0 62 := (up_k hU47 (by exact Nat.ne_of_beq_eq_false rfl) 0 62).trans (up_k hU15 (by exact Nat.ne_of_beq_eq_false rfl) 0 62)
                          refine j_callV (y := yX11_take) (Yc := zX11_take) (rest := []) [] (ct_X11_take_e (T := U47) (by omega) (by omega)) cl_X11_291 (qd_c (by decide +kernel)) (nn_ _) rfl (rf_of rfl) (Nat.le_of_ble_eq_true rfl) (Nat.le_of_ble_eq_true rfl) (Nat.le_of_ble_eq_true rfl) rfl ?_
                          rintro U59 _ ⟨rfl, fU59, qU59⟩
                          show J_ zX11_readStatement T (po_X11_readStatement_e T a t v) 0 0 211 _ [] U59
                          have qkb := qU59
                          have fb60 : fr_ [(204, []), (269, [])] T U47 := fr_u (fr_u (fr_0 _ _) hU15 rfl) hU47 rfl
                          rw [show (fun j => U47 200 0 j) = fun j => T 200 0 j from funext fun j => fb60 200 0 j rfl, show U47 111 0 1 = T 111 0 1 from fb60 111 0 1 rfl] at qkb
                          obtain ⟨qab, eb, kb, hkb, hqb⟩ := qkb
                          have trb := tk9_r hkb
                          have tab := TA9_f ta (show fr_ [(111, [57, 58, 59, 60, 61, 62, 63]), (204, [])] U15 U59 from fr_t (fr_u (fr_0 _ _) hU47 rfl) (fr_s fU59 rfl)) (fun _ => rfl)
                          have vrb := VR9_f hvr fU59 (fun _ => rfl)
                          refine j_blx (F := fX11) tb_X11 (nn_ _) bk_X11_readStatement_e_211 bs_X11_readStatement_e_211 hz (fun K hK => ?_)
                          intro b61 b61b
                          refine And.intro (fun c62 => ?_) (fun c62 => ?_)
                          · refine hK 235 _ [] U59 ?_
                            refine j_blx (F := fX11) tb_X11 (nn_ _) bk_X11_readStatement_e_235 bs_X11_readStatement_e_235 hz (fun K hK => ?_)
                            refine (show po_X11_readStatement_e T a t v U59 (none) from ?_)
                            refine ⟨rfl, fr_t (fr_u (fr_u (fr_0 _ _) hU15 rfl) hU47 rfl) (fr_s fU59 rfl), Or.inl ⟨by omega, ?_⟩⟩
                            rw [show U59 111 0 62 = 1 by omega, show U59 111 0 63 = U59 111 0 59 by omega]
                            exact st.trans (bn9_l (smf9_1 hkb (by omega) (by omega)))
                          · intro b63 b63b
                            refine And.intro (fun c64 => ?_) (fun c64 => ?_)
                            · refine hK 235 _ [] U59 ?_
                              refine j_blx (F := fX11) tb_X11 (nn_ _) bk_X11_readStatement_e_235 bs_X11_readStatement_e_235 hz (fun K hK => ?_)
                              refine (show po_X11_readStatement_e T a t v U59 (none) from ?_)
                              refine ⟨rfl, fr_t (fr_u (fr_u (fr_0 _ _) hU15 rfl) hU47 rfl) (fr_s fU59 rfl), Or.inr ⟨by omega, ⟨u9_ t x5 1, u9_ v 5 1, ?_, tab, vrb⟩, by omega, by omega, by omega⟩⟩
                              rw [show U59 111 0 57 = eb by omega]
                              exact st.trans (bn9_r (smf9_0 hkb (by omega) (by omega)))
                            · intro b65 b65b
                              refine hK 232 _ [vI (U59 111 0 59), vI 2, vR 111 0] U59 ?_
                              refine j_callV (y := yX11_bad) (Yc := zX11_bad) (rest := []) [vI 2, vI (U59 111 0 59)] (ct_X11_bad_e (T := U59) (by omega) (by omega)) cl_X11_281 (qd_c (by decide +kernel)) (nn_ _) rfl (rf_of rfl) (Nat.le_of_ble_eq_true rfl) (Nat.le_of_ble_eq_true rfl) (Nat.le_of_ble_eq_true rfl) rfl ?_
                              rintro U66 _ ⟨rfl, fU66, qU66⟩
                              show J_ zX11_readStatement T (po_X11_readStatement_e T a t v) 0 0 235 _ [] U66
                              refine j_blx (F := fX11) tb_X11 (nn_ _) bk_X11_readStatement_e_235 bs_X11_readStatement_e_235 hz (fun K hK => ?_)
                              refine (show po_X11_readStatement_e T a t v U66 (none) from ?_)
                              have e67 : U66 111 0 57 = U59 111 0 57 := fU66 111 0 57 rfl
                              refine ⟨rfl, fr_t (fr_t (fr_u (fr_u (fr_0 _ _) hU15 rfl) hU47 rfl) (fr_s fU59 rfl)) (fr_s fU66 rfl), Or.inl ⟨by omega, ?_⟩⟩
                              rw [show U66 111 0 62 = 2 by omega, show U66 111 0 63 = U59 111 0 59 by omega]
                              exact st.trans (bn9_l (smf9_2 hkb (by omega) (by omega) (by omega)))
                    · refine hK 129 _ [vI 1, vI 9, vI 0, vR 111 0] U15 ?_
                      have e68 : U15 111 0 57 = T 111 0 57 := up_k hU15 (by exact Nat.ne_of_beq_eq_false rfl) 0 57
                      have e69 : U15 111 0 1 = T 111 0 1 := up_k hU15 (by exact Nat.ne_of_beq_eq_false rfl) 0 1
                      have e70 : U15 111 0 62 = T 111 0 62 := up_k hU15 (by exact Nat.ne_of_beq_eq_false rfl) 0 62
                      refine j_callV (y := yX11_wantNumber) (Yc := zX11_wantNumber) (rest := []) [vI 0, vI 9, vI 1] (ct_X11_wantNumber_e (T := U15) (by omega) (by omega) (by omega)) cl_X11_304 (qd_c (by decide +kernel)) (nn_ _) rfl (rf_of rfl) (Nat.le_of_ble_eq_true rfl) (Nat.le_of_ble_eq_true rfl) (Nat.le_of_ble_eq_true rfl) rfl ?_
                      rintro U71 _ ⟨rfl, fU71, qU71, oU71⟩
                      show J_ zX11_readStatement T (po_X11_readStatement_e T a t v) 0 0 132 _ [] U71
                      refine j_blx (F := fX11) tb_X11 (nn_ _) bk_X11_readStatement_e_132 bs_X11_readStatement_e_132 hz (fun K hK => ?_)
                      refine ix_i (by omega) ?_
                      intro b72 b72b
                      refine hK 141 _ [vI 2, vI (U71 204 0 1), vI 0, vR 111 0] U71 ?_
                      have e73 : U71 111 0 1 = T 111 0 1 := (fU71 111 0 1 rfl).trans (up_k hU15 (by exact Nat.ne_of_beq_eq_false rfl) 0 1)
                      refine j_callV (y := yX11_wantNumber) (Yc := zX11_wantNumber) (rest := []) [vI 0, vI (U71 204 0 1), vI 2] (ct_X11_wantNumber_e (T := U71) (by omega) (by omega) (by omega)) cl_X11_304 (qd_c (by decide +kernel)) (nn_ _) rfl (rf_of rfl) (Nat.le_of_ble_eq_true rfl) (Nat.le_of_ble_eq_true rfl) (Nat.le_of_ble_eq_true rfl) rfl ?_
                      rintro U74 _ ⟨rfl, fU74, qU74, oU74⟩
                      show J_ zX11_readStatement T (po_X11_readStatement_e T a t v) 0 0 144 _ [] U74
                      refine j_blx (F := fX11) tb_X11 (nn_ _) bk_X11_readStatement_e_144 bs_X11_readStatement_e_144 hz (fun K hK => ?_)
                      refine ix_i (by omega) ?_
                      intro b75 b75b
                      refine hK 153 _ [vI 3, vI (U74 204 0 2), vI 0, vR 111 0] U74 ?_
                      have e76 : U74 111 0 1 = T 111 0 1 := (fU74 111 0 1 rfl).trans ((fU71 111 0 1 rfl).trans (up_k hU15 (by exact Nat.ne_of_beq_eq_false rfl) 0 1))
                      refine j_callV (y := yX11_wantNumber) (Yc := zX11_wantNumber) (rest := []) [vI 0, vI (U74 204 0 2), vI 3] (ct_X11_wantNumber_e (T := U74) (by omega) (by omega) (by omega)) cl_X11_304 (qd_c (by decide +kernel)) (nn_ _) rfl (rf_of rfl) (Nat.le_of_ble_eq_true rfl) (Nat.le_of_ble_eq_true rfl) (Nat.le_of_ble_eq_true rfl) rfl ?_
                      rintro U77 _ ⟨rfl, fU77, qU77, oU77⟩
                      show J_ zX11_readStatement T (po_X11_readStatement_e T a t v) 0 0 156 _ [] U77
                      refine j_blx (F := fX11) tb_X11 (nn_ _) bk_X11_readStatement_e_156 bs_X11_readStatement_e_156 hz (fun K hK => ?_)
                      refine hK 200 _ [] U77 ?_
                      have q1 := qU71
                      have fb78 : fr_ [(269, [])] T U15 := fr_u (fr_0 _ _) hU15 rfl
                      rw [show (fun j => U15 200 0 j) = fun j => T 200 0 j from funext fun j => fb78 200 0 j rfl, show U15 111 0 1 = T 111 0 1 from fb78 111 0 1 rfl] at q1
                      rw [show U15 111 0 57 = T 111 0 60 by omega] at q1
                      have q2 := qU74
                      have fb79 : fr_ [(111, [57, 58, 59, 60, 61, 62, 63]), (204, []), (269, [])] T U71 := fr_t (fr_u (fr_0 _ _) hU15 rfl) (fr_s fU71 rfl)
                      rw [show (fun j => U71 200 0 j) = fun j => T 200 0 j from funext fun j => fb79 200 0 j rfl, show U71 111 0 1 = T 111 0 1 from fb79 111 0 1 rfl] at q2
                      have q3 := qU77
                      have fb80 : fr_ [(111, [57, 58, 59, 60, 61, 62, 63]), (204, []), (269, [])] T U74 := fr_t (fr_t (fr_u (fr_0 _ _) hU15 rfl) (fr_s fU71 rfl)) (fr_s fU74 rfl)
                      rw [show (fun j => U74 200 0 j) = fun j => T 200 0 j from funext fun j => fb80 200 0 j rfl, show U74 111 0 1 = T 111 0 1 from fb80 111 0 1 rfl] at q3
                      have hq := pnf9_h (show U15 111 0 62 = 0 by omega) q1 q2 q3
                      have hvr : VR9_ U77 (u9_ (u9_ (u9_ v 1 (U71 204 0 1)) 2 (U74 204 0 2)) 3 (U77 204 0 3)) := VR9_u (VR9_u (VR9_u vr0 oU71 rfl) oU74 rfl) oU77 rfl
                      have hbz : U77 111 0 62 ≠ 0 → bdf9_ (cl9_ (T 111 0 1) (fun j => T 200 0 j)) (T 111 0 1) (T 111 0 60) x5 v = Sum.inl (U77 111 0 62, U77 111 0 63) := fun z => (bdf9_1 (by omega)).trans (bn9_l (hq.resolve_right (fun y => by omega)).2)
                      have hbo0 : U77 111 0 62 = 0 → bdf9_ (cl9_ (T 111 0 1) (fun j => T 200 0 j)) (T 111 0 1) (T 111 0 60) x5 v = Sum.inr (U77 111 0 57, u9_ (u9_ (u9_ v 1 (U71 204 0 1)) 2 (U74 204 0 2)) 3 (U77 204 0 3)) := fun z => (bdf9_1 (by omega)).trans (bn9_r (hq.resolve_left (fun y => by omega)).2.1)
                      have hbb : U77 111 0 62 = 0 → U77 111 0 63 = T 111 0 63 ∧ T 111 0 60 ≤ U77 111 0 57 ∧ U77 111 0 57 ≤ T 111 0 1 := fun z => by have y := (hq.resolve_left (fun y => by omega)).2.2; omega
                      have e81 : U77 111 0 1 = T 111 0 1 := (fU77 111 0 1 rfl).trans ((fU74 111 0 1 rfl).trans ((fU71 111 0 1 rfl).trans (up_k hU15 (by exact Nat.ne_of_beq_eq_false rfl) 0 1)))
                      refine j_blx (F := fX11) tb_X11 (nn_ _) bk_X11_readStatement_e_200 bs_X11_readStatement_e_200 hz (fun K hK => ?_)
                      intro b82 b82b
                      refine And.intro (fun c83 => ?_) (fun c83 => ?_)
                      · refine hK 235 _ [] U77 ?_
                        refine j_blx (F := fX11) tb_X11 (nn_ _) bk_X11_readStatement_e_235 bs_X11_readStatement_e_235 hz (fun K hK => ?_)
                        refine (show po_X11_readStatement_e T a t v U77 (none) from ?_)
                        exact ⟨rfl, fr_t (fr_t (fr_t (fr_u (fr_0 _ _) hU15 rfl) (fr_s fU71 rfl)) (fr_s fU74 rfl)) (fr_s fU77 rfl), Or.inl ⟨by omega, (stf9_b hwi hx0 (by omega)).trans (bn9_l (hbz (by omega)))⟩⟩
                      · have hbo := hbo0 (by omega)
                        have hb1 := hbb (by omega)
                        have st := (stf9_b hwi hx0 (by omega)).trans (bn9_r hbo)
                        refine hK 208 _ [vR 111 0] U77 ?_
                        have e84 : U77 111 0 1 = T 111 0 1 := (fU77 111 0 1 rfl).trans ((fU74 111 0 1 rfl).trans ((fU71 111 0 1 rfl).trans (up_k hU15 (by exact Nat.ne_of_beq_eq_false rfl) 0 1)))
                        refine j_callV (y := yX11_take) (Yc := zX11_take) (rest := []) [] (ct_X11_take_e (T := U77) (by omega) (by omega)) cl_X11_291 (qd_c (by decide +kernel)) (nn_ _) rfl (rf_of rfl) (Nat.le_of_ble_eq_true rfl) (Nat.le_of_ble_eq_true rfl) (Nat.le_of_ble_eq_true rfl) rfl ?_
                        rintro U85 _ ⟨rfl, fU85, qU85⟩
                        show J_ zX11_readStatement T (po_X11_readStatement_e T a t v) 0 0 211 _ [] U85
                        have qkb := qU85
                        have fb86 : fr_ [(111, [57, 58, 59, 60, 61, 62, 63]), (204, []), (269, [])] T U77 := fr_t (fr_t (fr_t (fr_u (fr_0 _ _) hU15 rfl) (fr_s fU71 rfl)) (fr_s fU74 rfl)) (fr_s fU77 rfl)
                        rw [show (fun j => U77 200 0 j) = fun j => T 200 0 j from funext fun j => fb86 200 0 j rfl, show U77 111 0 1 = T 111 0 1 from fb86 111 0 1 rfl] at qkb
                        obtain ⟨qab, eb, kb, hkb, hqb⟩ := qkb
                        have trb := tk9_r hkb
                        have tab := TA9_f ta (show fr_ [(111, [57, 58, 59, 60, 61, 62, 63]), (204, [])] U15 U85 from fr_t (fr_t (fr_t (fr_t (fr_0 _ _) (fr_s fU71 rfl)) (fr_s fU74 rfl)) (fr_s fU77 rfl)) (fr_s fU85 rfl)) (fun _ => rfl)
                        have vrb := VR9_f hvr fU85 (fun _ => rfl)
                        refine j_blx (F := fX11) tb_X11 (nn_ _) bk_X11_readStatement_e_211 bs_X11_readStatement_e_211 hz (fun K hK => ?_)
                        intro b87 b87b
                        refine And.intro (fun c88 => ?_) (fun c88 => ?_)
                        · refine hK 235 _ [] U85 ?_
                          refine j_blx (F := fX11) tb_X11 (nn_ _) bk_X11_readStatement_e_235 bs_X11_readStatement_e_235 hz (fun K hK => ?_)
                          refine (show po_X11_readStatement_e T a t v U85 (none) from ?_)
                          refine ⟨rfl, fr_t (fr_t (fr_t (fr_t (fr_u (fr_0 _ _) hU15 rfl) (fr_s fU71 rfl)) (fr_s fU74 rfl)) (fr_s fU77 rfl)) (fr_s fU85 rfl), Or.inl ⟨by omega, ?_⟩⟩
                          rw [show U85 111 0 62 = 1 by omega, show U85 111 0 63 = U85 111 0 59 by omega]
                          exact st.trans (bn9_l (smf9_1 hkb (by omega) (by omega)))
                        · intro b89 b89b
                          refine And.intro (fun c90 => ?_) (fun c90 => ?_)
                          · refine hK 235 _ [] U85 ?_
                            refine j_blx (F := fX11) tb_X11 (nn_ _) bk_X11_readStatement_e_235 bs_X11_readStatement_e_235 hz (fun K hK => ?_)
                            refine (show po_X11_readStatement_e T a t v U85 (none) from ?_)
                            refine ⟨rfl, fr_t (fr_t (fr_t (fr_t (fr_u (fr_0 _ _) hU15 rfl) (fr_s fU71 rfl)) (fr_s fU74 rfl)) (fr_s fU77 rfl)) (fr_s fU85 rfl), Or.inr ⟨by omega, ⟨u9_ t x5 1, u9_ (u9_ (u9_ v 1 (U71 204 0 1)) 2 (U74 204 0 2)) 3 (U77 204 0 3), ?_, tab, vrb⟩, by omega, by omega, by omega⟩⟩
                            rw [show U85 111 0 57 = eb by omega]
                            exact st.trans (bn9_r (smf9_0 hkb (by omega) (by omega)))
                          · intro b91 b91b
                            refine hK 232 _ [vI (U85 111 0 59), vI 2, vR 111 0] U85 ?_
                            refine j_callV (y := yX11_bad) (Yc := zX11_bad) (rest := []) [vI 2, vI (U85 111 0 59)] (ct_X11_bad_e (T := U85) (by omega) (by omega)) cl_X11_281 (qd_c (by decide +kernel)) (nn_ _) rfl (rf_of rfl) (Nat.le_of_ble_eq_true rfl) (Nat.le_of_ble_eq_true rfl) (Nat.le_of_ble_eq_true rfl) rfl ?_
                            rintro U92 _ ⟨rfl, fU92, qU92⟩
                            show J_ zX11_readStatement T (po_X11_readStatement_e T a t v) 0 0 235 _ [] U92
                            refine j_blx (F := fX11) tb_X11 (nn_ _) bk_X11_readStatement_e_235 bs_X11_readStatement_e_235 hz (fun K hK => ?_)
                            refine (show po_X11_readStatement_e T a t v U92 (none) from ?_)
                            have e93 : U92 111 0 57 = U85 111 0 57 := fU92 111 0 57 rfl
                            refine ⟨rfl, fr_t (fr_t (fr_t (fr_t (fr_t (fr_u (fr_0 _ _) hU15 rfl) (fr_s fU71 rfl)) (fr_s fU74 rfl)) (fr_s fU77 rfl)) (fr_s fU85 rfl)) (fr_s fU92 rfl), Or.inl ⟨by omega, ?_⟩⟩
                            rw [show U92 111 0 62 = 2 by omega, show U92 111 0 63 = U85 111 0 59 by omega]
                            exact st.trans (bn9_l (smf9_2 hkb (by omega) (by omega) (by omega)))
                  · refine hK 113 _ [vR 111 0] U15 ?_
                    have e94 : U15 111 0 57 = T 111 0 57 := up_k hU15 (by exact Nat.ne_of_beq_eq_false rfl) 0 57
                    have e95 : U15 111 0 1 = T 111 0 1 := up_k hU15 (by exact Nat.ne_of_beq_eq_false rfl) 0 1
                    have e96 : U15 111 0 62 = T 111 0 62 := up_k hU15 (by exact Nat.ne_of_beq_eq_false rfl) 0 62
                    refine j_callV (y := yX11_readSport) (Yc := zX11_readSport) (rest := []) [] (ct_X11_readSport_e (T := U15) (by omega) (by omega) (by exact CX_f (ws := [(269, [])]) hC (fr_u (fr_0 _ _) hU15 rfl) ⟨fun _ => rfl, fun _ => rfl, fun _ => rfl, fun _ => rfl, fun _ => rfl, trivial⟩)) cl_X11_301 (qd_c (by decide +kernel)) (nn_ _) rfl (rf_of rfl) (Nat.le_of_ble_eq_true rfl) (Nat.le_of_ble_eq_true rfl) (Nat.le_of_ble_eq_true rfl) rfl ?_
                    rintro U97 _ ⟨rfl, fU97, qU97, oU97⟩
                    show J_ zX11_readStatement T (po_X11_readStatement_e T a t v) 0 0 116 _ [] U97
                    refine j_blx (F := fX11) tb_X11 (nn_ _) bk_X11_readStatement_e_116 bs_X11_readStatement_e_116 hz (fun K hK => ?_)
                    refine hK 200 _ [] U97 ?_
                    have hq := qU97
                    have fb98 : fr_ [(269, [])] T U15 := fr_u (fr_0 _ _) hU15 rfl
                    rw [show (fun j => U15 200 0 j) = fun j => T 200 0 j from funext fun j => fb98 200 0 j rfl, show U15 111 0 1 = T 111 0 1 from fb98 111 0 1 rfl] at hq
                    rw [show U15 111 0 57 = T 111 0 60 by omega] at hq
                    have hvr : VR9_ U97 (u9_ v 0 (U97 204 0 0)) := VR9_u vr0 oU97 rfl
                    have hbz : U97 111 0 62 ≠ 0 → bdf9_ (cl9_ (T 111 0 1) (fun j => T 200 0 j)) (T 111 0 1) (T 111 0 60) x5 v = Sum.inl (U97 111 0 62, U97 111 0 63) := fun z => (bdf9_0 (by omega)).trans (bn9_l (hq.resolve_right (fun y => by omega)).2)
                    have hbo0 : U97 111 0 62 = 0 → bdf9_ (cl9_ (T 111 0 1) (fun j => T 200 0 j)) (T 111 0 1) (T 111 0 60) x5 v = Sum.inr (U97 111 0 57, u9_ v 0 (U97 204 0 0)) := fun z => (bdf9_0 (by omega)).trans (bn9_r (hq.resolve_left (fun y => by omega)).2.1)
                    have hbb : U97 111 0 62 = 0 → U97 111 0 63 = T 111 0 63 ∧ T 111 0 60 ≤ U97 111 0 57 ∧ U97 111 0 57 ≤ T 111 0 1 := fun z => by have y := (hq.resolve_left (fun y => by omega)).2.2; omega
                    have e99 : U97 111 0 1 = T 111 0 1 := (fU97 111 0 1 rfl).trans (up_k hU15 (by exact Nat.ne_of_beq_eq_false rfl) 0 1)
                    refine j_blx (F := fX11) tb_X11 (nn_ _) bk_X11_readStatement_e_200 bs_X11_readStatement_e_200 hz (fun K hK => ?_)
                    intro b100 b100b
                    refine And.intro (fun c101 => ?_) (fun c101 => ?_)
                    · refine hK 235 _ [] U97 ?_
                      refine j_blx (F := fX11) tb_X11 (nn_ _) bk_X11_readStatement_e_235 bs_X11_readStatement_e_235 hz (fun K hK => ?_)
                      refine (show po_X11_readStatement_e T a t v U97 (none) from ?_)
                      exact ⟨rfl, fr_t (fr_u (fr_0 _ _) hU15 rfl) (fr_s fU97 rfl), Or.inl ⟨by omega, (stf9_b hwi hx0 (by omega)).trans (bn9_l (hbz (by omega)))⟩⟩
                    · have hbo := hbo0 (by omega)
                      have hb1 := hbb (by omega)
                      have st := (stf9_b hwi hx0 (by omega)).trans (bn9_r hbo)
                      refine hK 208 _ [vR 111 0] U97 ?_
                      have e102 : U97 111 0 1 = T 111 0 1 := (fU97 111 0 1 rfl).trans (up_k hU15 (by exact Nat.ne_of_beq_eq_false rfl) 0 1)
                      refine j_callV (y := yX11_take) (Yc := zX11_take) (rest := []) [] (ct_X11_take_e (T := U97) (by omega) (by omega)) cl_X11_291 (qd_c (by decide +kernel)) (nn_ _) rfl (rf_of rfl) (Nat.le_of_ble_eq_true rfl) (Nat.le_of_ble_eq_true rfl) (Nat.le_of_ble_eq_true rfl) rfl ?_
                      rintro U103 _ ⟨rfl, fU103, qU103⟩
                      show J_ zX11_readStatement T (po_X11_readStatement_e T a t v) 0 0 211 _ [] U103
                      have qkb := qU103
                      have fb104 : fr_ [(111, [57, 58, 59, 60, 61, 62, 63]), (204, []), (269, [])] T U97 := fr_t (fr_u (fr_0 _ _) hU15 rfl) (fr_s fU97 rfl)
                      rw [show (fun j => U97 200 0 j) = fun j => T 200 0 j from funext fun j => fb104 200 0 j rfl, show U97 111 0 1 = T 111 0 1 from fb104 111 0 1 rfl] at qkb
                      obtain ⟨qab, eb, kb, hkb, hqb⟩ := qkb
                      have trb := tk9_r hkb
                      have tab := TA9_f ta (show fr_ [(111, [57, 58, 59, 60, 61, 62, 63]), (204, [])] U15 U103 from fr_t (fr_t (fr_0 _ _) (fr_s fU97 rfl)) (fr_s fU103 rfl)) (fun _ => rfl)
                      have vrb := VR9_f hvr fU103 (fun _ => rfl)
                      refine j_blx (F := fX11) tb_X11 (nn_ _) bk_X11_readStatement_e_211 bs_X11_readStatement_e_211 hz (fun K hK => ?_)
                      intro b105 b105b
                      refine And.intro (fun c106 => ?_) (fun c106 => ?_)
                      · refine hK 235 _ [] U103 ?_
                        refine j_blx (F := fX11) tb_X11 (nn_ _) bk_X11_readStatement_e_235 bs_X11_readStatement_e_235 hz (fun K hK => ?_)
                        refine (show po_X11_readStatement_e T a t v U103 (none) from ?_)
                        refine ⟨rfl, fr_t (fr_t (fr_u (fr_0 _ _) hU15 rfl) (fr_s fU97 rfl)) (fr_s fU103 rfl), Or.inl ⟨by omega, ?_⟩⟩
                        rw [show U103 111 0 62 = 1 by omega, show U103 111 0 63 = U103 111 0 59 by omega]
                        exact st.trans (bn9_l (smf9_1 hkb (by omega) (by omega)))
                      · intro b107 b107b
                        refine And.intro (fun c108 => ?_) (fun c108 => ?_)
                        · refine hK 235 _ [] U103 ?_
                          refine j_blx (F := fX11) tb_X11 (nn_ _) bk_X11_readStatement_e_235 bs_X11_readStatement_e_235 hz (fun K hK => ?_)
                          refine (show po_X11_readStatement_e T a t v U103 (none) from ?_)
                          refine ⟨rfl, fr_t (fr_t (fr_u (fr_0 _ _) hU15 rfl) (fr_s fU97 rfl)) (fr_s fU103 rfl), Or.inr ⟨by omega, ⟨u9_ t x5 1, u9_ v 0 (U97 204 0 0), ?_, tab, vrb⟩, by omega, by omega, by omega⟩⟩
                          rw [show U103 111 0 57 = eb by omega]
                          exact st.trans (bn9_r (smf9_0 hkb (by omega) (by omega)))
                        · intro b109 b109b
                          refine hK 232 _ [vI (U103 111 0 59), vI 2, vR 111 0] U103 ?_
                          refine j_callV (y := yX11_bad) (Yc := zX11_bad) (rest := []) [vI 2, vI (U103 111 0 59)] (ct_X11_bad_e (T := U103) (by omega) (by omega)) cl_X11_281 (qd_c (by decide +kernel)) (nn_ _) rfl (rf_of rfl) (Nat.le_of_ble_eq_true rfl) (Nat.le_of_ble_eq_true rfl) (Nat.le_of_ble_eq_true rfl) rfl ?_
                          rintro U110 _ ⟨rfl, fU110, qU110⟩
                          show J_ zX11_readStatement T (po_X11_readStatement_e T a t v) 0 0 235 _ [] U110
                          refine j_blx (F := fX11) tb_X11 (nn_ _) bk_X11_readStatement_e_235 bs_X11_readStatement_e_235 hz (fun K hK => ?_)
                          refine (show po_X11_readStatement_e T a t v U110 (none) from ?_)
                          have e111 : U110 111 0 57 = U103 111 0 57 := fU110 111 0 57 rfl
                          refine ⟨rfl, fr_t (fr_t (fr_t (fr_u (fr_0 _ _) hU15 rfl) (fr_s fU97 rfl)) (fr_s fU103 rfl)) (fr_s fU110 rfl), Or.inl ⟨by omega, ?_⟩⟩
                          rw [show U110 111 0 62 = 2 by omega, show U110 111 0 63 = U103 111 0 59 by omega]
                          exact st.trans (bn9_l (smf9_2 hkb (by omega) (by omega) (by omega)))
                · refine hK 104 _ [vR 111 0] U15 ?_
                  have e112 : U15 111 0 57 = T 111 0 57 := up_k hU15 (by exact Nat.ne_of_beq_eq_false rfl) 0 57
                  have e113 : U15 111 0 1 = T 111 0 1 := up_k hU15 (by exact Nat.ne_of_beq_eq_false rfl) 0 1
                  have e114 : U15 111 0 62 = T 111 0 62 := up_k hU15 (by exact Nat.ne_of_beq_eq_false rfl) 0 62
                  refine j_callV (y := yX11_readOrder) (Yc := zX11_readOrder) (rest := []) [] (ct_X11_readOrder_e (T := U15) (v := v) (by omega) (by omega) (by exact CX_f (ws := [(269, [])]) hC (fr_u (fr_0 _ _) hU15 rfl) ⟨fun _ => rfl, fun _ => rfl, fun _ => rfl, fun _ => rfl, fun _ => rfl, trivial⟩) (VR9_f hv (show fr_ [(269, [])] T U15 from fr_u (fr_0 _ _) hU15 rfl) (fun _ => rfl))) cl_X11_298 (qd_c (by decide +kernel)) (nn_ _) rfl (rf_of rfl) (Nat.le_of_ble_eq_true rfl) (Nat.le_of_ble_eq_true rfl) (Nat.le_of_ble_eq_true rfl) rfl ?_
                  rintro U115 _ ⟨rfl, fU115, qU115⟩
                  show J_ zX11_readStatement T (po_X11_readStatement_e T a t v) 0 0 107 _ [] U115
                  refine j_blx (F := fX11) tb_X11 (nn_ _) bk_X11_readStatement_e_107 bs_X11_readStatement_e_107 hz (fun K hK => ?_)
                  refine (show po_X11_readStatement_e T a t v U115 (none) from ?_)
                  have hq := qU115
                  have fb116 : fr_ [(269, [])] T U15 := fr_u (fr_0 _ _) hU15 rfl
                  rw [show (fun j => U15 200 0 j) = fun j => T 200 0 j from funext fun j => fb116 200 0 j rfl, show U15 111 0 1 = T 111 0 1 from fb116 111 0 1 rfl] at hq
                  rw [show U15 111 0 57 = T 111 0 60 by omega] at hq
                  rcases hq with ⟨z1, z2⟩ | ⟨z1, ⟨v9, z2, z3⟩, z4⟩
                  · exact ⟨rfl, fr_t (fr_u (fr_0 _ _) hU15 rfl) (fr_s fU115 rfl), Or.inl ⟨z1, (stf9_o hwi hx0 (by omega)).trans (bn9_l z2)⟩⟩
                  · exact ⟨rfl, fr_t (fr_u (fr_0 _ _) hU15 rfl) (fr_s fU115 rfl), Or.inr ⟨z1, ⟨u9_ t x5 1, v9, (stf9_o hwi hx0 (by omega)).trans (bn9_r z2), TA9_f ta fU115 (fun _ => rfl), z3⟩, by omega, by omega, by omega⟩⟩
              · exfalso; omega
            · have hx1 : t x5 ≠ 0 := by omega
              intro b117 b117b
              refine hK 80 _ [vI (T 111 0 59), vI 5, vR 111 0] T ?_
              refine j_callV (y := yX11_bad) (Yc := zX11_bad) (rest := []) [vI 5, vI (T 111 0 59)] (ct_X11_bad_e (T := T) (by omega) (by omega)) cl_X11_281 (qd_c (by decide +kernel)) (nn_ _) rfl (rf_of rfl) (Nat.le_of_ble_eq_true rfl) (Nat.le_of_ble_eq_true rfl) (Nat.le_of_ble_eq_true rfl) rfl ?_
              rintro U118 _ ⟨rfl, fU118, qU118⟩
              show J_ zX11_readStatement T (po_X11_readStatement_e T a t v) 0 0 83 _ [] U118
              refine j_blx (F := fX11) tb_X11 (nn_ _) bk_X11_readStatement_e_83 bs_X11_readStatement_e_83 hz (fun K hK => ?_)
              intro b119 b119b
              refine And.intro (fun c120 => ?_) (fun c120 => ?_)
              · exfalso; omega
              · refine (show po_X11_readStatement_e T a t v U118 (none) from ?_)
                have e121 : U118 111 0 57 = T 111 0 57 := fU118 111 0 57 rfl
                refine ⟨rfl, fr_t (fr_0 _ _) (fr_s fU118 rfl), Or.inl ⟨by omega, ?_⟩⟩
                rw [show U118 111 0 62 = 5 by omega, show U118 111 0 63 = T 111 0 59 by omega]
                exact stf9_5 hwi hk h0 hx1
        · have hwn := wx5
          have ew : x5 = -1 := by omega
          rw [ew] at hwn
          intro b122 b122b
          refine hK 55 _ [vI (T 111 0 59), vI 3, vR 111 0] T ?_
          refine j_callV (y := yX11_bad) (Yc := zX11_bad) (rest := []) [vI 3, vI (T 111 0 59)] (ct_X11_bad_e (T := T) (by omega) (by omega)) cl_X11_281 (qd_c (by decide +kernel)) (nn_ _) rfl (rf_of rfl) (Nat.le_of_ble_eq_true rfl) (Nat.le_of_ble_eq_true rfl) (Nat.le_of_ble_eq_true rfl) rfl ?_
          rintro U123 _ ⟨rfl, fU123, qU123⟩
          show J_ zX11_readStatement T (po_X11_readStatement_e T a t v) 0 0 58 _ [] U123
          refine j_blx (F := fX11) tb_X11 (nn_ _) bk_X11_readStatement_e_58 bs_X11_readStatement_e_58 hz (fun K hK => ?_)
          intro b124 b124b
          refine And.intro (fun c125 => ?_) (fun c125 => ?_)
          · refine hK 83 _ [] U123 ?_
            refine j_blx (F := fX11) tb_X11 (nn_ _) bk_X11_readStatement_e_83 bs_X11_readStatement_e_83 hz (fun K hK => ?_)
            intro b126 b126b
            refine And.intro (fun c127 => ?_) (fun c127 => ?_)
            · exfalso; omega
            · refine (show po_X11_readStatement_e T a t v U123 (none) from ?_)
              have e128 : U123 111 0 57 = T 111 0 57 := fU123 111 0 57 rfl
              refine ⟨rfl, fr_t (fr_0 _ _) (fr_s fU123 rfl), Or.inl ⟨by omega, ?_⟩⟩
              rw [show U123 111 0 62 = 3 by omega, show U123 111 0 63 = T 111 0 59 by omega]
              exact stf9_w (wof9_3 ds9_0 hk h0 (by omega) hwn)
          · exfalso; omega
  · intro b129 b129b
    refine hK 14 _ [vI (T 111 0 59), vI 2, vR 111 0] T ?_
    refine j_callV (y := yX11_bad) (Yc := zX11_bad) (rest := []) [vI 2, vI (T 111 0 59)] (ct_X11_bad_e (T := T) (by omega) (by omega)) cl_X11_281 (qd_c (by decide +kernel)) (nn_ _) rfl (rf_of rfl) (Nat.le_of_ble_eq_true rfl) (Nat.le_of_ble_eq_true rfl) (Nat.le_of_ble_eq_true rfl) rfl ?_
    rintro U130 _ ⟨rfl, fU130, qU130⟩
    show J_ zX11_readStatement T (po_X11_readStatement_e T a t v) 0 0 17 _ [] U130
    refine j_blx (F := fX11) tb_X11 (nn_ _) bk_X11_readStatement_e_17 bs_X11_readStatement_e_17 hz (fun K hK => ?_)
    intro b131 b131b
    refine And.intro (fun c132 => ?_) (fun c132 => ?_)
    · refine hK 35 _ [] U130 ?_
      refine j_blx (F := fX11) tb_X11 (nn_ _) bk_X11_readStatement_e_35 bs_X11_readStatement_e_35 hz (fun K hK => ?_)
      intro b133 b133b
      refine And.intro (fun c134 => ?_) (fun c134 => ?_)
      · refine hK 58 [some (vR 111 0), some (vI (-1))] [] U130 ?_
        refine j_blx (F := fX11) tb_X11 (nn_ _) bk_X11_readStatement_e_58 bs_X11_readStatement_e_58 hz (fun K hK => ?_)
        intro b135 b135b
        refine And.intro (fun c136 => ?_) (fun c136 => ?_)
        · refine hK 83 _ [] U130 ?_
          refine j_blx (F := fX11) tb_X11 (nn_ _) bk_X11_readStatement_e_83 bs_X11_readStatement_e_83 hz (fun K hK => ?_)
          intro b137 b137b
          refine And.intro (fun c138 => ?_) (fun c138 => ?_)
          · exfalso; omega
          · refine (show po_X11_readStatement_e T a t v U130 (none) from ?_)
            have e139 : U130 111 0 57 = T 111 0 57 := fU130 111 0 57 rfl
            refine ⟨rfl, fr_t (fr_0 _ _) (fr_s fU130 rfl), Or.inl ⟨by omega, ?_⟩⟩
            rw [show U130 111 0 62 = 2 by omega, show U130 111 0 63 = T 111 0 59 by omega]
            exact stf9_w (wof9_2 hk h0 (by omega) (by omega))
        · exfalso; omega
      · exfalso; omega
    · exfalso; omega
-- what is read keeps the bounds of the rules
def GV9_ (v : Int → Int) : Prop := (∀ w : Int, 0 ≤ w → w < 23 → (rb_ w).1 ≤ v w ∧ v w ≤ (rb_ w).2) ∧ v 2 ≤ v 1 ∧ v 3 ≤ v 2
theorem gb9_u {v : Int → Int} {w x : Int} (h : GV9_ v) (hx : (rb_ w).1 ≤ x ∧ x ≤ (rb_ w).2) (h1 : w ≠ 1) (h2 : w ≠ 2) (h3 : w ≠ 3) : GV9_ (u9_ v w x) := by
  refine ⟨fun j a b => ?_, ?_, ?_⟩
  · by_cases z : j = w
    · rw [z, u9_e]
      exact hx
    · rw [u9_n z]
      exact h.1 j a b
  · rw [u9_n (fun z => h2 z.symm), u9_n (fun z => h1 z.symm)]
    exact h.2.1
  · rw [u9_n (fun z => h3 z.symm), u9_n (fun z => h2 z.symm)]
    exact h.2.2
theorem rb9_0 : (rb_ 0) = (0, 3) ∧ (rb_ 1) = (0, 9) ∧ (rb_ 2) = (0, 9) ∧ (rb_ 3) = (0, 9) ∧ (rb_ 4) = (0, 7) ∧ (rb_ 5) = (0, 1) := by decide +kernel
theorem rb9_n : ∀ k : Nat, k < 16 → (rb_ (k : Int)).1 = (sa_ 1).getD k 0 ∧ (rb_ (k : Int)).2 = (sa_ 2).getD k 0 := by decide +kernel
theorem rb9_i {w : Int} (h0 : 0 ≤ w) (h1 : w < 16) : (rb_ w).1 = (sa_ 1).getD w.toNat 0 ∧ (rb_ w).2 = (sa_ 2).getD w.toNat 0 := by
  have h := rb9_n w.toNat (by omega)
  rw [show ((w.toNat : Nat) : Int) = w by omega] at h
  exact h
theorem rb9_m : ∀ k : Nat, k < 7 → rb_ ((16 + k : Nat) : Int) = (-1, 6) := by decide +kernel
theorem rb9_k {w : Int} (h0 : 16 ≤ w) (h1 : w < 23) : rb_ w = (-1, 6) := by
  have h := rb9_m (w - 16).toNat (by omega)
  rw [show ((16 + (w - 16).toNat : Nat) : Int) = w by omega] at h
  exact h
theorem gb9_p {v : Int → Int} {x y z : Int} (h : GV9_ v) (hx : 0 ≤ x ∧ x ≤ 9) (hy : 0 ≤ y ∧ y ≤ x) (hz : 0 ≤ z ∧ z ≤ y) : GV9_ (u9_ (u9_ (u9_ v 1 x) 2 y) 3 z) := by
  refine ⟨fun j a b => ?_, ?_, ?_⟩
  · by_cases z3 : j = 3
    · rw [z3, u9_e, rb9_0.2.2.2.1]
      exact ⟨hz.1, by show z ≤ 9; omega⟩
    · rw [u9_n z3]
      by_cases z2 : j = 2
      · rw [z2, u9_e, rb9_0.2.2.1]
        exact ⟨hy.1, by show y ≤ 9; omega⟩
      · rw [u9_n z2]
        by_cases z1 : j = 1
        · rw [z1, u9_e, rb9_0.2.1]
          exact hx
        · rw [u9_n z1]
          exact h.1 j a b
  · rw [u9_n (by decide), u9_e, u9_n (by decide), u9_n (by decide), u9_e]
    exact hy.2
  · rw [u9_e, u9_n (by decide), u9_e]
    exact hz.2
theorem gb9_o {v : Int → Int} (h : GV9_ v) : GV9_ (ov9_ v) := by
  refine ⟨fun j a b => ?_, ?_, ?_⟩
  · by_cases z : j = 4
    · rw [z, ov9_4, rb9_0.2.2.2.2.1]
      exact ⟨by decide, by decide⟩
    · by_cases y : 16 ≤ j
      · rw [ov9_k y, rb9_k y b]
        exact ⟨by decide, by decide⟩
      · rw [ov9_i z (by omega)]
        exact h.1 j a b
  · rw [ov9_i (by decide) (by decide), ov9_i (by decide) (by decide)]
    exact h.2.1
  · rw [ov9_i (by decide) (by decide), ov9_i (by decide) (by decide)]
    exact h.2.2
theorem gb9_n : ∀ k : Nat, k < 23 → (rb_ (k : Int)).1 ≤ dv9_ (k : Int) ∧ dv9_ (k : Int) ≤ (rb_ (k : Int)).2 := by decide +kernel
theorem gb9_d : GV9_ dv9_ := by
  refine ⟨fun w h0 h1 => ?_, by decide +kernel, by decide +kernel⟩
  have h := gb9_n w.toNat (by omega)
  rw [show ((w.toNat : Nat) : Int) = w by omega] at h
  exact h
theorem wd9_x (w : List Int) (ts : List (Int × Int × Int)) (b : Int → Int) (s e : Int) : WD9_ w ts b s e (wdf9_ w ts b s e) := by
  refine Classical.epsilon_spec (p := fun x : Int => WD9_ w ts b s e x) ?_
  by_cases z : ∃ k0 n e0, (k0, n, e0) ∈ ts ∧ EW9_ w b s e k0 e0
  · obtain ⟨k0, n, e0, h1, h2⟩ := z
    exact ⟨n, Or.inl ⟨k0, e0, h1, h2⟩⟩
  · exact ⟨-1, Or.inr ⟨rfl, fun k0 n e0 h1 h2 => z ⟨k0, n, e0, h1, h2⟩⟩⟩
theorem wof9_g {w : List Int} {ts : List (Int × Int × Int)} {c b : Int → Int} {L nW n a : Int} {q : Int × Int} (ht : TB9_ w ts c L nW) (h : wof9_ w ts b n a = Sum.inr q) : 0 ≤ q.2 ∧ q.2 < nW := by
  unfold wof9_ at h
  by_cases z5 : (tkf9_ b n a).2.2 = 5
  · rw [if_pos z5] at h
    cases h
  · rw [if_neg z5] at h
    by_cases z1 : (tkf9_ b n a).2.2 = 1
    · rw [if_pos z1] at h
      by_cases z : wdf9_ w ts b (tkf9_ b n a).1 (tkf9_ b n a).2.1 = -1
      · rw [if_pos z] at h
        cases h
      · rw [if_neg z] at h
        cases h
        rcases wd9_x w ts b (tkf9_ b n a).1 (tkf9_ b n a).2.1 with ⟨k0, e0, hm, _⟩ | ⟨hx, _⟩
        · have := (ht.1 _ _ _ hm).1
          exact ⟨this.1, this.2.1⟩
        · exact absurd hx z
    · rw [if_neg z1] at h
      cases h
theorem nrf9_g {b : Int → Int} {n a lo mo : Int} {q : Int × Int} (h : nrf9_ b n a lo mo = Sum.inr q) : lo ≤ q.2 ∧ q.2 ≤ mo := by
  unfold nrf9_ at h
  by_cases z5 : (tkf9_ b n a).2.2 = 5
  · rw [if_pos z5] at h
    cases h
  · rw [if_neg z5] at h
    by_cases z2 : (tkf9_ b n a).2.2 = 2
    · rw [if_pos z2] at h
      by_cases z : lo ≤ nv9_ b (tkf9_ b n a).1 ((tkf9_ b n a).2.1 - (tkf9_ b n a).1).toNat ∧ nv9_ b (tkf9_ b n a).1 ((tkf9_ b n a).2.1 - (tkf9_ b n a).1).toNat ≤ mo
      · rw [if_pos z] at h
        cases h
        exact z
      · rw [if_neg z] at h
        cases h
    · rw [if_neg z2] at h
      cases h
theorem bn9_i {α β : Type} {r : Qr9_ α} {f : α → Qr9_ β} {y : β} (h : bn9_ r f = Sum.inr y) : ∃ q, r = Sum.inr q ∧ f q = Sum.inr y := by
  cases r with
  | inl p => cases h
  | inr q => exact ⟨q, rfl, h⟩
theorem pnf9_g {b : Int → Int} {n a : Int} {q : Int × Int × Int × Int} (h : pnf9_ b n a = Sum.inr q) : (0 ≤ q.2.1 ∧ q.2.1 ≤ 9) ∧ (0 ≤ q.2.2.1 ∧ q.2.2.1 ≤ q.2.1) ∧ (0 ≤ q.2.2.2 ∧ q.2.2.2 ≤ q.2.2.1) := by
  unfold pnf9_ at h
  obtain ⟨x, h1, h2⟩ := bn9_i h
  obtain ⟨y, h3, h4⟩ := bn9_i h2
  obtain ⟨z, h5, h6⟩ := bn9_i h4
  cases h6
  have a1 := nrf9_g h1
  have a2 := nrf9_g h3
  have a3 := nrf9_g h5
  exact ⟨a1, a2, a3⟩
theorem orf9_g {b : Int → Int} {n : Int} : ∀ (f : Nat) {a c : Int} {t v : Int → Int} {p : Int × (Int → Int)}, KS9_ t c → GV9_ v → orf9_ f b n a t c v = Sum.inr p → GV9_ p.2
  | 0, _, _, _, _, _, _, _, h => by cases h
  | f + 1, a, c, t, v, p, hk, hv, h => by
      unfold orf9_ at h
      obtain ⟨q, h1, h2⟩ := bn9_i h
      have hx := wof9_g tb9_2 h1
      have hb := ks9_b hk
      by_cases z : t q.2 = 0
      · have hc : c < 7 := Classical.byContradiction fun y => ks9_7 hk (by omega) hx.1 hx.2 z
        have g1 : GV9_ (u9_ (u9_ v (16 + c) q.2) 4 (c + 1)) := by
          refine gb9_u (gb9_u hv ?_ (by omega) (by omega) (by omega)) ?_ (by decide) (by decide) (by decide)
          · rw [rb9_k (by omega) (by omega)]
            exact ⟨by show (-1 : Int) ≤ q.2; omega, by show q.2 ≤ 6; omega⟩
          · rw [rb9_0.2.2.2.2.1]
            exact ⟨by show (0 : Int) ≤ c + 1; omega, by show c + 1 ≤ 7; omega⟩
        rw [if_pos z] at h2
        by_cases z4 : (tkf9_ b n q.1).2.2 = 4
        · rw [if_pos z4] at h2
          exact orf9_g f (ks9_s hk hx.1 hx.2 z) g1 h2
        · rw [if_neg z4] at h2
          obtain ⟨e, h3, h4⟩ := bn9_i h2
          cases h4
          exact g1
      · rw [if_neg z] at h2
        cases h2
theorem bdf9_g {b v : Int → Int} {n a x : Int} {p : Int × (Int → Int)} (hv : GV9_ v) (hx : 0 ≤ x ∧ x < 14) (h2 : x ≠ 2) (h : bdf9_ b n a x v = Sum.inr p) : GV9_ p.2 := by
  by_cases z0 : x = 0
  · rw [bdf9_0 z0] at h
    obtain ⟨q, h1, h3⟩ := bn9_i h
    cases h3
    have y := wof9_g tb9_1 h1
    refine gb9_u hv ?_ (by decide) (by decide) (by decide)
    rw [rb9_0.1]
    exact ⟨y.1, by show q.2 ≤ 3; omega⟩
  · by_cases z1 : x = 1
    · rw [bdf9_1 z1] at h
      obtain ⟨q, h1, h3⟩ := bn9_i h
      cases h3
      have y := pnf9_g h1
      exact gb9_p hv y.1 y.2.1 y.2.2
    · by_cases z3 : x = 3
      · rw [bdf9_3 z3] at h
        cases h
        refine gb9_u hv ?_ (by decide) (by decide) (by decide)
        rw [rb9_0.2.2.2.2.2]
        exact ⟨by decide, by decide⟩
      · rw [bdf9_4 (by omega)] at h
        obtain ⟨q, h1, h3⟩ := bn9_i h
        cases h3
        have y := nrf9_g h1
        have e := rb9_i (w := x + 2) (by omega) (by omega)
        refine gb9_u hv ?_ (by omega) (by omega) (by omega)
        rw [e.1, e.2]
        exact y
theorem stf9_g {b t v : Int → Int} {n a : Int} {y : Int × (Int → Int) × (Int → Int)} (hv : GV9_ v) (h : stf9_ b n a t v = Sum.inr y) : GV9_ y.2.2 := by
  unfold stf9_ at h
  obtain ⟨q, h1, h2⟩ := bn9_i h
  by_cases z : t q.2 = 0
  · rw [if_pos z] at h2
    by_cases z2 : q.2 = 2
    · rw [if_pos z2] at h2
      obtain ⟨p, h3, h4⟩ := bn9_i h2
      cases h4
      exact orf9_g 9 ks9_0 (gb9_o hv) h3
    · rw [if_neg z2] at h2
      obtain ⟨p, h3, h4⟩ := bn9_i h2
      obtain ⟨e, h5, h6⟩ := bn9_i h4
      cases h6
      exact bdf9_g hv (wof9_g tb9_0 h1) z2 h3
  · rw [if_neg z] at h2
    cases h2
theorem rdf9_g {b : Int → Int} {n : Int} : ∀ (f : Nat) {a : Int} {t v v' : Int → Int}, GV9_ v → rdf9_ f b n a t v = Sum.inr v' → GV9_ v'
  | 0, _, _, _, _, _, h => by cases h
  | f + 1, a, t, v, v', hv, h => by
      unfold rdf9_ at h
      by_cases z : (tkf9_ b n a).2.2 = 0
      · rw [if_pos z] at h
        cases h
        exact hv
      · rw [if_neg z] at h
        obtain ⟨y, h1, h2⟩ := bn9_i h
        exact rdf9_g f (stf9_g hv h1) h2
/-- behind the last key there is none -/
def KV9_ (v : Int → Int) : Prop := ∀ k, 0 ≤ k → k < 7 → ¬ k < v 4 → v (16 + k) = -1
theorem kv9_u {v : Int → Int} {w x : Int} (h : KV9_ v) (h4 : w ≠ 4) (h16 : w < 16) : KV9_ (u9_ v w x) := fun k a b c => by
  rw [u9_n (fun z => h4 z.symm)] at c
  rw [u9_n (show 16 + k ≠ w by omega)]
  exact h k a b c
theorem kv9_o {v : Int → Int} : KV9_ (ov9_ v) := fun k a b c => ov9_k (by omega)
theorem kv9_s {v : Int → Int} {c x : Int} (h : KV9_ v) (h4 : v 4 = c) : KV9_ (u9_ (u9_ v (16 + c) x) 4 (c + 1)) := fun k a b d => by
  rw [u9_e] at d
  rw [u9_n (show 16 + k ≠ 4 by omega), u9_n (show 16 + k ≠ 16 + c by omega)]
  exact h k a b (by omega)
theorem kv9_d : KV9_ dv9_ := by
  have h : ∀ k : Nat, k < 7 → ¬ (k : Int) < dv9_ 4 → dv9_ (16 + (k : Int)) = -1 := by decide +kernel
  intro k a b c
  have g := h k.toNat (by omega)
  rw [show ((k.toNat : Nat) : Int) = k by omega] at g
  exact g c
theorem orf9_v {b : Int → Int} {n : Int} : ∀ (f : Nat) {a c : Int} {t v : Int → Int} {p : Int × (Int → Int)}, v 4 = c → KV9_ v → orf9_ f b n a t c v = Sum.inr p → KV9_ p.2
  | 0, _, _, _, _, _, _, _, h => by cases h
  | f + 1, a, c, t, v, p, hk, hv, h => by
      unfold orf9_ at h
      obtain ⟨q, h1, h2⟩ := bn9_i h
      have g1 : KV9_ (u9_ (u9_ v (16 + c) q.2) 4 (c + 1)) := kv9_s hv hk
      by_cases z : t q.2 = 0
      · rw [if_pos z] at h2
        by_cases z4 : (tkf9_ b n q.1).2.2 = 4
        · rw [if_pos z4] at h2
          exact orf9_v f u9_e g1 h2
        · rw [if_neg z4] at h2
          obtain ⟨e, h3, h4⟩ := bn9_i h2
          cases h4
          exact g1
      · rw [if_neg z] at h2
        cases h2
theorem bdf9_v {b v : Int → Int} {n a x : Int} {p : Int × (Int → Int)} (hv : KV9_ v) (hx : 0 ≤ x ∧ x < 14) (h2 : x ≠ 2) (h : bdf9_ b n a x v = Sum.inr p) : KV9_ p.2 := by
  by_cases z0 : x = 0
  · rw [bdf9_0 z0] at h
    obtain ⟨q, h1, h3⟩ := bn9_i h
    cases h3
    exact kv9_u hv (by decide) (by decide)
  · by_cases z1 : x = 1
    · rw [bdf9_1 z1] at h
      obtain ⟨q, h1, h3⟩ := bn9_i h
      cases h3
      exact kv9_u (kv9_u (kv9_u hv (by decide) (by decide)) (by decide) (by decide)) (by decide) (by decide)
    · by_cases z3 : x = 3
      · rw [bdf9_3 z3] at h
        cases h
        exact kv9_u hv (by decide) (by decide)
      · rw [bdf9_4 (by omega)] at h
        obtain ⟨q, h1, h3⟩ := bn9_i h
        cases h3
        exact kv9_u hv (by omega) (by omega)
theorem stf9_v {b t v : Int → Int} {n a : Int} {y : Int × (Int → Int) × (Int → Int)} (hv : KV9_ v) (h : stf9_ b n a t v = Sum.inr y) : KV9_ y.2.2 := by
  unfold stf9_ at h
  obtain ⟨q, h1, h2⟩ := bn9_i h
  by_cases z : t q.2 = 0
  · rw [if_pos z] at h2
    by_cases z2 : q.2 = 2
    · rw [if_pos z2] at h2
      obtain ⟨p, h3, h4⟩ := bn9_i h2
      cases h4
      exact orf9_v 9 ov9_4 kv9_o h3
    · rw [if_neg z2] at h2
      obtain ⟨p, h3, h4⟩ := bn9_i h2
      obtain ⟨e, h5, h6⟩ := bn9_i h4
      cases h6
      exact bdf9_v hv (wof9_g tb9_0 h1) z2 h3
  · rw [if_neg z] at h2
    cases h2
theorem rdf9_v {b : Int → Int} {n : Int} : ∀ (f : Nat) {a : Int} {t v v' : Int → Int}, KV9_ v → rdf9_ f b n a t v = Sum.inr v' → KV9_ v'
  | 0, _, _, _, _, _, h => by cases h
  | f + 1, a, t, v, v', hv, h => by
      unfold rdf9_ at h
      by_cases z : (tkf9_ b n a).2.2 = 0
      · rw [if_pos z] at h
        cases h
        exact hv
      · rw [if_neg z] at h
        obtain ⟨y, h1, h2⟩ := bn9_i h
        exact rdf9_v f (stf9_v hv h1) h2
