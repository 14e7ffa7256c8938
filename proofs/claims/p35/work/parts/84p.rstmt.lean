-- layDefaults and readStatement of the reference
def TA9_ (T : Zt) (t : Int → Int) : Prop := ∀ j, 0 ≤ j → j < 14 → T 269 0 j = t j
theorem ta9_s {T T' : Zt} {t : Int → Int} {x : Int} (h : TA9_ T t) (ho : ∀ j, j ≠ x → T' 269 0 j = T 269 0 j) (hx : T' 269 0 x = 1) : TA9_ T' (u9_ t x 1) := fun j a b => by
  by_cases z : j = x
  · rw [z, u9_e]
    exact hx
  · rw [u9_n z, ho j z]
    exact h j a b
theorem TA9_f {ws : List (Nat × List Int)} {T T' : Zt} {t : Int → Int} (h : TA9_ T t) (f : fr_ ws T T') (w : ∀ j, fw_ ws 269 j = false) : TA9_ T' t := fun j a b => (f 269 0 j (w j)).trans (h j a b)
def MS9_ (r : Qr9_ (Int × (Int → Int) × (Int → Int))) (T : Zt) : Prop := ∃ t v, r = Sum.inr (T 111 0 57, t, v) ∧ TA9_ T t ∧ VR9_ T v
/-- three numbers, one behind the other -/
theorem pnf9_h {b : Int → Int} {n a A0 B0 A1 B1 p1 v1 A2 B2 p2 v2 A3 B3 p3 v3 : Int} (h0 : A0 = 0)
  (q1 : (A0 ≠ 0 ∧ A1 = A0 ∧ B1 = B0) ∨ (A0 = 0 ∧ A1 ≠ 0 ∧ nrf9_ b n a 0 9 = Sum.inl (A1, B1)) ∨ (A0 = 0 ∧ A1 = 0 ∧ nrf9_ b n a 0 9 = Sum.inr (p1, v1) ∧ B1 = B0 ∧ a ≤ p1 ∧ p1 ≤ n))
  (q2 : (A1 ≠ 0 ∧ A2 = A1 ∧ B2 = B1) ∨ (A1 = 0 ∧ A2 ≠ 0 ∧ nrf9_ b n p1 0 v1 = Sum.inl (A2, B2)) ∨ (A1 = 0 ∧ A2 = 0 ∧ nrf9_ b n p1 0 v1 = Sum.inr (p2, v2) ∧ B2 = B1 ∧ p1 ≤ p2 ∧ p2 ≤ n))
  (q3 : (A2 ≠ 0 ∧ A3 = A2 ∧ B3 = B2) ∨ (A2 = 0 ∧ A3 ≠ 0 ∧ nrf9_ b n p2 0 v2 = Sum.inl (A3, B3)) ∨ (A2 = 0 ∧ A3 = 0 ∧ nrf9_ b n p2 0 v2 = Sum.inr (p3, v3) ∧ B3 = B2 ∧ p2 ≤ p3 ∧ p3 ≤ n)) :
  (A3 ≠ 0 ∧ pnf9_ b n a = Sum.inl (A3, B3)) ∨ (A3 = 0 ∧ pnf9_ b n a = Sum.inr (p3, v1, v2, v3) ∧ B3 = B0 ∧ a ≤ p3 ∧ p3 ≤ n) := by
  rcases q1 with ⟨x1, _⟩ | ⟨_, x2, x3⟩ | ⟨_, x2, x3, x4, x5, x6⟩
  · exact absurd h0 x1
  · rcases q2 with ⟨_, y2, y3⟩ | ⟨y1, _⟩ | ⟨y1, _⟩
    · rcases q3 with ⟨_, z2, z3⟩ | ⟨z1, _⟩ | ⟨z1, _⟩
      · refine Or.inl ⟨by omega, ?_⟩
        rw [z2, z3, y2, y3]
        exact bn9_l x3
      · exact absurd z1 (by omega)
      · exact absurd z1 (by omega)
    · exact absurd y1 x2
    · exact absurd y1 x2
  · rcases q2 with ⟨y1, _⟩ | ⟨_, y2, y3⟩ | ⟨_, y2, y3, y4, y5, y6⟩
    · exact absurd x2 y1
    · rcases q3 with ⟨_, z2, z3⟩ | ⟨z1, _⟩ | ⟨z1, _⟩
      · refine Or.inl ⟨by omega, ?_⟩
        rw [z2, z3]
        exact (bn9_r x3).trans (bn9_l y3)
      · exact absurd z1 y2
      · exact absurd z1 y2
    · rcases q3 with ⟨z1, _⟩ | ⟨_, z2, z3⟩ | ⟨_, z2, z3, z4, z5, z6⟩
      · exact absurd y2 z1
      · exact Or.inl ⟨z2, (bn9_r x3).trans ((bn9_r y3).trans (bn9_l z3))⟩
      · exact Or.inr ⟨z2, (bn9_r x3).trans ((bn9_r y3).trans (bn9_r z3)), by omega, by omega, by omega⟩
def sb9_c (k : Nat) : Bool := wl_267.getD k 0 == (sa_ 1).getD (k + 6) 0 && wl_268.getD k 0 == (sa_ 2).getD (k + 6) 0
theorem sb9_a : ∀ k, k < 10 → sb9_c k = true := by decide +kernel
theorem sb9_q {x : Int} (h0 : 4 ≤ x) (h1 : x < 14) : wl_267.getD (x - 4).toNat 0 = (sa_ 1).getD (x + 2).toNat 0 ∧ wl_268.getD (x - 4).toNat 0 = (sa_ 2).getD (x + 2).toNat 0 := by
  have h := sb9_a (x - 4).toNat (by omega)
  unfold sb9_c at h
  rw [Bool.and_eq_true, beq_iff_eq, beq_iff_eq, show (x - 4).toNat + 6 = (x + 2).toNat by omega] at h
  exact h
theorem bk_X11_layDefaults_e_143 : ck_ fX11 none cX11_layDefaults 143 [.iload 1, .iconst 14, .if_icmp .ge 162, .aload 0, .tableswitch 0 11 69 #[], .iload 1, .iconst 0, .bastore, .iinc 1 1, .goto 143] 162 = true := qck_r (nn_ _) (by decide +kernel)
theorem bs_X11_layDefaults_e_143 {P : Zt → Option Zv → Prop} (K : Int → Zl → List Zv → Zt → Prop) : sx_ K P [.iload 1, .iconst 14, .if_icmp .ge 162, .aload 0, .tableswitch 0 11 69 #[], .iload 1, .iconst 0, .bastore, .iinc 1 1, .goto 143] 162 = x_iload 1 (x_iconst 14 (x_if_icmp .ge 162 K (x_aload 0 (x_g1 111 269 (x_iload 1 (x_iconst 0 (x_bastore (x_iinc 1 1 (x_goto 143 K))))))))) := ((xe_iload 1).trans (congrArg (x_iload 1) ((xe_iconst 14).trans (congrArg (x_iconst 14) ((xe_if_icmp .ge 162).trans (congrArg (x_if_icmp .ge 162 K) ((xe_aload 0).trans (congrArg (x_aload 0) ((xe_g1 (kk := 111) rfl tl_11_69).trans (congrArg (x_g1 111 269) ((xe_iload 1).trans (congrArg (x_iload 1) ((xe_iconst 0).trans (congrArg (x_iconst 0) ((xe_bastore).trans (congrArg (x_bastore) ((xe_iinc 1 1).trans (congrArg (x_iinc 1 1) (xe_goto 143)))))))))))))))))))
theorem bk_X11_layDefaults_e_162 : ck_ fX11 none cX11_layDefaults 162 [.return_] 163 = true := qck_r (nn_ _) (by decide +kernel)
theorem bs_X11_layDefaults_e_162 {P : Zt → Option Zv → Prop} (K : Int → Zl → List Zv → Zt → Prop) : sx_ K P [.return_] 163 = x_return_ P := (xe_return_)
theorem bk_X11_layDefaults_e_2 : ck_ fX11 none cX11_layDefaults 2 [.iload 1, .iconst 23, .if_icmp .ge 31, .aload 0, .tableswitch 0 11 4 #[], .iload 1, .iload 1, .iconst 15, .if_icmp .le 23, .iconst (-1), .goto 24] 23 = true := qck_r (nn_ _) (by decide +kernel)
theorem bs_X11_layDefaults_e_2 {P : Zt → Option Zv → Prop} (K : Int → Zl → List Zv → Zt → Prop) : sx_ K P [.iload 1, .iconst 23, .if_icmp .ge 31, .aload 0, .tableswitch 0 11 4 #[], .iload 1, .iload 1, .iconst 15, .if_icmp .le 23, .iconst (-1), .goto 24] 23 = x_iload 1 (x_iconst 23 (x_if_icmp .ge 31 K (x_aload 0 (x_g1 111 204 (x_iload 1 (x_iload 1 (x_iconst 15 (x_if_icmp .le 23 K (x_iconst (-1) (x_goto 24 K)))))))))) := ((xe_iload 1).trans (congrArg (x_iload 1) ((xe_iconst 23).trans (congrArg (x_iconst 23) ((xe_if_icmp .ge 31).trans (congrArg (x_if_icmp .ge 31 K) ((xe_aload 0).trans (congrArg (x_aload 0) ((xe_g1 (kk := 111) rfl tl_11_4).trans (congrArg (x_g1 111 204) ((xe_iload 1).trans (congrArg (x_iload 1) ((xe_iload 1).trans (congrArg (x_iload 1) ((xe_iconst 15).trans (congrArg (x_iconst 15) ((xe_if_icmp .le 23).trans (congrArg (x_if_icmp .le 23 K) ((xe_iconst (-1)).trans (congrArg (x_iconst (-1)) (xe_goto 24)))))))))))))))))))))
theorem bk_X11_layDefaults_e_31 : ck_ fX11 none cX11_layDefaults 31 [.aload 0, .tableswitch 0 11 4 #[], .iconst 1, .iconst 3, .iastore, .aload 0, .tableswitch 0 11 4 #[], .iconst 2, .iconst 1, .iastore, .aload 0, .tableswitch 0 11 4 #[], .iconst 4, .iconst 2, .iastore, .aload 0, .tableswitch 0 11 4 #[], .iconst 6, .iconst 1, .iastore, .aload 0, .tableswitch 0 11 4 #[], .iconst 7, .iconst 7, .iastore, .aload 0, .tableswitch 0 11 4 #[], .iconst 8, .iconst 1, .iastore, .aload 0, .tableswitch 0 11 4 #[], .iconst 9, .iconst 2, .iastore, .aload 0, .tableswitch 0 11 4 #[], .iconst 10, .iconst 2, .iastore, .aload 0, .tableswitch 0 11 4 #[], .iconst 11, .iconst 3, .iastore, .aload 0, .tableswitch 0 11 4 #[], .iconst 12, .iconst 3, .iastore, .aload 0, .tableswitch 0 11 4 #[], .iconst 13, .iconst 3, .iastore, .aload 0, .tableswitch 0 11 4 #[], .iconst 14, .iconst 1, .iastore, .aload 0, .tableswitch 0 11 4 #[], .iconst 16, .iconst 0, .iastore, .aload 0, .tableswitch 0 11 4 #[], .iconst 17, .iconst 1, .iastore, .iconst 0, .istore 1] 143 = true := qck_r (nn_ _) (by decide +kernel)
theorem bs_X11_layDefaults_e_31 {P : Zt → Option Zv → Prop} (K : Int → Zl → List Zv → Zt → Prop) : sx_ K P [.aload 0, .tableswitch 0 11 4 #[], .iconst 1, .iconst 3, .iastore, .aload 0, .tableswitch 0 11 4 #[], .iconst 2, .iconst 1, .iastore, .aload 0, .tableswitch 0 11 4 #[], .iconst 4, .iconst 2, .iastore, .aload 0, .tableswitch 0 11 4 #[], .iconst 6, .iconst 1, .iastore, .aload 0, .tableswitch 0 11 4 #[], .iconst 7, .iconst 7, .iastore, .aload 0, .tableswitch 0 11 4 #[], .iconst 8, .iconst 1, .iastore, .aload 0, .tableswitch 0 11 4 #[], .iconst 9, .iconst 2, .iastore, .aload 0, .tableswitch 0 11 4 #[], .iconst 10, .iconst 2, .iastore, .aload 0, .tableswitch 0 11 4 #[], .iconst 11, .iconst 3, .iastore, .aload 0, .tableswitch 0 11 4 #[], .iconst 12, .iconst 3, .iastore, .aload 0, .tableswitch 0 11 4 #[], .iconst 13, .iconst 3, .iastore, .aload 0, .tableswitch 0 11 4 #[], .iconst 14, .iconst 1, .iastore, .aload 0, .tableswitch 0 11 4 #[], .iconst 16, .iconst 0, .iastore, .aload 0, .tableswitch 0 11 4 #[], .iconst 17, .iconst 1, .iastore, .iconst 0, .istore 1] 143 = x_aload 0 (x_g1 111 204 (x_iconst 1 (x_iconst 3 (x_iastore (x_aload 0 (x_g1 111 204 (x_iconst 2 (x_iconst 1 (x_iastore (x_aload 0 (x_g1 111 204 (x_iconst 4 (x_iconst 2 (x_iastore (x_aload 0 (x_g1 111 204 (x_iconst 6 (x_iconst 1 (x_iastore (x_aload 0 (x_g1 111 204 (x_iconst 7 (x_iconst 7 (x_iastore (x_aload 0 (x_g1 111 204 (x_iconst 8 (x_iconst 1 (x_iastore (x_aload 0 (x_g1 111 204 (x_iconst 9 (x_iconst 2 (x_iastore (x_aload 0 (x_g1 111 204 (x_iconst 10 (x_iconst 2 (x_iastore (x_aload 0 (x_g1 111 204 (x_iconst 11 (x_iconst 3 (x_iastore (x_aload 0 (x_g1 111 204 (x_iconst 12 (x_iconst 3 (x_iastore (x_aload 0 (x_g1 111 204 (x_iconst 13 (x_iconst 3 (x_iastore (x_aload 0 (x_g1 111 204 (x_iconst 14 (x_iconst 1 (x_iastore (x_aload 0 (x_g1 111 204 (x_iconst 16 (x_iconst 0 (x_iastore (x_aload 0 (x_g1 111 204 (x_iconst 17 (x_iconst 1 (x_iastore (x_iconst 0 (x_istore 1 (K 143)))))))))))))))))))))))))))))))))))))))))))))))))))))))))))))))))))))))) := ((xe_aload 0).trans (congrArg (x_aload 0) ((xe_g1 (kk := 111) rfl tl_11_4).trans (congrArg (x_g1 111 204) ((xe_iconst 1).trans (congrArg (x_iconst 1) ((xe_iconst 3).trans (congrArg (x_iconst 3) ((xe_iastore).trans (congrArg (x_iastore) ((xe_aload 0).trans (congrArg (x_aload 0) ((xe_g1 (kk := 111) rfl tl_11_4).trans (congrArg (x_g1 111 204) ((xe_iconst 2).trans (congrArg (x_iconst 2) ((xe_iconst 1).trans (congrArg (x_iconst 1) ((xe_iastore).trans (congrArg (x_iastore) ((xe_aload 0).trans (congrArg (x_aload 0) ((xe_g1 (kk := 111) rfl tl_11_4).trans (congrArg (x_g1 111 204) ((xe_iconst 4).trans (congrArg (x_iconst 4) ((xe_iconst 2).trans (congrArg (x_iconst 2) ((xe_iastore).trans (congrArg (x_iastore) ((xe_aload 0).trans (congrArg (x_aload 0) ((xe_g1 (kk := 111) rfl tl_11_4).trans (congrArg (x_g1 111 204) ((xe_iconst 6).trans (congrArg (x_iconst 6) ((xe_iconst 1).trans (congrArg (x_iconst 1) ((xe_iastore).trans (congrArg (x_iastore) ((xe_aload 0).trans (congrArg (x_aload 0) ((xe_g1 (kk := 111) rfl tl_11_4).trans (congrArg (x_g1 111 204) ((xe_iconst 7).trans (congrArg (x_iconst 7) ((xe_iconst 7).trans (congrArg (x_iconst 7) ((xe_iastore).trans (congrArg (x_iastore) ((xe_aload 0).trans (congrArg (x_aload 0) ((xe_g1 (kk := 111) rfl tl_11_4).trans (congrArg (x_g1 111 204) ((xe_iconst 8).trans (congrArg (x_iconst 8) ((xe_iconst 1).trans (congrArg (x_iconst 1) ((xe_iastore).trans (congrArg (x_iastore) ((xe_aload 0).trans (congrArg (x_aload 0) ((xe_g1 (kk := 111) rfl tl_11_4).trans (congrArg (x_g1 111 204) ((xe_iconst 9).trans (congrArg (x_iconst 9) ((xe_iconst 2).trans (congrArg (x_iconst 2) ((xe_iastore).trans (congrArg (x_iastore) ((xe_aload 0).trans (congrArg (x_aload 0) ((xe_g1 (kk := 111) rfl tl_11_4).trans (congrArg (x_g1 111 204) ((xe_iconst 10).trans (congrArg (x_iconst 10) ((xe_iconst 2).trans (congrArg (x_iconst 2) ((xe_iastore).trans (congrArg (x_iastore) ((xe_aload 0).trans (congrArg (x_aload 0) ((xe_g1 (kk := 111) rfl tl_11_4).trans (congrArg (x_g1 111 204) ((xe_iconst 11).trans (congrArg (x_iconst 11) ((xe_iconst 3).trans (congrArg (x_iconst 3) ((xe_iastore).trans (congrArg (x_iastore) ((xe_aload 0).trans (congrArg (x_aload 0) ((xe_g1 (kk := 111) rfl tl_11_4).trans (congrArg (x_g1 111 204) ((xe_iconst 12).trans (congrArg (x_iconst 12) ((xe_iconst 3).trans (congrArg (x_iconst 3) ((xe_iastore).trans (congrArg (x_iastore) ((xe_aload 0).trans (congrArg (x_aload 0) ((xe_g1 (kk := 111) rfl tl_11_4).trans (congrArg (x_g1 111 204) ((xe_iconst 13).trans (congrArg (x_iconst 13) ((xe_iconst 3).trans (congrArg (x_iconst 3) ((xe_iastore).trans (congrArg (x_iastore) ((xe_aload 0).trans (congrArg (x_aload 0) ((xe_g1 (kk := 111) rfl tl_11_4).trans (congrArg (x_g1 111 204) ((xe_iconst 14).trans (congrArg (x_iconst 14) ((xe_iconst 1).trans (congrArg (x_iconst 1) ((xe_iastore).trans (congrArg (x_iastore) ((xe_aload 0).trans (congrArg (x_aload 0) ((xe_g1 (kk := 111) rfl tl_11_4).trans (congrArg (x_g1 111 204) ((xe_iconst 16).trans (congrArg (x_iconst 16) ((xe_iconst 0).trans (congrArg (x_iconst 0) ((xe_iastore).trans (congrArg (x_iastore) ((xe_aload 0).trans (congrArg (x_aload 0) ((xe_g1 (kk := 111) rfl tl_11_4).trans (congrArg (x_g1 111 204) ((xe_iconst 17).trans (congrArg (x_iconst 17) ((xe_iconst 1).trans (congrArg (x_iconst 1) ((xe_iastore).trans (congrArg (x_iastore) ((xe_iconst 0).trans (congrArg (x_iconst 0) ((xe_istore 1).trans (congrArg (x_istore 1) xe_nil))))))))))))))))))))))))))))))))))))))))))))))))))))))))))))))))))))))))))))))))))))))))))))))))))))))))))))))))))))))))))))))))))))))))))))))))
theorem bk_X11_layDefaults_e_23 : ck_ fX11 none cX11_layDefaults 23 [.iconst 0, .iastore, .iinc 1 1, .goto 2] 31 = true := qck_r (nn_ _) (by decide +kernel)
theorem bs_X11_layDefaults_e_23 {P : Zt → Option Zv → Prop} (K : Int → Zl → List Zv → Zt → Prop) : sx_ K P [.iconst 0, .iastore, .iinc 1 1, .goto 2] 31 = x_iconst 0 (x_iastore (x_iinc 1 1 (x_goto 2 K))) := ((xe_iconst 0).trans (congrArg (x_iconst 0) ((xe_iastore).trans (congrArg (x_iastore) ((xe_iinc 1 1).trans (congrArg (x_iinc 1 1) (xe_goto 2)))))))
theorem bk_X11_layDefaults_e_24 : ck_ fX11 none cX11_layDefaults 24 [.iastore, .iinc 1 1, .goto 2] 31 = true := qck_r (nn_ _) (by decide +kernel)
theorem bs_X11_layDefaults_e_24 {P : Zt → Option Zv → Prop} (K : Int → Zl → List Zv → Zt → Prop) : sx_ K P [.iastore, .iinc 1 1, .goto 2] 31 = x_iastore (x_iinc 1 1 (x_goto 2 K)) := ((xe_iastore).trans (congrArg (x_iastore) ((xe_iinc 1 1).trans (congrArg (x_iinc 1 1) (xe_goto 2)))))
theorem bk_X11_layDefaults_e_0 : ck_ fX11 none cX11_layDefaults 0 [.iconst 0, .istore 1] 2 = true := qck_r (nn_ _) (by decide +kernel)
theorem bs_X11_layDefaults_e_0 {P : Zt → Option Zv → Prop} (K : Int → Zl → List Zv → Zt → Prop) : sx_ K P [.iconst 0, .istore 1] 2 = x_iconst 0 (x_istore 1 (K 2)) := ((xe_iconst 0).trans (congrArg (x_iconst 0) ((xe_istore 1).trans (congrArg (x_istore 1) xe_nil))))
abbrev po_X11_layDefaults_e (T : Zt) : Zt → Option Zv → Prop := fun T' r => r = none ∧ fr_ [(204, []), (269, [])] T T' ∧ (VR9_ T' dv9_ ∧ TA9_ T' (fun _ => 0))
set_option maxHeartbeats 4000000 in
theorem ct_X11_layDefaults_e {T : Zt} : Ct_ yX11_layDefaults zX11_layDefaults T [vR 111 0] (po_X11_layDefaults_e T) := by
  refine ct_of pn_11 rfl rfl (Nat.le_of_ble_eq_true rfl) (fun hT hav => ?_)
  have hz : zX11_layDefaults.2.2.2.1 = some .boolean → ∀ (T' : Zt) (x : Int), po_X11_layDefaults_e T T' (some (vI x)) → 0 ≤ x ∧ x ≤ 1 := fun h => by cases h
  show J_ zX11_layDefaults T (po_X11_layDefaults_e T) 0 0 0 [some (vR 111 0), none] [] T
  have c_2 : ∀ (nn : Nat) (k : Int) (T1 : Zt), ((23 - k).toNat) ≤ nn → (fr_ [(204, []), (269, [])] T T1) → (0 ≤ k ∧ k ≤ 23) → (∀ j : Int, 0 ≤ j → j < k → (j ≤ 15 → T1 204 0 j = 0)) → (∀ j : Int, 0 ≤ j → j < k → (15 < j → T1 204 0 j = -1)) → J_ zX11_layDefaults T (po_X11_layDefaults_e T) 0 0 2 [some (vR 111 0), some (vI k)] [] T1 := by
    intro nn
    induction nn using Nat.strongRecOn with
    | _ nn ih_2 =>
      intro k T1 hm_2 hf_2 k1 l1 l2
      replace hm_2 := fun (_ : Unit) => hm_2
      have c_143 : ∀ (nn : Nat) (k : Int) (T2 : Zt), ((14 - k).toNat) ≤ nn → (fr_ [(204, []), (269, [])] T T2) → (0 ≤ k ∧ k ≤ 14) → (VR9_ T2 dv9_) → (∀ j : Int, 0 ≤ j → j < k → T2 269 0 j = 0) → J_ zX11_layDefaults T (po_X11_layDefaults_e T) 0 0 143 [some (vR 111 0), some (vI k)] [] T2 := by
        intro nn
        induction nn using Nat.strongRecOn with
        | _ nn ih_143 =>
          intro k T2 hm_143 hf_143 k1 f1 tl
          replace hm_143 := fun (_ : Unit) => hm_143
          refine j_blx (F := fX11) tb_X11 (nn_ _) bk_X11_layDefaults_e_143 bs_X11_layDefaults_e_143 hz (fun K hK => ?_)
          refine And.intro (fun c1 => ?_) (fun c1 => ?_)
          · refine hK 162 _ [] T2 ?_
            refine j_blx (F := fX11) tb_X11 (nn_ _) bk_X11_layDefaults_e_162 bs_X11_layDefaults_e_162 hz (fun K hK => ?_)
            refine (show po_X11_layDefaults_e T T2 (none) from ?_)
            exact ⟨rfl, fr_t (fr_0 _ _) (fr_s hf_143 rfl), f1, fun j a b => tl j a (by omega)⟩
          · refine iy_i (by omega) (by omega) ?_
            refine x_nm (fun U2 hU2 => ?_)
            have e3 := up_f hU2
            refine rg_i (by omega) ?_
            refine hK 143 [some (vR 111 0), some (vI (k + 1))] [] U2 ?_
            refine ih_143 _ ?_ (k + 1) U2 (Nat.le_refl _) ?_ ?_ ?_ ?_
            · have hm_143 := hm_143 (); omega
            · exact fr_u (fr_t (fr_0 _ _) (fr_s hf_143 rfl)) hU2 rfl
            · omega
            · exact VR9_f f1 (show fr_ [(269, [])] T2 U2 from fr_u (fr_0 _ _) hU2 rfl) (fun _ => rfl)
            · intro j a b
              by_cases z : j = k
              · rw [z]; exact up_f hU2
              · rw [up_g hU2 (by omega)]; exact tl j a (by omega)
      refine j_blx (F := fX11) tb_X11 (nn_ _) bk_X11_layDefaults_e_2 bs_X11_layDefaults_e_2 hz (fun K hK => ?_)
      refine And.intro (fun c4 => ?_) (fun c4 => ?_)
      · refine hK 31 _ [] T1 ?_
        refine j_blx (F := fX11) tb_X11 (nn_ _) bk_X11_layDefaults_e_31 bs_X11_layDefaults_e_31 hz (fun K hK => ?_)
        refine iy_i (by omega) (by omega) ?_
        refine x_nm (fun U5 hU5 => ?_)
        have e6 := up_f hU5
        refine iy_i (by omega) (by omega) ?_
        refine x_nm (fun U7 hU7 => ?_)
        have e8 := up_f hU7
        refine iy_i (by omega) (by omega) ?_
        refine x_nm (fun U9 hU9 => ?_)
        have e10 := up_f hU9
        refine iy_i (by omega) (by omega) ?_
        refine x_nm (fun U11 hU11 => ?_)
        have e12 := up_f hU11
        refine iy_i (by omega) (by omega) ?_
        refine x_nm (fun U13 hU13 => ?_)
        have e14 := up_f hU13
        refine iy_i (by omega) (by omega) ?_
        refine x_nm (fun U15 hU15 => ?_)
        have e16 := up_f hU15
        refine iy_i (by omega) (by omega) ?_
        refine x_nm (fun U17 hU17 => ?_)
        have e18 := up_f hU17
        refine iy_i (by omega) (by omega) ?_
        refine x_nm (fun U19 hU19 => ?_)
        have e20 := up_f hU19
        refine iy_i (by omega) (by omega) ?_
        refine x_nm (fun U21 hU21 => ?_)
        have e22 := up_f hU21
        refine iy_i (by omega) (by omega) ?_
        refine x_nm (fun U23 hU23 => ?_)
        have e24 := up_f hU23
        refine iy_i (by omega) (by omega) ?_
        refine x_nm (fun U25 hU25 => ?_)
        have e26 := up_f hU25
        refine iy_i (by omega) (by omega) ?_
        refine x_nm (fun U27 hU27 => ?_)
        have e28 := up_f hU27
        refine iy_i (by omega) (by omega) ?_
        refine x_nm (fun U29 hU29 => ?_)
        have e30 := up_f hU29
        refine iy_i (by omega) (by omega) ?_
        refine x_nm (fun U31 hU31 => ?_)
        have e32 := up_f hU31
        refine hK 143 [some (vR 111 0), some (vI 0)] [] U31 ?_
        refine c_143 _ 0 U31 (Nat.le_refl _) ?_ ?_ ?_ ?_
        · exact fr_u (fr_u (fr_u (fr_u (fr_u (fr_u (fr_u (fr_u (fr_u (fr_u (fr_u (fr_u (fr_u (fr_u (fr_t (fr_0 _ _) (fr_s hf_2 rfl)) hU5 rfl) hU7 rfl) hU9 rfl) hU11 rfl) hU13 rfl) hU15 rfl) hU17 rfl) hU19 rfl) hU21 rfl) hU23 rfl) hU25 rfl) hU27 rfl) hU29 rfl) hU31 rfl
        · omega
        have e33 : U31 204 0 0 = T1 204 0 0 := (up_j hU31 (by decide) 204 0).trans ((up_j hU29 (by decide) 204 0).trans ((up_j hU27 (by decide) 204 0).trans ((up_j hU25 (by decide) 204 0).trans ((up_j hU23 (by decide) 204 0).trans ((up_j hU21 (by decide) 204 0).trans ((up_j hU19 (by decide) 204 0).trans ((up_j hU17 (by decide) 204 0).trans ((up_j hU15 (by decide) 204 0).trans ((up_j hU13 (by decide) 204 0).trans ((up_j hU11 (by decide) 204 0).trans ((up_j hU9 (by decide) 204 0).trans ((up_j hU7 (by decide) 204 0).trans (up_j hU5 (by decide) 204 0)))))))))))))
        have e34 : U31 204 0 1 = 3 := (up_j hU31 (by decide) 204 0).trans ((up_j hU29 (by decide) 204 0).trans ((up_j hU27 (by decide) 204 0).trans ((up_j hU25 (by decide) 204 0).trans ((up_j hU23 (by decide) 204 0).trans ((up_j hU21 (by decide) 204 0).trans ((up_j hU19 (by decide) 204 0).trans ((up_j hU17 (by decide) 204 0).trans ((up_j hU15 (by decide) 204 0).trans ((up_j hU13 (by decide) 204 0).trans ((up_j hU11 (by decide) 204 0).trans ((up_j hU9 (by decide) 204 0).trans ((up_j hU7 (by decide) 204 0).trans (up_f hU5)))))))))))))
        have e35 : U31 204 0 2 = 1 := (up_j hU31 (by decide) 204 0).trans ((up_j hU29 (by decide) 204 0).trans ((up_j hU27 (by decide) 204 0).trans ((up_j hU25 (by decide) 204 0).trans ((up_j hU23 (by decide) 204 0).trans ((up_j hU21 (by decide) 204 0).trans ((up_j hU19 (by decide) 204 0).trans ((up_j hU17 (by decide) 204 0).trans ((up_j hU15 (by decide) 204 0).trans ((up_j hU13 (by decide) 204 0).trans ((up_j hU11 (by decide) 204 0).trans ((up_j hU9 (by decide) 204 0).trans (up_f hU7))))))))))))
        have e36 : U31 204 0 3 = T1 204 0 3 := (up_j hU31 (by decide) 204 0).trans ((up_j hU29 (by decide) 204 0).trans ((up_j hU27 (by decide) 204 0).trans ((up_j hU25 (by decide) 204 0).trans ((up_j hU23 (by decide) 204 0).trans ((up_j hU21 (by decide) 204 0).trans ((up_j hU19 (by decide) 204 0).trans ((up_j hU17 (by decide) 204 0).trans ((up_j hU15 (by decide) 204 0).trans ((up_j hU13 (by decide) 204 0).trans ((up_j hU11 (by decide) 204 0).trans ((up_j hU9 (by decide) 204 0).trans ((up_j hU7 (by decide) 204 0).trans (up_j hU5 (by decide) 204 0)))))))))))))
        have e37 : U31 204 0 4 = 2 := (up_j hU31 (by decide) 204 0).trans ((up_j hU29 (by decide) 204 0).trans ((up_j hU27 (by decide) 204 0).trans ((up_j hU25 (by decide) 204 0).trans ((up_j hU23 (by decide) 204 0).trans ((up_j hU21 (by decide) 204 0).trans ((up_j hU19 (by decide) 204 0).trans ((up_j hU17 (by decide) 204 0).trans ((up_j hU15 (by decide) 204 0).trans ((up_j hU13 (by decide) 204 0).trans ((up_j hU11 (by decide) 204 0).trans (up_f hU9)))))))))))
        have e38 : U31 204 0 5 = T1 204 0 5 := (up_j hU31 (by decide) 204 0).trans ((up_j hU29 (by decide) 204 0).trans ((up_j hU27 (by decide) 204 0).trans ((up_j hU25 (by decide) 204 0).trans ((up_j hU23 (by decide) 204 0).trans ((up_j hU21 (by decide) 204 0).trans ((up_j hU19 (by decide) 204 0).trans ((up_j hU17 (by decide) 204 0).trans ((up_j hU15 (by decide) 204 0).trans ((up_j hU13 (by decide) 204 0).trans ((up_j hU11 (by decide) 204 0).trans ((up_j hU9 (by decide) 204 0).trans ((up_j hU7 (by decide) 204 0).trans (up_j hU5 (by decide) 204 0)))))))))))))
        have e39 : U31 204 0 6 = 1 := (up_j hU31 (by decide) 204 0).trans ((up_j hU29 (by decide) 204 0).trans ((up_j hU27 (by decide) 204 0).trans ((up_j hU25 (by decide) 204 0).trans ((up_j hU23 (by decide) 204 0).trans ((up_j hU21 (by decide) 204 0).trans ((up_j hU19 (by decide) 204 0).trans ((up_j hU17 (by decide) 204 0).trans ((up_j hU15 (by decide) 204 0).trans ((up_j hU13 (by decide) 204 0).trans (up_f hU11))))))))))
        have e40 : U31 204 0 7 = 7 := (up_j hU31 (by decide) 204 0).trans ((up_j hU29 (by decide) 204 0).trans ((up_j hU27 (by decide) 204 0).trans ((up_j hU25 (by decide) 204 0).trans ((up_j hU23 (by decide) 204 0).trans ((up_j hU21 (by decide) 204 0).trans ((up_j hU19 (by decide) 204 0).trans ((up_j hU17 (by decide) 204 0).trans ((up_j hU15 (by decide) 204 0).trans (up_f hU13)))))))))
        have e41 : U31 204 0 8 = 1 := (up_j hU31 (by decide) 204 0).trans ((up_j hU29 (by decide) 204 0).trans ((up_j hU27 (by decide) 204 0).trans ((up_j hU25 (by decide) 204 0).trans ((up_j hU23 (by decide) 204 0).trans ((up_j hU21 (by decide) 204 0).trans ((up_j hU19 (by decide) 204 0).trans ((up_j hU17 (by decide) 204 0).trans (up_f hU15))))))))
        have e42 : U31 204 0 9 = 2 := (up_j hU31 (by decide) 204 0).trans ((up_j hU29 (by decide) 204 0).trans ((up_j hU27 (by decide) 204 0).trans ((up_j hU25 (by decide) 204 0).trans ((up_j hU23 (by decide) 204 0).trans ((up_j hU21 (by decide) 204 0).trans ((up_j hU19 (by decide) 204 0).trans (up_f hU17)))))))
        have e43 : U31 204 0 10 = 2 := (up_j hU31 (by decide) 204 0).trans ((up_j hU29 (by decide) 204 0).trans ((up_j hU27 (by decide) 204 0).trans ((up_j hU25 (by decide) 204 0).trans ((up_j hU23 (by decide) 204 0).trans ((up_j hU21 (by decide) 204 0).trans (up_f hU19))))))
        have e44 : U31 204 0 11 = 3 := (up_j hU31 (by decide) 204 0).trans ((up_j hU29 (by decide) 204 0).trans ((up_j hU27 (by decide) 204 0).trans ((up_j hU25 (by decide) 204 0).trans ((up_j hU23 (by decide) 204 0).trans (up_f hU21)))))
        have e45 : U31 204 0 12 = 3 := (up_j hU31 (by decide) 204 0).trans ((up_j hU29 (by decide) 204 0).trans ((up_j hU27 (by decide) 204 0).trans ((up_j hU25 (by decide) 204 0).trans (up_f hU23))))
        have e46 : U31 204 0 13 = 3 := (up_j hU31 (by decide) 204 0).trans ((up_j hU29 (by decide) 204 0).trans ((up_j hU27 (by decide) 204 0).trans (up_f hU25)))
        have e47 : U31 204 0 14 = 1 := (up_j hU31 (by decide) 204 0).trans ((up_j hU29 (by decide) 204 0).trans (up_f hU27))
        have e48 : U31 204 0 15 = T1 204 0 15 := (up_j hU31 (by decide) 204 0).trans ((up_j hU29 (by decide) 204 0).trans ((up_j hU27 (by decide) 204 0).trans ((up_j hU25 (by decide) 204 0).trans ((up_j hU23 (by decide) 204 0).trans ((up_j hU21 (by decide) 204 0).trans ((up_j hU19 (by decide) 204 0).trans ((up_j hU17 (by decide) 204 0).trans ((up_j hU15 (by decide) 204 0).trans ((up_j hU13 (by decide) 204 0).trans ((up_j hU11 (by decide) 204 0).trans ((up_j hU9 (by decide) 204 0).trans ((up_j hU7 (by decide) 204 0).trans (up_j hU5 (by decide) 204 0)))))))))))))
        have e49 : U31 204 0 16 = 0 := (up_j hU31 (by decide) 204 0).trans (up_f hU29)
        have e50 : U31 204 0 17 = 1 := up_f hU31
        have e51 : U31 204 0 18 = T1 204 0 18 := (up_j hU31 (by decide) 204 0).trans ((up_j hU29 (by decide) 204 0).trans ((up_j hU27 (by decide) 204 0).trans ((up_j hU25 (by decide) 204 0).trans ((up_j hU23 (by decide) 204 0).trans ((up_j hU21 (by decide) 204 0).trans ((up_j hU19 (by decide) 204 0).trans ((up_j hU17 (by decide) 204 0).trans ((up_j hU15 (by decide) 204 0).trans ((up_j hU13 (by decide) 204 0).trans ((up_j hU11 (by decide) 204 0).trans ((up_j hU9 (by decide) 204 0).trans ((up_j hU7 (by decide) 204 0).trans (up_j hU5 (by decide) 204 0)))))))))))))
        have e52 : U31 204 0 19 = T1 204 0 19 := (up_j hU31 (by decide) 204 0).trans ((up_j hU29 (by decide) 204 0).trans ((up_j hU27 (by decide) 204 0).trans ((up_j hU25 (by decide) 204 0).trans ((up_j hU23 (by decide) 204 0).trans ((up_j hU21 (by decide) 204 0).trans ((up_j hU19 (by decide) 204 0).trans ((up_j hU17 (by decide) 204 0).trans ((up_j hU15 (by decide) 204 0).trans ((up_j hU13 (by decide) 204 0).trans ((up_j hU11 (by decide) 204 0).trans ((up_j hU9 (by decide) 204 0).trans ((up_j hU7 (by decide) 204 0).trans (up_j hU5 (by decide) 204 0)))))))))))))
        have e53 : U31 204 0 20 = T1 204 0 20 := (up_j hU31 (by decide) 204 0).trans ((up_j hU29 (by decide) 204 0).trans ((up_j hU27 (by decide) 204 0).trans ((up_j hU25 (by decide) 204 0).trans ((up_j hU23 (by decide) 204 0).trans ((up_j hU21 (by decide) 204 0).trans ((up_j hU19 (by decide) 204 0).trans ((up_j hU17 (by decide) 204 0).trans ((up_j hU15 (by decide) 204 0).trans ((up_j hU13 (by decide) 204 0).trans ((up_j hU11 (by decide) 204 0).trans ((up_j hU9 (by decide) 204 0).trans ((up_j hU7 (by decide) 204 0).trans (up_j hU5 (by decide) 204 0)))))))))))))
        have e54 : U31 204 0 21 = T1 204 0 21 := (up_j hU31 (by decide) 204 0).trans ((up_j hU29 (by decide) 204 0).trans ((up_j hU27 (by decide) 204 0).trans ((up_j hU25 (by decide) 204 0).trans ((up_j hU23 (by decide) 204 0).trans ((up_j hU21 (by decide) 204 0).trans ((up_j hU19 (by decide) 204 0).trans ((up_j hU17 (by decide) 204 0).trans ((up_j hU15 (by decide) 204 0).trans ((up_j hU13 (by decide) 204 0).trans ((up_j hU11 (by decide) 204 0).trans ((up_j hU9 (by decide) 204 0).trans ((up_j hU7 (by decide) 204 0).trans (up_j hU5 (by decide) 204 0)))))))))))))
        have e55 : U31 204 0 22 = T1 204 0 22 := (up_j hU31 (by decide) 204 0).trans ((up_j hU29 (by decide) 204 0).trans ((up_j hU27 (by decide) 204 0).trans ((up_j hU25 (by decide) 204 0).trans ((up_j hU23 (by decide) 204 0).trans ((up_j hU21 (by decide) 204 0).trans ((up_j hU19 (by decide) 204 0).trans ((up_j hU17 (by decide) 204 0).trans ((up_j hU15 (by decide) 204 0).trans ((up_j hU13 (by decide) 204 0).trans ((up_j hU11 (by decide) 204 0).trans ((up_j hU9 (by decide) 204 0).trans ((up_j hU7 (by decide) 204 0).trans (up_j hU5 (by decide) 204 0)))))))))))))
        · intro w h1 h2
          rcases (by omega : w = 0 ∨ w = 1 ∨ w = 2 ∨ w = 3 ∨ w = 4 ∨ w = 5 ∨ w = 6 ∨ w = 7 ∨ w = 8 ∨ w = 9 ∨ w = 10 ∨ w = 11 ∨ w = 12 ∨ w = 13 ∨ w = 14 ∨ w = 15 ∨ w = 16 ∨ w = 17 ∨ w = 18 ∨ w = 19 ∨ w = 20 ∨ w = 21 ∨ w = 22) with rfl | rfl | rfl | rfl | rfl | rfl | rfl | rfl | rfl | rfl | rfl | rfl | rfl | rfl | rfl | rfl | rfl | rfl | rfl | rfl | rfl | rfl | rfl
          · rw [show dv9_ 0 = 0 by decide +kernel]
            have z := l1 0 (by omega) (by omega)
            have z2 := l2 0 (by omega) (by omega)
            omega
          · rw [show dv9_ 1 = 3 by decide +kernel]
            have z := l1 1 (by omega) (by omega)
            have z2 := l2 1 (by omega) (by omega)
            omega
          · rw [show dv9_ 2 = 1 by decide +kernel]
            have z := l1 2 (by omega) (by omega)
            have z2 := l2 2 (by omega) (by omega)
            omega
          · rw [show dv9_ 3 = 0 by decide +kernel]
            have z := l1 3 (by omega) (by omega)
            have z2 := l2 3 (by omega) (by omega)
            omega
          · rw [show dv9_ 4 = 2 by decide +kernel]
            have z := l1 4 (by omega) (by omega)
            have z2 := l2 4 (by omega) (by omega)
            omega
          · rw [show dv9_ 5 = 0 by decide +kernel]
            have z := l1 5 (by omega) (by omega)
            have z2 := l2 5 (by omega) (by omega)
            omega
          · rw [show dv9_ 6 = 1 by decide +kernel]
            have z := l1 6 (by omega) (by omega)
            have z2 := l2 6 (by omega) (by omega)
            omega
          · rw [show dv9_ 7 = 7 by decide +kernel]
            have z := l1 7 (by omega) (by omega)
            have z2 := l2 7 (by omega) (by omega)
            omega
          · rw [show dv9_ 8 = 1 by decide +kernel]
            have z := l1 8 (by omega) (by omega)
            have z2 := l2 8 (by omega) (by omega)
            omega
          · rw [show dv9_ 9 = 2 by decide +kernel]
            have z := l1 9 (by omega) (by omega)
            have z2 := l2 9 (by omega) (by omega)
            omega
          · rw [show dv9_ 10 = 2 by decide +kernel]
            have z := l1 10 (by omega) (by omega)
            have z2 := l2 10 (by omega) (by omega)
            omega
          · rw [show dv9_ 11 = 3 by decide +kernel]
            have z := l1 11 (by omega) (by omega)
            have z2 := l2 11 (by omega) (by omega)
            omega
          · rw [show dv9_ 12 = 3 by decide +kernel]
            have z := l1 12 (by omega) (by omega)
            have z2 := l2 12 (by omega) (by omega)
            omega
          · rw [show dv9_ 13 = 3 by decide +kernel]
            have z := l1 13 (by omega) (by omega)
            have z2 := l2 13 (by omega) (by omega)
            omega
          · rw [show dv9_ 14 = 1 by decide +kernel]
            have z := l1 14 (by omega) (by omega)
            have z2 := l2 14 (by omega) (by omega)
            omega
          · rw [show dv9_ 15 = 0 by decide +kernel]
            have z := l1 15 (by omega) (by omega)
            have z2 := l2 15 (by omega) (by omega)
            omega
          · rw [show dv9_ 16 = 0 by decide +kernel]
            have z := l1 16 (by omega) (by omega)
            have z2 := l2 16 (by omega) (by omega)
            omega
          · rw [show dv9_ 17 = 1 by decide +kernel]
            have z := l1 17 (by omega) (by omega)
            have z2 := l2 17 (by omega) (by omega)
            omega
          · rw [show dv9_ 18 = (-1) by decide +kernel]
            have z := l1 18 (by omega) (by omega)
            have z2 := l2 18 (by omega) (by omega)
            omega
          · rw [show dv9_ 19 = (-1) by decide +kernel]
            have z := l1 19 (by omega) (by omega)
            have z2 := l2 19 (by omega) (by omega)
            omega
          · rw [show dv9_ 20 = (-1) by decide +kernel]
            have z := l1 20 (by omega) (by omega)
            have z2 := l2 20 (by omega) (by omega)
            omega
          · rw [show dv9_ 21 = (-1) by decide +kernel]
            have z := l1 21 (by omega) (by omega)
            have z2 := l2 21 (by omega) (by omega)
            omega
          · rw [show dv9_ 22 = (-1) by decide +kernel]
            have z := l1 22 (by omega) (by omega)
            have z2 := l2 22 (by omega) (by omega)
            omega
        · intro j a b; omega
      · refine And.intro (fun c56 => ?_) (fun c56 => ?_)
        · refine hK 23 [some (vR 111 0), some (vI k)] [vI k, vR 204 0] T1 ?_
          refine j_blx (F := fX11) tb_X11 (nn_ _) bk_X11_layDefaults_e_23 bs_X11_layDefaults_e_23 hz (fun K hK => ?_)
          refine iy_i (by omega) (by omega) ?_
          refine x_nm (fun U57 hU57 => ?_)
          have e58 := up_f hU57
          refine rg_i (by omega) ?_
          refine hK 2 [some (vR 111 0), some (vI (k + 1))] [] U57 ?_
          refine ih_2 _ ?_ (k + 1) U57 (Nat.le_refl _) ?_ ?_ ?_ ?_
          · have hm_2 := hm_2 (); omega
          · exact fr_u (fr_t (fr_0 _ _) (fr_s hf_2 rfl)) hU57 rfl
          · omega
          · intro j a b
            by_cases z : j = k
            · subst z; rw [up_f hU57]; omega
            · rw [up_g hU57 (by omega)]; exact l1 j a (by omega)
          · intro j a b
            by_cases z : j = k
            · subst z; rw [up_f hU57]; omega
            · rw [up_g hU57 (by omega)]; exact l2 j a (by omega)
        · refine hK 24 [some (vR 111 0), some (vI k)] [vI (-1), vI k, vR 204 0] T1 ?_
          refine j_blx (F := fX11) tb_X11 (nn_ _) bk_X11_layDefaults_e_24 bs_X11_layDefaults_e_24 hz (fun K hK => ?_)
          refine iy_i (by omega) (by omega) ?_
          refine x_nm (fun U59 hU59 => ?_)
          have e60 := up_f hU59
          refine rg_i (by omega) ?_
          refine hK 2 [some (vR 111 0), some (vI (k + 1))] [] U59 ?_
          refine ih_2 _ ?_ (k + 1) U59 (Nat.le_refl _) ?_ ?_ ?_ ?_
          · have hm_2 := hm_2 (); omega
          · exact fr_u (fr_t (fr_0 _ _) (fr_s hf_2 rfl)) hU59 rfl
          · omega
          · intro j a b
            by_cases z : j = k
            · subst z; rw [up_f hU59]; omega
            · rw [up_g hU59 (by omega)]; exact l1 j a (by omega)
          · intro j a b
            by_cases z : j = k
            · subst z; rw [up_f hU59]; omega
            · rw [up_g hU59 (by omega)]; exact l2 j a (by omega)
  refine j_blx (F := fX11) tb_X11 (nn_ _) bk_X11_layDefaults_e_0 bs_X11_layDefaults_e_0 hz (fun K hK => ?_)
  refine hK 2 [some (vR 111 0), some (vI 0)] [] T ?_
  refine c_2 _ 0 T (Nat.le_refl _) ?_ ?_ ?_ ?_
  · exact fr_0 _ _
  · omega
  · intro j a b; omega
  · intro j a b; omega
theorem bk_X11_readStatement_e_0 : ck_ fX11 none cX11_readStatement 0 [.aload 0, .tableswitch 0 11 58 #[], .iconst 1, .if_icmp .eq 17, .aload 0, .iconst 2, .aload 0, .tableswitch 0 11 59 #[]] 14 = true := qck_r (nn_ _) (by decide +kernel)
theorem bs_X11_readStatement_e_0 {P : Zt → Option Zv → Prop} (K : Int → Zl → List Zv → Zt → Prop) : sx_ K P [.aload 0, .tableswitch 0 11 58 #[], .iconst 1, .if_icmp .eq 17, .aload 0, .iconst 2, .aload 0, .tableswitch 0 11 59 #[]] 14 = x_aload 0 (x_g0 111 58 0 4 (x_iconst 1 (x_if_icmp .eq 17 K (x_aload 0 (x_iconst 2 (x_aload 0 (x_g0 111 59 0 400 (K 14)))))))) := ((xe_aload 0).trans (congrArg (x_aload 0) ((xe_g0 (kk := 111) rfl tl_11_58).trans (congrArg (x_g0 111 58 0 4) ((xe_iconst 1).trans (congrArg (x_iconst 1) ((xe_if_icmp .eq 17).trans (congrArg (x_if_icmp .eq 17 K) ((xe_aload 0).trans (congrArg (x_aload 0) ((xe_iconst 2).trans (congrArg (x_iconst 2) ((xe_aload 0).trans (congrArg (x_aload 0) ((xe_g0 (kk := 111) rfl tl_11_59).trans (congrArg (x_g0 111 59 0 400) xe_nil))))))))))))))))
theorem bk_X11_readStatement_e_17 : ck_ fX11 none cX11_readStatement 17 [.aload 0, .tableswitch 0 11 62 #[], .ifCond .ne 35, .aload 0, .aload 0, .tableswitch 0 11 64 #[]] 29 = true := qck_r (nn_ _) (by decide +kernel)
theorem bs_X11_readStatement_e_17 {P : Zt → Option Zv → Prop} (K : Int → Zl → List Zv → Zt → Prop) : sx_ K P [.aload 0, .tableswitch 0 11 62 #[], .ifCond .ne 35, .aload 0, .aload 0, .tableswitch 0 11 64 #[]] 29 = x_aload 0 (x_g0 111 62 0 5 (x_ifCond .ne 35 K (x_aload 0 (x_aload 0 (x_g1 111 264 (K 29)))))) := ((xe_aload 0).trans (congrArg (x_aload 0) ((xe_g0 (kk := 111) rfl tl_11_62).trans (congrArg (x_g0 111 62 0 5) ((xe_ifCond .ne 35).trans (congrArg (x_ifCond .ne 35 K) ((xe_aload 0).trans (congrArg (x_aload 0) ((xe_aload 0).trans (congrArg (x_aload 0) ((xe_g1 (kk := 111) rfl tl_11_64).trans (congrArg (x_g1 111 264) xe_nil))))))))))))
theorem bk_X11_readStatement_e_32 : ck_ fX11 none cX11_readStatement 32 [.goto 36] 35 = true := qck_r (nn_ _) (by decide +kernel)
theorem bs_X11_readStatement_e_32 {P : Zt → Option Zv → Prop} (K : Int → Zl → List Zv → Zt → Prop) : sx_ K P [.goto 36] 35 = x_goto 36 K := (xe_goto 36)
theorem bk_X11_readStatement_e_36 : ck_ fX11 none cX11_readStatement 36 [.istore 1, .aload 0, .tableswitch 0 11 62 #[], .ifCond .ne 58, .iload 1, .iconst (-1), .if_icmp .ne 58, .aload 0, .iconst 3, .aload 0, .tableswitch 0 11 59 #[]] 55 = true := qck_r (nn_ _) (by decide +kernel)
theorem bs_X11_readStatement_e_36 {P : Zt → Option Zv → Prop} (K : Int → Zl → List Zv → Zt → Prop) : sx_ K P [.istore 1, .aload 0, .tableswitch 0 11 62 #[], .ifCond .ne 58, .iload 1, .iconst (-1), .if_icmp .ne 58, .aload 0, .iconst 3, .aload 0, .tableswitch 0 11 59 #[]] 55 = x_istore 1 (x_aload 0 (x_g0 111 62 0 5 (x_ifCond .ne 58 K (x_iload 1 (x_iconst (-1) (x_if_icmp .ne 58 K (x_aload 0 (x_iconst 3 (x_aload 0 (x_g0 111 59 0 400 (K 55))))))))))) := ((xe_istore 1).trans (congrArg (x_istore 1) ((xe_aload 0).trans (congrArg (x_aload 0) ((xe_g0 (kk := 111) rfl tl_11_62).trans (congrArg (x_g0 111 62 0 5) ((xe_ifCond .ne 58).trans (congrArg (x_ifCond .ne 58 K) ((xe_iload 1).trans (congrArg (x_iload 1) ((xe_iconst (-1)).trans (congrArg (x_iconst (-1)) ((xe_if_icmp .ne 58).trans (congrArg (x_if_icmp .ne 58 K) ((xe_aload 0).trans (congrArg (x_aload 0) ((xe_iconst 3).trans (congrArg (x_iconst 3) ((xe_aload 0).trans (congrArg (x_aload 0) ((xe_g0 (kk := 111) rfl tl_11_59).trans (congrArg (x_g0 111 59 0 400) xe_nil))))))))))))))))))))))
theorem bk_X11_readStatement_e_58 : ck_ fX11 none cX11_readStatement 58 [.aload 0, .tableswitch 0 11 62 #[], .ifCond .ne 83, .aload 0, .tableswitch 0 11 69 #[], .iload 1, .baload, .ifCond .eq 83, .aload 0, .iconst 5, .aload 0, .tableswitch 0 11 59 #[]] 80 = true := qck_r (nn_ _) (by decide +kernel)
theorem bs_X11_readStatement_e_58 {P : Zt → Option Zv → Prop} (K : Int → Zl → List Zv → Zt → Prop) : sx_ K P [.aload 0, .tableswitch 0 11 62 #[], .ifCond .ne 83, .aload 0, .tableswitch 0 11 69 #[], .iload 1, .baload, .ifCond .eq 83, .aload 0, .iconst 5, .aload 0, .tableswitch 0 11 59 #[]] 80 = x_aload 0 (x_g0 111 62 0 5 (x_ifCond .ne 83 K (x_aload 0 (x_g1 111 269 (x_iload 1 (x_baload (x_ifCond .eq 83 K (x_aload 0 (x_iconst 5 (x_aload 0 (x_g0 111 59 0 400 (K 80)))))))))))) := ((xe_aload 0).trans (congrArg (x_aload 0) ((xe_g0 (kk := 111) rfl tl_11_62).trans (congrArg (x_g0 111 62 0 5) ((xe_ifCond .ne 83).trans (congrArg (x_ifCond .ne 83 K) ((xe_aload 0).trans (congrArg (x_aload 0) ((xe_g1 (kk := 111) rfl tl_11_69).trans (congrArg (x_g1 111 269) ((xe_iload 1).trans (congrArg (x_iload 1) ((xe_baload).trans (congrArg (x_baload) ((xe_ifCond .eq 83).trans (congrArg (x_ifCond .eq 83 K) ((xe_aload 0).trans (congrArg (x_aload 0) ((xe_iconst 5).trans (congrArg (x_iconst 5) ((xe_aload 0).trans (congrArg (x_aload 0) ((xe_g0 (kk := 111) rfl tl_11_59).trans (congrArg (x_g0 111 59 0 400) xe_nil))))))))))))))))))))))))
theorem bk_X11_readStatement_e_83 : ck_ fX11 none cX11_readStatement 83 [.aload 0, .tableswitch 0 11 62 #[], .ifCond .eq 91, .return_] 91 = true := qck_r (nn_ _) (by decide +kernel)
theorem bs_X11_readStatement_e_83 {P : Zt → Option Zv → Prop} (K : Int → Zl → List Zv → Zt → Prop) : sx_ K P [.aload 0, .tableswitch 0 11 62 #[], .ifCond .eq 91, .return_] 91 = x_aload 0 (x_g0 111 62 0 5 (x_ifCond .eq 91 K (x_return_ P))) := ((xe_aload 0).trans (congrArg (x_aload 0) ((xe_g0 (kk := 111) rfl tl_11_62).trans (congrArg (x_g0 111 62 0 5) ((xe_ifCond .eq 91).trans (congrArg (x_ifCond .eq 91 K) (xe_return_)))))))
theorem bk_X11_readStatement_e_91 : ck_ fX11 none cX11_readStatement 91 [.aload 0, .tableswitch 0 11 69 #[], .iload 1, .iconst 1, .bastore, .iload 1, .iconst 2, .if_icmp .ne 108, .aload 0] 104 = true := qck_r (nn_ _) (by decide +kernel)
theorem bs_X11_readStatement_e_91 {P : Zt → Option Zv → Prop} (K : Int → Zl → List Zv → Zt → Prop) : sx_ K P [.aload 0, .tableswitch 0 11 69 #[], .iload 1, .iconst 1, .bastore, .iload 1, .iconst 2, .if_icmp .ne 108, .aload 0] 104 = x_aload 0 (x_g1 111 269 (x_iload 1 (x_iconst 1 (x_bastore (x_iload 1 (x_iconst 2 (x_if_icmp .ne 108 K (x_aload 0 (K 104))))))))) := ((xe_aload 0).trans (congrArg (x_aload 0) ((xe_g1 (kk := 111) rfl tl_11_69).trans (congrArg (x_g1 111 269) ((xe_iload 1).trans (congrArg (x_iload 1) ((xe_iconst 1).trans (congrArg (x_iconst 1) ((xe_bastore).trans (congrArg (x_bastore) ((xe_iload 1).trans (congrArg (x_iload 1) ((xe_iconst 2).trans (congrArg (x_iconst 2) ((xe_if_icmp .ne 108).trans (congrArg (x_if_icmp .ne 108 K) ((xe_aload 0).trans (congrArg (x_aload 0) xe_nil))))))))))))))))))
theorem bk_X11_readStatement_e_108 : ck_ fX11 none cX11_readStatement 108 [.iload 1, .ifCond .ne 119, .aload 0] 113 = true := qck_r (nn_ _) (by decide +kernel)
theorem bs_X11_readStatement_e_108 {P : Zt → Option Zv → Prop} (K : Int → Zl → List Zv → Zt → Prop) : sx_ K P [.iload 1, .ifCond .ne 119, .aload 0] 113 = x_iload 1 (x_ifCond .ne 119 K (x_aload 0 (K 113))) := ((xe_iload 1).trans (congrArg (x_iload 1) ((xe_ifCond .ne 119).trans (congrArg (x_ifCond .ne 119 K) ((xe_aload 0).trans (congrArg (x_aload 0) xe_nil))))))
theorem bk_X11_readStatement_e_119 : ck_ fX11 none cX11_readStatement 119 [.iload 1, .iconst 1, .if_icmp .ne 159, .aload 0, .iconst 0, .iconst 9, .iconst 1] 129 = true := qck_r (nn_ _) (by decide +kernel)
theorem bs_X11_readStatement_e_119 {P : Zt → Option Zv → Prop} (K : Int → Zl → List Zv → Zt → Prop) : sx_ K P [.iload 1, .iconst 1, .if_icmp .ne 159, .aload 0, .iconst 0, .iconst 9, .iconst 1] 129 = x_iload 1 (x_iconst 1 (x_if_icmp .ne 159 K (x_aload 0 (x_iconst 0 (x_iconst 9 (x_iconst 1 (K 129))))))) := ((xe_iload 1).trans (congrArg (x_iload 1) ((xe_iconst 1).trans (congrArg (x_iconst 1) ((xe_if_icmp .ne 159).trans (congrArg (x_if_icmp .ne 159 K) ((xe_aload 0).trans (congrArg (x_aload 0) ((xe_iconst 0).trans (congrArg (x_iconst 0) ((xe_iconst 9).trans (congrArg (x_iconst 9) ((xe_iconst 1).trans (congrArg (x_iconst 1) xe_nil))))))))))))))
theorem bk_X11_readStatement_e_159 : ck_ fX11 none cX11_readStatement 159 [.iload 1, .iconst 3, .if_icmp .ne 174, .aload 0, .tableswitch 0 11 4 #[], .iconst 5, .iconst 1, .iastore, .goto 200] 174 = true := qck_r (nn_ _) (by decide +kernel)
theorem bs_X11_readStatement_e_159 {P : Zt → Option Zv → Prop} (K : Int → Zl → List Zv → Zt → Prop) : sx_ K P [.iload 1, .iconst 3, .if_icmp .ne 174, .aload 0, .tableswitch 0 11 4 #[], .iconst 5, .iconst 1, .iastore, .goto 200] 174 = x_iload 1 (x_iconst 3 (x_if_icmp .ne 174 K (x_aload 0 (x_g1 111 204 (x_iconst 5 (x_iconst 1 (x_iastore (x_goto 200 K)))))))) := ((xe_iload 1).trans (congrArg (x_iload 1) ((xe_iconst 3).trans (congrArg (x_iconst 3) ((xe_if_icmp .ne 174).trans (congrArg (x_if_icmp .ne 174 K) ((xe_aload 0).trans (congrArg (x_aload 0) ((xe_g1 (kk := 111) rfl tl_11_4).trans (congrArg (x_g1 111 204) ((xe_iconst 5).trans (congrArg (x_iconst 5) ((xe_iconst 1).trans (congrArg (x_iconst 1) ((xe_iastore).trans (congrArg (x_iastore) (xe_goto 200)))))))))))))))))
theorem bk_X11_readStatement_e_174 : ck_ fX11 none cX11_readStatement 174 [.aload 0, .aload 0, .tableswitch 0 11 67 #[], .iload 1, .iconst 4, .isub, .iaload, .aload 0, .tableswitch 0 11 68 #[], .iload 1, .iconst 4, .isub, .iaload, .iconst 6, .iload 1, .iadd, .iconst 4, .isub] 197 = true := qck_r (nn_ _) (by decide +kernel)
theorem bs_X11_readStatement_e_174 {P : Zt → Option Zv → Prop} (K : Int → Zl → List Zv → Zt → Prop) : sx_ K P [.aload 0, .aload 0, .tableswitch 0 11 67 #[], .iload 1, .iconst 4, .isub, .iaload, .aload 0, .tableswitch 0 11 68 #[], .iload 1, .iconst 4, .isub, .iaload, .iconst 6, .iload 1, .iadd, .iconst 4, .isub] 197 = x_aload 0 (x_aload 0 (x_g1 111 267 (x_iload 1 (x_iconst 4 (x_isub (x_iaload (x_aload 0 (x_g1 111 268 (x_iload 1 (x_iconst 4 (x_isub (x_iaload (x_iconst 6 (x_iload 1 (x_iadd (x_iconst 4 (x_isub (K 197)))))))))))))))))) := ((xe_aload 0).trans (congrArg (x_aload 0) ((xe_aload 0).trans (congrArg (x_aload 0) ((xe_g1 (kk := 111) rfl tl_11_67).trans (congrArg (x_g1 111 267) ((xe_iload 1).trans (congrArg (x_iload 1) ((xe_iconst 4).trans (congrArg (x_iconst 4) ((xe_isub).trans (congrArg (x_isub) ((xe_iaload).trans (congrArg (x_iaload) ((xe_aload 0).trans (congrArg (x_aload 0) ((xe_g1 (kk := 111) rfl tl_11_68).trans (congrArg (x_g1 111 268) ((xe_iload 1).trans (congrArg (x_iload 1) ((xe_iconst 4).trans (congrArg (x_iconst 4) ((xe_isub).trans (congrArg (x_isub) ((xe_iaload).trans (congrArg (x_iaload) ((xe_iconst 6).trans (congrArg (x_iconst 6) ((xe_iload 1).trans (congrArg (x_iload 1) ((xe_iadd).trans (congrArg (x_iadd) ((xe_iconst 4).trans (congrArg (x_iconst 4) ((xe_isub).trans (congrArg (x_isub) xe_nil))))))))))))))))))))))))))))))))))))
theorem bk_X11_readStatement_e_200 : ck_ fX11 none cX11_readStatement 200 [.aload 0, .tableswitch 0 11 62 #[], .ifCond .ne 235, .aload 0] 208 = true := qck_r (nn_ _) (by decide +kernel)
theorem bs_X11_readStatement_e_200 {P : Zt → Option Zv → Prop} (K : Int → Zl → List Zv → Zt → Prop) : sx_ K P [.aload 0, .tableswitch 0 11 62 #[], .ifCond .ne 235, .aload 0] 208 = x_aload 0 (x_g0 111 62 0 5 (x_ifCond .ne 235 K (x_aload 0 (K 208)))) := ((xe_aload 0).trans (congrArg (x_aload 0) ((xe_g0 (kk := 111) rfl tl_11_62).trans (congrArg (x_g0 111 62 0 5) ((xe_ifCond .ne 235).trans (congrArg (x_ifCond .ne 235 K) ((xe_aload 0).trans (congrArg (x_aload 0) xe_nil))))))))
theorem bk_X11_readStatement_e_235 : ck_ fX11 none cX11_readStatement 235 [.return_] 236 = true := qck_r (nn_ _) (by decide +kernel)
theorem bs_X11_readStatement_e_235 {P : Zt → Option Zv → Prop} (K : Int → Zl → List Zv → Zt → Prop) : sx_ K P [.return_] 236 = x_return_ P := (xe_return_)
theorem bk_X11_readStatement_e_211 : ck_ fX11 none cX11_readStatement 211 [.aload 0, .tableswitch 0 11 62 #[], .ifCond .ne 235, .aload 0, .tableswitch 0 11 58 #[], .iconst 3, .if_icmp .eq 235, .aload 0, .iconst 2, .aload 0, .tableswitch 0 11 59 #[]] 232 = true := qck_r (nn_ _) (by decide +kernel)
theorem bs_X11_readStatement_e_211 {P : Zt → Option Zv → Prop} (K : Int → Zl → List Zv → Zt → Prop) : sx_ K P [.aload 0, .tableswitch 0 11 62 #[], .ifCond .ne 235, .aload 0, .tableswitch 0 11 58 #[], .iconst 3, .if_icmp .eq 235, .aload 0, .iconst 2, .aload 0, .tableswitch 0 11 59 #[]] 232 = x_aload 0 (x_g0 111 62 0 5 (x_ifCond .ne 235 K (x_aload 0 (x_g0 111 58 0 4 (x_iconst 3 (x_if_icmp .eq 235 K (x_aload 0 (x_iconst 2 (x_aload 0 (x_g0 111 59 0 400 (K 232))))))))))) := ((xe_aload 0).trans (congrArg (x_aload 0) ((xe_g0 (kk := 111) rfl tl_11_62).trans (congrArg (x_g0 111 62 0 5) ((xe_ifCond .ne 235).trans (congrArg (x_ifCond .ne 235 K) ((xe_aload 0).trans (congrArg (x_aload 0) ((xe_g0 (kk := 111) rfl tl_11_58).trans (congrArg (x_g0 111 58 0 4) ((xe_iconst 3).trans (congrArg (x_iconst 3) ((xe_if_icmp .eq 235).trans (congrArg (x_if_icmp .eq 235 K) ((xe_aload 0).trans (congrArg (x_aload 0) ((xe_iconst 2).trans (congrArg (x_iconst 2) ((xe_aload 0).trans (congrArg (x_aload 0) ((xe_g0 (kk := 111) rfl tl_11_59).trans (congrArg (x_g0 111 59 0 400) xe_nil))))))))))))))))))))))
theorem bk_X11_readStatement_e_132 : ck_ fX11 none cX11_readStatement 132 [.aload 0, .iconst 0, .aload 0, .tableswitch 0 11 4 #[], .iconst 1, .iaload, .iconst 2] 141 = true := qck_r (nn_ _) (by decide +kernel)
theorem bs_X11_readStatement_e_132 {P : Zt → Option Zv → Prop} (K : Int → Zl → List Zv → Zt → Prop) : sx_ K P [.aload 0, .iconst 0, .aload 0, .tableswitch 0 11 4 #[], .iconst 1, .iaload, .iconst 2] 141 = x_aload 0 (x_iconst 0 (x_aload 0 (x_g1 111 204 (x_iconst 1 (x_iaload (x_iconst 2 (K 141))))))) := ((xe_aload 0).trans (congrArg (x_aload 0) ((xe_iconst 0).trans (congrArg (x_iconst 0) ((xe_aload 0).trans (congrArg (x_aload 0) ((xe_g1 (kk := 111) rfl tl_11_4).trans (congrArg (x_g1 111 204) ((xe_iconst 1).trans (congrArg (x_iconst 1) ((xe_iaload).trans (congrArg (x_iaload) ((xe_iconst 2).trans (congrArg (x_iconst 2) xe_nil))))))))))))))
theorem bk_X11_readStatement_e_144 : ck_ fX11 none cX11_readStatement 144 [.aload 0, .iconst 0, .aload 0, .tableswitch 0 11 4 #[], .iconst 2, .iaload, .iconst 3] 153 = true := qck_r (nn_ _) (by decide +kernel)
theorem bs_X11_readStatement_e_144 {P : Zt → Option Zv → Prop} (K : Int → Zl → List Zv → Zt → Prop) : sx_ K P [.aload 0, .iconst 0, .aload 0, .tableswitch 0 11 4 #[], .iconst 2, .iaload, .iconst 3] 153 = x_aload 0 (x_iconst 0 (x_aload 0 (x_g1 111 204 (x_iconst 2 (x_iaload (x_iconst 3 (K 153))))))) := ((xe_aload 0).trans (congrArg (x_aload 0) ((xe_iconst 0).trans (congrArg (x_iconst 0) ((xe_aload 0).trans (congrArg (x_aload 0) ((xe_g1 (kk := 111) rfl tl_11_4).trans (congrArg (x_g1 111 204) ((xe_iconst 2).trans (congrArg (x_iconst 2) ((xe_iaload).trans (congrArg (x_iaload) ((xe_iconst 3).trans (congrArg (x_iconst 3) xe_nil))))))))))))))
theorem bk_X11_readStatement_e_156 : ck_ fX11 none cX11_readStatement 156 [.goto 200] 159 = true := qck_r (nn_ _) (by decide +kernel)
theorem bs_X11_readStatement_e_156 {P : Zt → Option Zv → Prop} (K : Int → Zl → List Zv → Zt → Prop) : sx_ K P [.goto 200] 159 = x_goto 200 K := (xe_goto 200)
theorem bk_X11_readStatement_e_116 : ck_ fX11 none cX11_readStatement 116 [.goto 200] 119 = true := qck_r (nn_ _) (by decide +kernel)
theorem bs_X11_readStatement_e_116 {P : Zt → Option Zv → Prop} (K : Int → Zl → List Zv → Zt → Prop) : sx_ K P [.goto 200] 119 = x_goto 200 K := (xe_goto 200)
theorem bk_X11_readStatement_e_107 : ck_ fX11 none cX11_readStatement 107 [.return_] 108 = true := qck_r (nn_ _) (by decide +kernel)
theorem bs_X11_readStatement_e_107 {P : Zt → Option Zv → Prop} (K : Int → Zl → List Zv → Zt → Prop) : sx_ K P [.return_] 108 = x_return_ P := (xe_return_)
theorem bk_X11_readStatement_e_35 : ck_ fX11 none cX11_readStatement 35 [.iconst (-1), .istore 1, .aload 0, .tableswitch 0 11 62 #[], .ifCond .ne 58, .iload 1, .iconst (-1), .if_icmp .ne 58, .aload 0, .iconst 3, .aload 0, .tableswitch 0 11 59 #[]] 55 = true := qck_r (nn_ _) (by decide +kernel)
theorem bs_X11_readStatement_e_35 {P : Zt → Option Zv → Prop} (K : Int → Zl → List Zv → Zt → Prop) : sx_ K P [.iconst (-1), .istore 1, .aload 0, .tableswitch 0 11 62 #[], .ifCond .ne 58, .iload 1, .iconst (-1), .if_icmp .ne 58, .aload 0, .iconst 3, .aload 0, .tableswitch 0 11 59 #[]] 55 = x_iconst (-1) (x_istore 1 (x_aload 0 (x_g0 111 62 0 5 (x_ifCond .ne 58 K (x_iload 1 (x_iconst (-1) (x_if_icmp .ne 58 K (x_aload 0 (x_iconst 3 (x_aload 0 (x_g0 111 59 0 400 (K 55)))))))))))) := ((xe_iconst (-1)).trans (congrArg (x_iconst (-1)) ((xe_istore 1).trans (congrArg (x_istore 1) ((xe_aload 0).trans (congrArg (x_aload 0) ((xe_g0 (kk := 111) rfl tl_11_62).trans (congrArg (x_g0 111 62 0 5) ((xe_ifCond .ne 58).trans (congrArg (x_ifCond .ne 58 K) ((xe_iload 1).trans (congrArg (x_iload 1) ((xe_iconst (-1)).trans (congrArg (x_iconst (-1)) ((xe_if_icmp .ne 58).trans (congrArg (x_if_icmp .ne 58 K) ((xe_aload 0).trans (congrArg (x_aload 0) ((xe_iconst 3).trans (congrArg (x_iconst 3) ((xe_aload 0).trans (congrArg (x_aload 0) ((xe_g0 (kk := 111) rfl tl_11_59).trans (congrArg (x_g0 111 59 0 400) xe_nil))))))))))))))))))))))))
abbrev po_X11_readStatement_e (T : Zt) (a : Int) (t : Int → Int) (v : Int → Int) : Zt → Option Zv → Prop := fun T' r => r = none ∧ fr_ [(111, [57, 58, 59, 60, 61, 62, 63]), (204, []), (269, []), (270, [])] T T' ∧ ((T' 111 0 62 ≠ 0 ∧ stf9_ (cl9_ (T 111 0 1) (fun j => T 200 0 j)) (T 111 0 1) a t v = Sum.inl (T' 111 0 62, T' 111 0 63)) ∨ (T' 111 0 62 = 0 ∧ MS9_ (stf9_ (cl9_ (T 111 0 1) (fun j => T 200 0 j)) (T 111 0 1) a t v) T' ∧ T' 111 0 63 = T 111 0 63 ∧ T 111 0 60 ≤ T' 111 0 57 ∧ T' 111 0 57 ≤ T 111 0 1))
set_option maxHeartbeats 4000000 in
theorem ct_X11_readStatement_e {T : Zt} {a : Int} {t : Int → Int} {v : Int → Int} (h0 : 0 ≤ a) (hk : TK9_ (fun j => T 200 0 j) (T 111 0 1) a (T 111 0 59) (T 111 0 60) (T 111 0 58)) (h57 : T 111 0 57 = T 111 0 60) (h62 : T 111 0 62 = 0) (hC : CW_ T) (ht : TA9_ T t) (hv : VR9_ T v) : Ct_ yX11_readStatement zX11_readStatement T [vR 111 0] (po_X11_readStatement_e T a t v) := by
  refine ct_of pn_11 rfl rfl (Nat.le_of_ble_eq_true rfl) (fun hT hav => ?_)
  have hz : zX11_readStatement.2.2.2.1 = some .boolean → ∀ (T' : Zt) (x : Int), po_X11_readStatement_e T a t v T' (some (vI x)) → 0 ≤ x ∧ x ≤ 1 := fun h => by cases h
  have hb_1 : 0 ≤ T 111 0 1 ∧ T 111 0 1 ≤ 400 := bd_f hT 111 1 tl_11_1 0
  have hb_57 : 0 ≤ T 111 0 57 ∧ T 111 0 57 ≤ 400 := bd_f hT 111 57 tl_11_57 0
  have hb_58 : 0 ≤ T 111 0 58 ∧ T 111 0 58 ≤ 4 := bd_f hT 111 58 tl_11_58 0
  have tr := tk9_r hk
  show J_ zX11_readStatement T (po_X11_readStatement_e T a t v) 0 0 0 [some (vR 111 0), none] [] T
  refine j_blx (F := fX11) tb_X11 (nn_ _) bk_X11_readStatement_e_0 bs_X11_readStatement_e_0 hz (fun K hK => ?_)
  intro b1 b1b
  refine And.intro (fun c2 => ?_) (fun c2 => ?_)
  · refine hK 17 _ [] T ?_
    refine j_blx (F := fX11) tb_X11 (nn_ _) bk_X11_readStatement_e_17 bs_X11_readStatement_e_17 hz (fun K hK => ?_)
    intro b3 b3b
    refine And.intro (fun c4 => ?_) (fun c4 => ?_)
    · exfalso; omega
    · refine hK 29 _ [vR 264 0, vR 111 0] T ?_
      refine j_callV (y := yX11_whichOf) (Yc := zX11_whichOf) (rest := []) [vR 264 0] (ct_X11_whichOf_e0 (T := T) (by omega) (by exact hC)) cl_X11_294 (qd_c (by decide +kernel)) (nn_ _) rfl (rf_of rfl) (Nat.le_of_ble_eq_true rfl) (Nat.le_of_ble_eq_true rfl) (Nat.le_of_ble_eq_true rfl) rfl ?_
      rintro _ _ ⟨rfl, x5, rfl, hx5, wx5⟩
      show J_ zX11_readStatement T (po_X11_readStatement_e T a t v) 0 0 32 _ [vI x5] T
      refine j_blx (F := fX11) tb_X11 (nn_ _) bk_X11_readStatement_e_32 bs_X11_readStatement_e_32 hz (fun K hK => ?_)
      refine hK 36 _ [vI x5] T ?_
      refine j_blx (F := fX11) tb_X11 (nn_ _) bk_X11_readStatement_e_36 bs_X11_readStatement_e_36 hz (fun K hK => ?_)
      intro b6 b6b
      refine And.intro (fun c7 => ?_) (fun c7 => ?_)
      · exfalso; omega
      · refine And.intro (fun c8 => ?_) (fun c8 => ?_)
        · have hwi := wof9_0 ds9_0 hk h0 (by omega) wx5 (by omega)
          have htx := ht x5 (by omega) (by omega)
          refine hK 58 [some (vR 111 0), some (vI x5)] [] T ?_
          refine j_blx (F := fX11) tb_X11 (nn_ _) bk_X11_readStatement_e_58 bs_X11_readStatement_e_58 hz (fun K hK => ?_)
          intro b9 b9b
          refine And.intro (fun c10 => ?_) (fun c10 => ?_)
          · exfalso; omega
          · refine ix_i (by omega) ?_
            intro b11 b11b
            refine And.intro (fun c12 => ?_) (fun c12 => ?_)
            · have hx0 : t x5 = 0 := by omega
              refine hK 83 _ [] T ?_
              refine j_blx (F := fX11) tb_X11 (nn_ _) bk_X11_readStatement_e_83 bs_X11_readStatement_e_83 hz (fun K hK => ?_)
              intro b13 b13b
              refine And.intro (fun c14 => ?_) (fun c14 => ?_)
              · refine hK 91 _ [] T ?_
                refine j_blx (F := fX11) tb_X11 (nn_ _) bk_X11_readStatement_e_91 bs_X11_readStatement_e_91 hz (fun K hK => ?_)
                refine iy_i (by omega) (by omega) ?_
                refine x_nm (fun U15 hU15 => ?_)
                have e16 := up_f hU15
                have ta : TA9_ U15 (u9_ t x5 1) := ta9_s (T := T) (ht) (fun j hj => up_g hU15 (fun z => hj z.2.2)) (up_f hU15)
                have vr0 : VR9_ U15 v := VR9_f hv (show fr_ [(269, [])] T U15 from fr_u (fr_0 _ _) hU15 rfl) (fun _ => rfl)
                have e17 : U15 111 0 57 = T 111 0 57 := up_k hU15 (by exact Nat.ne_of_beq_eq_false rfl) 0 57
                have e18 : U15 111 0 62 = T 111 0 62 := up_k hU15 (by exact Nat.ne_of_beq_eq_false rfl) 0 62
                have e19 : U15 111 0 63 = T 111 0 63 := up_k hU15 (by exact Nat.ne_of_beq_eq_false rfl) 0 63
                have e20 : U15 111 0 1 = T 111 0 1 := up_k hU15 (by exact Nat.ne_of_beq_eq_false rfl) 0 1
                refine And.intro (fun c21 => ?_) (fun c21 => ?_)
                · refine hK 108 _ [] U15 ?_
                  refine j_blx (F := fX11) tb_X11 (nn_ _) bk_X11_readStatement_e_108 bs_X11_readStatement_e_108 hz (fun K hK => ?_)
                  refine And.intro (fun c22 => ?_) (fun c22 => ?_)
                  · refine hK 119 _ [] U15 ?_
                    refine j_blx (F := fX11) tb_X11 (nn_ _) bk_X11_readStatement_e_119 bs_X11_readStatement_e_119 hz (fun K hK => ?_)
                    refine And.intro (fun c23 => ?_) (fun c23 => ?_)
                    · refine hK 159 _ [] U15 ?_
                      refine j_blx (F := fX11) tb_X11 (nn_ _) bk_X11_readStatement_e_159 bs_X11_readStatement_e_159 hz (fun K hK => ?_)
                      refine And.intro (fun c24 => ?_) (fun c24 => ?_)
                      · refine hK 174 _ [] U15 ?_
                        refine j_blx (F := fX11) tb_X11 (nn_ _) bk_X11_readStatement_e_174 bs_X11_readStatement_e_174 hz (fun K hK => ?_)
                        refine rg_i (by omega) ?_
                        refine ix_i (by omega) ?_
                        intro b25 b25b
                        have e26 : U15 267 0 (x5 - 4) = T 267 0 (x5 - 4) := up_k hU15 (by exact Nat.ne_of_beq_eq_false rfl) 0 (x5 - 4)
                        rw [e26] at b25 b25b ⊢
                        have hl7 := hC.2.2.2.1 (x5 - 4) (by omega) (by omega)
                        refine rg_i (by omega) ?_
                        refine ix_i (by omega) ?_
                        intro b27 b27b
                        have e28 : U15 268 0 (x5 - 4) = T 268 0 (x5 - 4) := up_k hU15 (by exact Nat.ne_of_beq_eq_false rfl) 0 (x5 - 4)
                        rw [e28] at b27 b27b ⊢
                        have hl8 := hC.2.2.2.2 (x5 - 4) (by omega) (by omega)
                        refine rg_i (by omega) ?_
                        refine rg_i (by omega) ?_
                        refine hK 197 _ [vI ((6 + x5) - 4), vI (T 268 0 (x5 - 4)), vI (T 267 0 (x5 - 4)), vR 111 0] U15 ?_
                        have e29 : U15 111 0 57 = T 111 0 57 := up_k hU15 (by exact Nat.ne_of_beq_eq_false rfl) 0 57
                        have e30 : U15 111 0 1 = T 111 0 1 := up_k hU15 (by exact Nat.ne_of_beq_eq_false rfl) 0 1
                        have e31 : U15 111 0 62 = T 111 0 62 := up_k hU15 (by exact Nat.ne_of_beq_eq_false rfl) 0 62
                        refine j_callV (y := yX11_wantNumber) (Yc := zX11_wantNumber) (rest := []) [vI (T 267 0 (x5 - 4)), vI (T 268 0 (x5 - 4)), vI ((6 + x5) - 4)] (ct_X11_wantNumber_e (T := U15) (by omega) (by omega) (by omega)) cl_X11_304 (qd_c (by decide +kernel)) (nn_ _) rfl (rf_of rfl) (Nat.le_of_ble_eq_true rfl) (Nat.le_of_ble_eq_true rfl) (Nat.le_of_ble_eq_true rfl) rfl ?_
                        rintro U32 _ ⟨rfl, fU32, qU32, oU32⟩
                        show J_ zX11_readStatement T (po_X11_readStatement_e T a t v) 0 0 200 _ [] U32
                        have hq := qU32
                        have fb33 : fr_ [(269, [])] T U15 := fr_u (fr_0 _ _) hU15 rfl
                        rw [show (fun j => U15 200 0 j) = fun j => T 200 0 j from funext fun j => fb33 200 0 j rfl, show U15 111 0 1 = T 111 0 1 from fb33 111 0 1 rfl] at hq
                        have oq := oU32
                        have sb := sb9_q (x := x5) (by omega) (by omega)
                        rw [show U15 111 0 57 = T 111 0 60 by omega, show 6 + x5 - 4 = x5 + 2 by omega, show T 267 0 (x5 - 4) = (sa_ 1).getD (x5 + 2).toNat 0 by omega, show T 268 0 (x5 - 4) = (sa_ 2).getD (x5 + 2).toNat 0 by omega] at hq
                        rw [show 6 + x5 - 4 = x5 + 2 by omega] at oq
                        have hq := hq.resolve_left (fun z => by omega)
                        have hvr : VR9_ U32 (u9_ v (x5 + 2) (U32 204 0 (x5 + 2))) := VR9_u vr0 oq rfl
                        have hbz : U32 111 0 62 ≠ 0 → bdf9_ (cl9_ (T 111 0 1) (fun j => T 200 0 j)) (T 111 0 1) (T 111 0 60) x5 v = Sum.inl (U32 111 0 62, U32 111 0 63) := fun z => (bdf9_4 (by omega)).trans (bn9_l (hq.resolve_right (fun y => by omega)).2.2)
                        have hbo0 : U32 111 0 62 = 0 → bdf9_ (cl9_ (T 111 0 1) (fun j => T 200 0 j)) (T 111 0 1) (T 111 0 60) x5 v = Sum.inr (U32 111 0 57, u9_ v (x5 + 2) (U32 204 0 (x5 + 2))) := fun z => (bdf9_4 (by omega)).trans (bn9_r (hq.resolve_left (fun y => by omega)).2.2.1)
                        have hbb : U32 111 0 62 = 0 → U32 111 0 63 = T 111 0 63 ∧ T 111 0 60 ≤ U32 111 0 57 ∧ U32 111 0 57 ≤ T 111 0 1 := fun z => by have y := (hq.resolve_left (fun y => by omega)).2.2.2; omega
                        have e34 : U32 111 0 1 = T 111 0 1 := (fU32 111 0 1 rfl).trans (up_k hU15 (by exact Nat.ne_of_beq_eq_false rfl) 0 1)
                        refine j_blx (F := fX11) tb_X11 (nn_ _) bk_X11_readStatement_e_200 bs_X11_readStatement_e_200 hz (fun K hK => ?_)
                        intro b35 b35b
                        refine And.intro (fun c36 => ?_) (fun c36 => ?_)
                        · refine hK 235 _ [] U32 ?_
                          refine j_blx (F := fX11) tb_X11 (nn_ _) bk_X11_readStatement_e_235 bs_X11_readStatement_e_235 hz (fun K hK => ?_)
                          refine (show po_X11_readStatement_e T a t v U32 (none) from ?_)
                          exact ⟨rfl, fr_t (fr_u (fr_0 _ _) hU15 rfl) (fr_s fU32 rfl), Or.inl ⟨by omega, (stf9_b hwi hx0 (by omega)).trans (bn9_l (hbz (by omega)))⟩⟩
                        · have hbo := hbo0 (by omega)
                          have hb1 := hbb (by omega)
                          have st := (stf9_b hwi hx0 (by omega)).trans (bn9_r hbo)
                          refine hK 208 _ [vR 111 0] U32 ?_
                          have e37 : U32 111 0 1 = T 111 0 1 := (fU32 111 0 1 rfl).trans (up_k hU15 (by exact Nat.ne_of_beq_eq_false rfl) 0 1)
                          refine j_callV (y := yX11_take) (Yc := zX11_take) (rest := []) [] (ct_X11_take_e (T := U32) (by omega) (by omega)) cl_X11_291 (qd_c (by decide +kernel)) (nn_ _) rfl (rf_of rfl) (Nat.le_of_ble_eq_true rfl) (Nat.le_of_ble_eq_true rfl) (Nat.le_of_ble_eq_true rfl) rfl ?_
                          rintro U38 _ ⟨rfl, fU38, qU38⟩
                          show J_ zX11_readStatement T (po_X11_readStatement_e T a t v) 0 0 211 _ [] U38
                          have qkb := qU38
                          have fb39 : fr_ [(111, [57, 58, 59, 60, 61, 62, 63]), (204, []), (269, [])] T U32 := fr_t (fr_u (fr_0 _ _) hU15 rfl) (fr_s fU32 rfl)
                          rw [show (fun j => U32 200 0 j) = fun j => T 200 0 j from funext fun j => fb39 200 0 j rfl, show U32 111 0 1 = T 111 0 1 from fb39 111 0 1 rfl] at qkb
                          obtain ⟨qab, eb, kb, hkb, hqb⟩ := qkb
                          have trb := tk9_r hkb
                          have tab := TA9_f ta (show fr_ [(111, [57, 58, 59, 60, 61, 62, 63]), (204, [])] U15 U38 from fr_t (fr_t (fr_0 _ _) (fr_s fU32 rfl)) (fr_s fU38 rfl)) (fun _ => rfl)
                          have vrb := VR9_f hvr fU38 (fun _ => rfl)
                          refine j_blx (F := fX11) tb_X11 (nn_ _) bk_X11_readStatement_e_211 bs_X11_readStatement_e_211 hz (fun K hK => ?_)
                          intro b40 b40b
                          refine And.intro (fun c41 => ?_) (fun c41 => ?_)
                          · refine hK 235 _ [] U38 ?_
                            refine j_blx (F := fX11) tb_X11 (nn_ _) bk_X11_readStatement_e_235 bs_X11_readStatement_e_235 hz (fun K hK => ?_)
                            refine (show po_X11_readStatement_e T a t v U38 (none) from ?_)
                            refine ⟨rfl, fr_t (fr_t (fr_u (fr_0 _ _) hU15 rfl) (fr_s fU32 rfl)) (fr_s fU38 rfl), Or.inl ⟨by omega, ?_⟩⟩
                            rw [show U38 111 0 62 = 1 by omega, show U38 111 0 63 = U38 111 0 59 by omega]
                            exact st.trans (bn9_l (smf9_1 hkb (by omega) (by omega)))
                          · intro b42 b42b
                            refine And.intro (fun c43 => ?_) (fun c43 => ?_)
                            · refine hK 235 _ [] U38 ?_
                              refine j_blx (F := fX11) tb_X11 (nn_ _) bk_X11_readStatement_e_235 bs_X11_readStatement_e_235 hz (fun K hK => ?_)
                              refine (show po_X11_readStatement_e T a t v U38 (none) from ?_)
                              refine ⟨rfl, fr_t (fr_t (fr_u (fr_0 _ _) hU15 rfl) (fr_s fU32 rfl)) (fr_s fU38 rfl), Or.inr ⟨by omega, ⟨u9_ t x5 1, u9_ v (x5 + 2) (U32 204 0 (x5 + 2)), ?_, tab, vrb⟩, by omega, by omega, by omega⟩⟩
                              rw [show U38 111 0 57 = eb by omega]
                              exact st.trans (bn9_r (smf9_0 hkb (by omega) (by omega)))
                            · intro b44 b44b
                              refine hK 232 _ [vI (U38 111 0 59), vI 2, vR 111 0] U38 ?_
                              refine j_callV (y := yX11_bad) (Yc := zX11_bad) (rest := []) [vI 2, vI (U38 111 0 59)] (ct_X11_bad_e (T := U38) (by omega) (by omega)) cl_X11_281 (qd_c (by decide +kernel)) (nn_ _) rfl (rf_of rfl) (Nat.le_of_ble_eq_true rfl) (Nat.le_of_ble_eq_true rfl) (Nat.le_of_ble_eq_true rfl) rfl ?_
                              rintro U45 _ ⟨rfl, fU45, qU45⟩
                              show J_ zX11_readStatement T (po_X11_readStatement_e T a t v) 0 0 235 _ [] U45
                              refine j_blx (F := fX11) tb_X11 (nn_ _) bk_X11_readStatement_e_235 bs_X11_readStatement_e_235 hz (fun K hK => ?_)
                              refine (show po_X11_readStatement_e T a t v U45 (none) from ?_)
                              have e46 : U45 111 0 57 = U38 111 0 57 := fU45 111 0 57 rfl
                              refine ⟨rfl, fr_t (fr_t (fr_t (fr_u (fr_0 _ _) hU15 rfl) (fr_s fU32 rfl)) (fr_s fU38 rfl)) (fr_s fU45 rfl), Or.inl ⟨by omega, ?_⟩⟩
                              rw [show U45 111 0 62 = 2 by omega, show U45 111 0 63 = U38 111 0 59 by omega]
                              exact st.trans (bn9_l (smf9_2 hkb (by omega) (by omega) (by omega)))
                      · refine iy_i (by omega) (by omega) ?_
                        refine x_nm (fun U47 hU47 => ?_)
                        have e48 := up_f hU47
                        refine hK 200 _ [] U47 ?_
                        have e49 : U47 111 0 57 = T 111 0 57 := (up_k hU47 (by exact Nat.ne_of_beq_eq_false rfl) 0 57).trans (up_k hU15 (by exact Nat.ne_of_beq_eq_false rfl) 0 57)
                        have e50 : U47 111 0 62 = T 111 0 62 := (up_k hU47 (by exact Nat.ne_of_beq_eq_false rfl) 0 62).trans (up_k hU15 (by exact Nat.ne_of_beq_eq_false rfl) 0 62)
                        have e51 : U47 111 0 63 = T 111 0 63 := (up_k hU47 (by exact Nat.ne_of_beq_eq_false rfl) 0 63).trans (up_k hU15 (by exact Nat.ne_of_beq_eq_false rfl) 0 63)
                        have e52 : U47 111 0 1 = T 111 0 1 := (up_k hU47 (by exact Nat.ne_of_beq_eq_false rfl) 0 1).trans (up_k hU15 (by exact Nat.ne_of_beq_eq_false rfl) 0 1)
                        have hbo : bdf9_ (cl9_ (T 111 0 1) (fun j => T 200 0 j)) (T 111 0 1) (T 111 0 60) x5 v = Sum.inr (U47 111 0 57, u9_ v 5 1) := by
                          rw [show U47 111 0 57 = T 111 0 60 by omega]
                          exact bdf9_3 (by omega)
                        have hvr : VR9_ U47 (u9_ v 5 1) := VR9_u vr0 (fun j hj => up_g hU47 (fun z => hj z.2.2)) (up_f hU47)
                        refine j_blx (F := fX11) tb_X11 (nn_ _) bk_X11_readStatement_e_200 bs_X11_readStatement_e_200 hz (fun K hK => ?_)
                        intro b53 b53b
                        have e54 : U47 111 0 62 = T 111 0 62 := (up_k hU47 (by exact Nat.ne_of_beq_eq_false rfl) 0 62).trans (up_k hU15 (by exact Nat.ne_of_beq_eq_false rfl) 0 62)
                        rw [e54] at b53 b53b ⊢
                        refine And.intro (fun c55 => ?_) (fun c55 => ?_)
                        · exfalso; omega
                        · have st := (stf9_b hwi hx0 (by omega)).trans (bn9_r hbo)
                          refine hK 208 _ [vR 111 0] U47 ?_
                          have e56 : U47 111 0 57 = T 111 0 57 := (up_k hU47 (by exact Nat.ne_of_beq_eq_false rfl) 0 57).trans (up_k hU15 (by exact Nat.ne_of_beq_eq_false rfl) 0 57)
                          have e57 : U47 111 0 1 = T 111 0 1 := (up_k hU47 (by exact Nat.ne_of_beq_eq_false rfl) 0 1).trans (up_k hU15 (by exact Nat.ne_of_beq_eq_false rfl) 0 1)
                          have e58 : U47 111 0 62 = T 111 0 62 := (up_k hU47 (by exact Nat.ne_of_beq_eq_false rfl) 0 62).trans (up_k hU15 (by exact Nat.ne_of_beq_eq_false rfl) 0 62)
                          refine j_callV (y := yX11_take) (Yc := zX11_take) (rest := []) [] (ct_X11_take_e (T := U47) (by omega) (by omega)) cl_X11_291 (qd_c (by decide +kernel)) (nn_ _) rfl (rf_of rfl) (Nat.le_of_ble_eq_true rfl) (Nat.le_of_ble_eq_true rfl) (Nat.le_of_ble_eq_true rfl) rfl ?_
                          rintro U59 _ ⟨rfl, fU59, qU59⟩
                          show J_ zX11_readStatement T (po_X11_readStatement_e T a t v) 0 0 211 _ [] U59
                          have qkb := qU59
                          have fb60 : fr_ [(204, []), (269, [])] T U47 := fr_u (fr_u (fr_0 _ _) hU15 rfl) hU47 rfl
                          rw [show (fun j => U47 200 0 j) = fun j => T 200 0 j from funext fun j => fb60 200 0 j rfl, show U47 111 0 1 = T 111 0 1 from fb60 111 0 1 rfl] at qkb
                          obtain ⟨qab, eb, kb, hkb, hqb⟩ := qkb
                          have trb := tk9_r hkb
                          have tab := TA9_f ta (show fr_ [(111, [57, 58, 59, 60, 61, 62, 63]), (204, [])] U15 U59 from fr_t (fr_u (fr_0 _ _) hU47 rfl) (fr_s fU59 rfl)) (fun _ => rfl)
                          have vrb := VR9_f hvr fU59 (fun _ => rfl)
                          refine j_blx (F := fX11) tb_X11 (nn_ _) bk_X11_readStatement_e_211 bs_X11_readStatement_e_211 hz (fun K hK => ?_)
                          intro b61 b61b
                          refine And.intro (fun c62 => ?_) (fun c62 => ?_)
                          · refine hK 235 _ [] U59 ?_
                            refine j_blx (F := fX11) tb_X11 (nn_ _) bk_X11_readStatement_e_235 bs_X11_readStatement_e_235 hz (fun K hK => ?_)
                            refine (show po_X11_readStatement_e T a t v U59 (none) from ?_)
                            refine ⟨rfl, fr_t (fr_u (fr_u (fr_0 _ _) hU15 rfl) hU47 rfl) (fr_s fU59 rfl), Or.inl ⟨by omega, ?_⟩⟩
                            rw [show U59 111 0 62 = 1 by omega, show U59 111 0 63 = U59 111 0 59 by omega]
                            exact st.trans (bn9_l (smf9_1 hkb (by omega) (by omega)))
                          · intro b63 b63b
                            refine And.intro (fun c64 => ?_) (fun c64 => ?_)
                            · refine hK 235 _ [] U59 ?_
                              refine j_blx (F := fX11) tb_X11 (nn_ _) bk_X11_readStatement_e_235 bs_X11_readStatement_e_235 hz (fun K hK => ?_)
                              refine (show po_X11_readStatement_e T a t v U59 (none) from ?_)
                              refine ⟨rfl, fr_t (fr_u (fr_u (fr_0 _ _) hU15 rfl) hU47 rfl) (fr_s fU59 rfl), Or.inr ⟨by omega, ⟨u9_ t x5 1, u9_ v 5 1, ?_, tab, vrb⟩, by omega, by omega, by omega⟩⟩
                              rw [show U59 111 0 57 = eb by omega]
                              exact st.trans (bn9_r (smf9_0 hkb (by omega) (by omega)))
                            · intro b65 b65b
                              refine hK 232 _ [vI (U59 111 0 59), vI 2, vR 111 0] U59 ?_
                              refine j_callV (y := yX11_bad) (Yc := zX11_bad) (rest := []) [vI 2, vI (U59 111 0 59)] (ct_X11_bad_e (T := U59) (by omega) (by omega)) cl_X11_281 (qd_c (by decide +kernel)) (nn_ _) rfl (rf_of rfl) (Nat.le_of_ble_eq_true rfl) (Nat.le_of_ble_eq_true rfl) (Nat.le_of_ble_eq_true rfl) rfl ?_
                              rintro U66 _ ⟨rfl, fU66, qU66⟩
                              show J_ zX11_readStatement T (po_X11_readStatement_e T a t v) 0 0 235 _ [] U66
                              refine j_blx (F := fX11) tb_X11 (nn_ _) bk_X11_readStatement_e_235 bs_X11_readStatement_e_235 hz (fun K hK => ?_)
                              refine (show po_X11_readStatement_e T a t v U66 (none) from ?_)
                              have e67 : U66 111 0 57 = U59 111 0 57 := fU66 111 0 57 rfl
                              refine ⟨rfl, fr_t (fr_t (fr_u (fr_u (fr_0 _ _) hU15 rfl) hU47 rfl) (fr_s fU59 rfl)) (fr_s fU66 rfl), Or.inl ⟨by omega, ?_⟩⟩
                              rw [show U66 111 0 62 = 2 by omega, show U66 111 0 63 = U59 111 0 59 by omega]
                              exact st.trans (bn9_l (smf9_2 hkb (by omega) (by omega) (by omega)))
                    · refine hK 129 _ [vI 1, vI 9, vI 0, vR 111 0] U15 ?_
                      have e68 : U15 111 0 57 = T 111 0 57 := up_k hU15 (by exact Nat.ne_of_beq_eq_false rfl) 0 57
                      have e69 : U15 111 0 1 = T 111 0 1 := up_k hU15 (by exact Nat.ne_of_beq_eq_false rfl) 0 1
                      have e70 : U15 111 0 62 = T 111 0 62 := up_k hU15 (by exact Nat.ne_of_beq_eq_false rfl) 0 62
                      refine j_callV (y := yX11_wantNumber) (Yc := zX11_wantNumber) (rest := []) [vI 0, vI 9, vI 1] (ct_X11_wantNumber_e (T := U15) (by omega) (by omega) (by omega)) cl_X11_304 (qd_c (by decide +kernel)) (nn_ _) rfl (rf_of rfl) (Nat.le_of_ble_eq_true rfl) (Nat.le_of_ble_eq_true rfl) (Nat.le_of_ble_eq_true rfl) rfl ?_
                      rintro U71 _ ⟨rfl, fU71, qU71, oU71⟩
                      show J_ zX11_readStatement T (po_X11_readStatement_e T a t v) 0 0 132 _ [] U71
                      refine j_blx (F := fX11) tb_X11 (nn_ _) bk_X11_readStatement_e_132 bs_X11_readStatement_e_132 hz (fun K hK => ?_)
                      refine ix_i (by omega) ?_
                      intro b72 b72b
                      refine hK 141 _ [vI 2, vI (U71 204 0 1), vI 0, vR 111 0] U71 ?_
                      have e73 : U71 111 0 1 = T 111 0 1 := (fU71 111 0 1 rfl).trans (up_k hU15 (by exact Nat.ne_of_beq_eq_false rfl) 0 1)
                      refine j_callV (y := yX11_wantNumber) (Yc := zX11_wantNumber) (rest := []) [vI 0, vI (U71 204 0 1), vI 2] (ct_X11_wantNumber_e (T := U71) (by omega) (by omega) (by omega)) cl_X11_304 (qd_c (by decide +kernel)) (nn_ _) rfl (rf_of rfl) (Nat.le_of_ble_eq_true rfl) (Nat.le_of_ble_eq_true rfl) (Nat.le_of_ble_eq_true rfl) rfl ?_
                      rintro U74 _ ⟨rfl, fU74, qU74, oU74⟩
                      show J_ zX11_readStatement T (po_X11_readStatement_e T a t v) 0 0 144 _ [] U74
                      refine j_blx (F := fX11) tb_X11 (nn_ _) bk_X11_readStatement_e_144 bs_X11_readStatement_e_144 hz (fun K hK => ?_)
                      refine ix_i (by omega) ?_
                      intro b75 b75b
                      refine hK 153 _ [vI 3, vI (U74 204 0 2), vI 0, vR 111 0] U74 ?_
                      have e76 : U74 111 0 1 = T 111 0 1 := (fU74 111 0 1 rfl).trans ((fU71 111 0 1 rfl).trans (up_k hU15 (by exact Nat.ne_of_beq_eq_false rfl) 0 1))
                      refine j_callV (y := yX11_wantNumber) (Yc := zX11_wantNumber) (rest := []) [vI 0, vI (U74 204 0 2), vI 3] (ct_X11_wantNumber_e (T := U74) (by omega) (by omega) (by omega)) cl_X11_304 (qd_c (by decide +kernel)) (nn_ _) rfl (rf_of rfl) (Nat.le_of_ble_eq_true rfl) (Nat.le_of_ble_eq_true rfl) (Nat.le_of_ble_eq_true rfl) rfl ?_
                      rintro U77 _ ⟨rfl, fU77, qU77, oU77⟩
                      show J_ zX11_readStatement T (po_X11_readStatement_e T a t v) 0 0 156 _ [] U77
                      refine j_blx (F := fX11) tb_X11 (nn_ _) bk_X11_readStatement_e_156 bs_X11_readStatement_e_156 hz (fun K hK => ?_)
                      refine hK 200 _ [] U77 ?_
                      have q1 := qU71
                      have fb78 : fr_ [(269, [])] T U15 := fr_u (fr_0 _ _) hU15 rfl
                      rw [show (fun j => U15 200 0 j) = fun j => T 200 0 j from funext fun j => fb78 200 0 j rfl, show U15 111 0 1 = T 111 0 1 from fb78 111 0 1 rfl] at q1
                      rw [show U15 111 0 57 = T 111 0 60 by omega] at q1
                      have q2 := qU74
                      have fb79 : fr_ [(111, [57, 58, 59, 60, 61, 62, 63]), (204, []), (269, [])] T U71 := fr_t (fr_u (fr_0 _ _) hU15 rfl) (fr_s fU71 rfl)
                      rw [show (fun j => U71 200 0 j) = fun j => T 200 0 j from funext fun j => fb79 200 0 j rfl, show U71 111 0 1 = T 111 0 1 from fb79 111 0 1 rfl] at q2
                      have q3 := qU77
                      have fb80 : fr_ [(111, [57, 58, 59, 60, 61, 62, 63]), (204, []), (269, [])] T U74 := fr_t (fr_t (fr_u (fr_0 _ _) hU15 rfl) (fr_s fU71 rfl)) (fr_s fU74 rfl)
                      rw [show (fun j => U74 200 0 j) = fun j => T 200 0 j from funext fun j => fb80 200 0 j rfl, show U74 111 0 1 = T 111 0 1 from fb80 111 0 1 rfl] at q3
                      have hq := pnf9_h (show U15 111 0 62 = 0 by omega) q1 q2 q3
                      have hvr : VR9_ U77 (u9_ (u9_ (u9_ v 1 (U71 204 0 1)) 2 (U74 204 0 2)) 3 (U77 204 0 3)) := VR9_u (VR9_u (VR9_u vr0 oU71 rfl) oU74 rfl) oU77 rfl
                      have hbz : U77 111 0 62 ≠ 0 → bdf9_ (cl9_ (T 111 0 1) (fun j => T 200 0 j)) (T 111 0 1) (T 111 0 60) x5 v = Sum.inl (U77 111 0 62, U77 111 0 63) := fun z => (bdf9_1 (by omega)).trans (bn9_l (hq.resolve_right (fun y => by omega)).2)
                      have hbo0 : U77 111 0 62 = 0 → bdf9_ (cl9_ (T 111 0 1) (fun j => T 200 0 j)) (T 111 0 1) (T 111 0 60) x5 v = Sum.inr (U77 111 0 57, u9_ (u9_ (u9_ v 1 (U71 204 0 1)) 2 (U74 204 0 2)) 3 (U77 204 0 3)) := fun z => (bdf9_1 (by omega)).trans (bn9_r (hq.resolve_left (fun y => by omega)).2.1)
                      have hbb : U77 111 0 62 = 0 → U77 111 0 63 = T 111 0 63 ∧ T 111 0 60 ≤ U77 111 0 57 ∧ U77 111 0 57 ≤ T 111 0 1 := fun z => by have y := (hq.resolve_left (fun y => by omega)).2.2; omega
                      have e81 : U77 111 0 1 = T 111 0 1 := (fU77 111 0 1 rfl).trans ((fU74 111 0 1 rfl).trans ((fU71 111 0 1 rfl).trans (up_k hU15 (by exact Nat.ne_of_beq_eq_false rfl) 0 1)))
                      refine j_blx (F := fX11) tb_X11 (nn_ _) bk_X11_readStatement_e_200 bs_X11_readStatement_e_200 hz (fun K hK => ?_)
                      intro b82 b82b
                      refine And.intro (fun c83 => ?_) (fun c83 => ?_)
                      · refine hK 235 _ [] U77 ?_
                        refine j_blx (F := fX11) tb_X11 (nn_ _) bk_X11_readStatement_e_235 bs_X11_readStatement_e_235 hz (fun K hK => ?_)
                        refine (show po_X11_readStatement_e T a t v U77 (none) from ?_)
                        exact ⟨rfl, fr_t (fr_t (fr_t (fr_u (fr_0 _ _) hU15 rfl) (fr_s fU71 rfl)) (fr_s fU74 rfl)) (fr_s fU77 rfl), Or.inl ⟨by omega, (stf9_b hwi hx0 (by omega)).trans (bn9_l (hbz (by omega)))⟩⟩
                      · have hbo := hbo0 (by omega)
                        have hb1 := hbb (by omega)
                        have st := (stf9_b hwi hx0 (by omega)).trans (bn9_r hbo)
                        refine hK 208 _ [vR 111 0] U77 ?_
                        have e84 : U77 111 0 1 = T 111 0 1 := (fU77 111 0 1 rfl).trans ((fU74 111 0 1 rfl).trans ((fU71 111 0 1 rfl).trans (up_k hU15 (by exact Nat.ne_of_beq_eq_false rfl) 0 1)))
                        refine j_callV (y := yX11_take) (Yc := zX11_take) (rest := []) [] (ct_X11_take_e (T := U77) (by omega) (by omega)) cl_X11_291 (qd_c (by decide +kernel)) (nn_ _) rfl (rf_of rfl) (Nat.le_of_ble_eq_true rfl) (Nat.le_of_ble_eq_true rfl) (Nat.le_of_ble_eq_true rfl) rfl ?_
                        rintro U85 _ ⟨rfl, fU85, qU85⟩
                        show J_ zX11_readStatement T (po_X11_readStatement_e T a t v) 0 0 211 _ [] U85
                        have qkb := qU85
                        have fb86 : fr_ [(111, [57, 58, 59, 60, 61, 62, 63]), (204, []), (269, [])] T U77 := fr_t (fr_t (fr_t (fr_u (fr_0 _ _) hU15 rfl) (fr_s fU71 rfl)) (fr_s fU74 rfl)) (fr_s fU77 rfl)
                        rw [show (fun j => U77 200 0 j) = fun j => T 200 0 j from funext fun j => fb86 200 0 j rfl, show U77 111 0 1 = T 111 0 1 from fb86 111 0 1 rfl] at qkb
                        obtain ⟨qab, eb, kb, hkb, hqb⟩ := qkb
                        have trb := tk9_r hkb
                        have tab := TA9_f ta (show fr_ [(111, [57, 58, 59, 60, 61, 62, 63]), (204, [])] U15 U85 from fr_t (fr_t (fr_t (fr_t (fr_0 _ _) (fr_s fU71 rfl)) (fr_s fU74 rfl)) (fr_s fU77 rfl)) (fr_s fU85 rfl)) (fun _ => rfl)
                        have vrb := VR9_f hvr fU85 (fun _ => rfl)
                        refine j_blx (F := fX11) tb_X11 (nn_ _) bk_X11_readStatement_e_211 bs_X11_readStatement_e_211 hz (fun K hK => ?_)
                        intro b87 b87b
                        refine And.intro (fun c88 => ?_) (fun c88 => ?_)
                        · refine hK 235 _ [] U85 ?_
                          refine j_blx (F := fX11) tb_X11 (nn_ _) bk_X11_readStatement_e_235 bs_X11_readStatement_e_235 hz (fun K hK => ?_)
                          refine (show po_X11_readStatement_e T a t v U85 (none) from ?_)
                          refine ⟨rfl, fr_t (fr_t (fr_t (fr_t (fr_u (fr_0 _ _) hU15 rfl) (fr_s fU71 rfl)) (fr_s fU74 rfl)) (fr_s fU77 rfl)) (fr_s fU85 rfl), Or.inl ⟨by omega, ?_⟩⟩
                          rw [show U85 111 0 62 = 1 by omega, show U85 111 0 63 = U85 111 0 59 by omega]
                          exact st.trans (bn9_l (smf9_1 hkb (by omega) (by omega)))
                        · intro b89 b89b
                          refine And.intro (fun c90 => ?_) (fun c90 => ?_)
                          · refine hK 235 _ [] U85 ?_
                            refine j_blx (F := fX11) tb_X11 (nn_ _) bk_X11_readStatement_e_235 bs_X11_readStatement_e_235 hz (fun K hK => ?_)
                            refine (show po_X11_readStatement_e T a t v U85 (none) from ?_)
                            refine ⟨rfl, fr_t (fr_t (fr_t (fr_t (fr_u (fr_0 _ _) hU15 rfl) (fr_s fU71 rfl)) (fr_s fU74 rfl)) (fr_s fU77 rfl)) (fr_s fU85 rfl), Or.inr ⟨by omega, ⟨u9_ t x5 1, u9_ (u9_ (u9_ v 1 (U71 204 0 1)) 2 (U74 204 0 2)) 3 (U77 204 0 3), ?_, tab, vrb⟩, by omega, by omega, by omega⟩⟩
                            rw [show U85 111 0 57 = eb by omega]
                            exact st.trans (bn9_r (smf9_0 hkb (by omega) (by omega)))
                          · intro b91 b91b
                            refine hK 232 _ [vI (U85 111 0 59), vI 2, vR 111 0] U85 ?_
                            refine j_callV (y := yX11_bad) (Yc := zX11_bad) (rest := []) [vI 2, vI (U85 111 0 59)] (ct_X11_bad_e (T := U85) (by omega) (by omega)) cl_X11_281 (qd_c (by decide +kernel)) (nn_ _) rfl (rf_of rfl) (Nat.le_of_ble_eq_true rfl) (Nat.le_of_ble_eq_true rfl) (Nat.le_of_ble_eq_true rfl) rfl ?_
                            rintro U92 _ ⟨rfl, fU92, qU92⟩
                            show J_ zX11_readStatement T (po_X11_readStatement_e T a t v) 0 0 235 _ [] U92
                            refine j_blx (F := fX11) tb_X11 (nn_ _) bk_X11_readStatement_e_235 bs_X11_readStatement_e_235 hz (fun K hK => ?_)
                            refine (show po_X11_readStatement_e T a t v U92 (none) from ?_)
                            have e93 : U92 111 0 57 = U85 111 0 57 := fU92 111 0 57 rfl
                            refine ⟨rfl, fr_t (fr_t (fr_t (fr_t (fr_t (fr_u (fr_0 _ _) hU15 rfl) (fr_s fU71 rfl)) (fr_s fU74 rfl)) (fr_s fU77 rfl)) (fr_s fU85 rfl)) (fr_s fU92 rfl), Or.inl ⟨by omega, ?_⟩⟩
                            rw [show U92 111 0 62 = 2 by omega, show U92 111 0 63 = U85 111 0 59 by omega]
                            exact st.trans (bn9_l (smf9_2 hkb (by omega) (by omega) (by omega)))
                  · refine hK 113 _ [vR 111 0] U15 ?_
                    have e94 : U15 111 0 57 = T 111 0 57 := up_k hU15 (by exact Nat.ne_of_beq_eq_false rfl) 0 57
                    have e95 : U15 111 0 1 = T 111 0 1 := up_k hU15 (by exact Nat.ne_of_beq_eq_false rfl) 0 1
                    have e96 : U15 111 0 62 = T 111 0 62 := up_k hU15 (by exact Nat.ne_of_beq_eq_false rfl) 0 62
                    refine j_callV (y := yX11_readSport) (Yc := zX11_readSport) (rest := []) [] (ct_X11_readSport_e (T := U15) (by omega) (by omega) (by exact CX_f (ws := [(269, [])]) hC (fr_u (fr_0 _ _) hU15 rfl) ⟨fun _ => rfl, fun _ => rfl, fun _ => rfl, fun _ => rfl, fun _ => rfl, trivial⟩)) cl_X11_301 (qd_c (by decide +kernel)) (nn_ _) rfl (rf_of rfl) (Nat.le_of_ble_eq_true rfl) (Nat.le_of_ble_eq_true rfl) (Nat.le_of_ble_eq_true rfl) rfl ?_
                    rintro U97 _ ⟨rfl, fU97, qU97, oU97⟩
                    show J_ zX11_readStatement T (po_X11_readStatement_e T a t v) 0 0 116 _ [] U97
                    refine j_blx (F := fX11) tb_X11 (nn_ _) bk_X11_readStatement_e_116 bs_X11_readStatement_e_116 hz (fun K hK => ?_)
                    refine hK 200 _ [] U97 ?_
                    have hq := qU97
                    have fb98 : fr_ [(269, [])] T U15 := fr_u (fr_0 _ _) hU15 rfl
                    rw [show (fun j => U15 200 0 j) = fun j => T 200 0 j from funext fun j => fb98 200 0 j rfl, show U15 111 0 1 = T 111 0 1 from fb98 111 0 1 rfl] at hq
                    rw [show U15 111 0 57 = T 111 0 60 by omega] at hq
                    have hvr : VR9_ U97 (u9_ v 0 (U97 204 0 0)) := VR9_u vr0 oU97 rfl
                    have hbz : U97 111 0 62 ≠ 0 → bdf9_ (cl9_ (T 111 0 1) (fun j => T 200 0 j)) (T 111 0 1) (T 111 0 60) x5 v = Sum.inl (U97 111 0 62, U97 111 0 63) := fun z => (bdf9_0 (by omega)).trans (bn9_l (hq.resolve_right (fun y => by omega)).2)
                    have hbo0 : U97 111 0 62 = 0 → bdf9_ (cl9_ (T 111 0 1) (fun j => T 200 0 j)) (T 111 0 1) (T 111 0 60) x5 v = Sum.inr (U97 111 0 57, u9_ v 0 (U97 204 0 0)) := fun z => (bdf9_0 (by omega)).trans (bn9_r (hq.resolve_left (fun y => by omega)).2.1)
                    have hbb : U97 111 0 62 = 0 → U97 111 0 63 = T 111 0 63 ∧ T 111 0 60 ≤ U97 111 0 57 ∧ U97 111 0 57 ≤ T 111 0 1 := fun z => by have y := (hq.resolve_left (fun y => by omega)).2.2; omega
                    have e99 : U97 111 0 1 = T 111 0 1 := (fU97 111 0 1 rfl).trans (up_k hU15 (by exact Nat.ne_of_beq_eq_false rfl) 0 1)
                    refine j_blx (F := fX11) tb_X11 (nn_ _) bk_X11_readStatement_e_200 bs_X11_readStatement_e_200 hz (fun K hK => ?_)
                    intro b100 b100b
                    refine And.intro (fun c101 => ?_) (fun c101 => ?_)
                    · refine hK 235 _ [] U97 ?_
                      refine j_blx (F := fX11) tb_X11 (nn_ _) bk_X11_readStatement_e_235 bs_X11_readStatement_e_235 hz (fun K hK => ?_)
                      refine (show po_X11_readStatement_e T a t v U97 (none) from ?_)
                      exact ⟨rfl, fr_t (fr_u (fr_0 _ _) hU15 rfl) (fr_s fU97 rfl), Or.inl ⟨by omega, (stf9_b hwi hx0 (by omega)).trans (bn9_l (hbz (by omega)))⟩⟩
                    · have hbo := hbo0 (by omega)
                      have hb1 := hbb (by omega)
                      have st := (stf9_b hwi hx0 (by omega)).trans (bn9_r hbo)
                      refine hK 208 _ [vR 111 0] U97 ?_
                      have e102 : U97 111 0 1 = T 111 0 1 := (fU97 111 0 1 rfl).trans (up_k hU15 (by exact Nat.ne_of_beq_eq_false rfl) 0 1)
                      refine j_callV (y := yX11_take) (Yc := zX11_take) (rest := []) [] (ct_X11_take_e (T := U97) (by omega) (by omega)) cl_X11_291 (qd_c (by decide +kernel)) (nn_ _) rfl (rf_of rfl) (Nat.le_of_ble_eq_true rfl) (Nat.le_of_ble_eq_true rfl) (Nat.le_of_ble_eq_true rfl) rfl ?_
                      rintro U103 _ ⟨rfl, fU103, qU103⟩
                      show J_ zX11_readStatement T (po_X11_readStatement_e T a t v) 0 0 211 _ [] U103
                      have qkb := qU103
                      have fb104 : fr_ [(111, [57, 58, 59, 60, 61, 62, 63]), (204, []), (269, [])] T U97 := fr_t (fr_u (fr_0 _ _) hU15 rfl) (fr_s fU97 rfl)
                      rw [show (fun j => U97 200 0 j) = fun j => T 200 0 j from funext fun j => fb104 200 0 j rfl, show U97 111 0 1 = T 111 0 1 from fb104 111 0 1 rfl] at qkb
                      obtain ⟨qab, eb, kb, hkb, hqb⟩ := qkb
                      have trb := tk9_r hkb
                      have tab := TA9_f ta (show fr_ [(111, [57, 58, 59, 60, 61, 62, 63]), (204, [])] U15 U103 from fr_t (fr_t (fr_0 _ _) (fr_s fU97 rfl)) (fr_s fU103 rfl)) (fun _ => rfl)
                      have vrb := VR9_f hvr fU103 (fun _ => rfl)
                      refine j_blx (F := fX11) tb_X11 (nn_ _) bk_X11_readStatement_e_211 bs_X11_readStatement_e_211 hz (fun K hK => ?_)
                      intro b105 b105b
                      refine And.intro (fun c106 => ?_) (fun c106 => ?_)
                      · refine hK 235 _ [] U103 ?_
                        refine j_blx (F := fX11) tb_X11 (nn_ _) bk_X11_readStatement_e_235 bs_X11_readStatement_e_235 hz (fun K hK => ?_)
                        refine (show po_X11_readStatement_e T a t v U103 (none) from ?_)
                        refine ⟨rfl, fr_t (fr_t (fr_u (fr_0 _ _) hU15 rfl) (fr_s fU97 rfl)) (fr_s fU103 rfl), Or.inl ⟨by omega, ?_⟩⟩
                        rw [show U103 111 0 62 = 1 by omega, show U103 111 0 63 = U103 111 0 59 by omega]
                        exact st.trans (bn9_l (smf9_1 hkb (by omega) (by omega)))
                      · intro b107 b107b
                        refine And.intro (fun c108 => ?_) (fun c108 => ?_)
                        · refine hK 235 _ [] U103 ?_
                          refine j_blx (F := fX11) tb_X11 (nn_ _) bk_X11_readStatement_e_235 bs_X11_readStatement_e_235 hz (fun K hK => ?_)
                          refine (show po_X11_readStatement_e T a t v U103 (none) from ?_)
                          refine ⟨rfl, fr_t (fr_t (fr_u (fr_0 _ _) hU15 rfl) (fr_s fU97 rfl)) (fr_s fU103 rfl), Or.inr ⟨by omega, ⟨u9_ t x5 1, u9_ v 0 (U97 204 0 0), ?_, tab, vrb⟩, by omega, by omega, by omega⟩⟩
                          rw [show U103 111 0 57 = eb by omega]
                          exact st.trans (bn9_r (smf9_0 hkb (by omega) (by omega)))
                        · intro b109 b109b
                          refine hK 232 _ [vI (U103 111 0 59), vI 2, vR 111 0] U103 ?_
                          refine j_callV (y := yX11_bad) (Yc := zX11_bad) (rest := []) [vI 2, vI (U103 111 0 59)] (ct_X11_bad_e (T := U103) (by omega) (by omega)) cl_X11_281 (qd_c (by decide +kernel)) (nn_ _) rfl (rf_of rfl) (Nat.le_of_ble_eq_true rfl) (Nat.le_of_ble_eq_true rfl) (Nat.le_of_ble_eq_true rfl) rfl ?_
                          rintro U110 _ ⟨rfl, fU110, qU110⟩
                          show J_ zX11_readStatement T (po_X11_readStatement_e T a t v) 0 0 235 _ [] U110
                          refine j_blx (F := fX11) tb_X11 (nn_ _) bk_X11_readStatement_e_235 bs_X11_readStatement_e_235 hz (fun K hK => ?_)
                          refine (show po_X11_readStatement_e T a t v U110 (none) from ?_)
                          have e111 : U110 111 0 57 = U103 111 0 57 := fU110 111 0 57 rfl
                          refine ⟨rfl, fr_t (fr_t (fr_t (fr_u (fr_0 _ _) hU15 rfl) (fr_s fU97 rfl)) (fr_s fU103 rfl)) (fr_s fU110 rfl), Or.inl ⟨by omega, ?_⟩⟩
                          rw [show U110 111 0 62 = 2 by omega, show U110 111 0 63 = U103 111 0 59 by omega]
                          exact st.trans (bn9_l (smf9_2 hkb (by omega) (by omega) (by omega)))
                · refine hK 104 _ [vR 111 0] U15 ?_
                  have e112 : U15 111 0 57 = T 111 0 57 := up_k hU15 (by exact Nat.ne_of_beq_eq_false rfl) 0 57
                  have e113 : U15 111 0 1 = T 111 0 1 := up_k hU15 (by exact Nat.ne_of_beq_eq_false rfl) 0 1
                  have e114 : U15 111 0 62 = T 111 0 62 := up_k hU15 (by exact Nat.ne_of_beq_eq_false rfl) 0 62
                  refine j_callV (y := yX11_readOrder) (Yc := zX11_readOrder) (rest := []) [] (ct_X11_readOrder_e (T := U15) (v := v) (by omega) (by omega) (by exact CX_f (ws := [(269, [])]) hC (fr_u (fr_0 _ _) hU15 rfl) ⟨fun _ => rfl, fun _ => rfl, fun _ => rfl, fun _ => rfl, fun _ => rfl, trivial⟩) (VR9_f hv (show fr_ [(269, [])] T U15 from fr_u (fr_0 _ _) hU15 rfl) (fun _ => rfl))) cl_X11_298 (qd_c (by decide +kernel)) (nn_ _) rfl (rf_of rfl) (Nat.le_of_ble_eq_true rfl) (Nat.le_of_ble_eq_true rfl) (Nat.le_of_ble_eq_true rfl) rfl ?_
                  rintro U115 _ ⟨rfl, fU115, qU115⟩
                  show J_ zX11_readStatement T (po_X11_readStatement_e T a t v) 0 0 107 _ [] U115
                  refine j_blx (F := fX11) tb_X11 (nn_ _) bk_X11_readStatement_e_107 bs_X11_readStatement_e_107 hz (fun K hK => ?_)
                  refine (show po_X11_readStatement_e T a t v U115 (none) from ?_)
                  have hq := qU115
                  have fb116 : fr_ [(269, [])] T U15 := fr_u (fr_0 _ _) hU15 rfl
                  rw [show (fun j => U15 200 0 j) = fun j => T 200 0 j from funext fun j => fb116 200 0 j rfl, show U15 111 0 1 = T 111 0 1 from fb116 111 0 1 rfl] at hq
                  rw [show U15 111 0 57 = T 111 0 60 by omega] at hq
                  rcases hq with ⟨z1, z2⟩ | ⟨z1, ⟨v9, z2, z3⟩, z4⟩
                  · exact ⟨rfl, fr_t (fr_u (fr_0 _ _) hU15 rfl) (fr_s fU115 rfl), Or.inl ⟨z1, (stf9_o hwi hx0 (by omega)).trans (bn9_l z2)⟩⟩
                  · exact ⟨rfl, fr_t (fr_u (fr_0 _ _) hU15 rfl) (fr_s fU115 rfl), Or.inr ⟨z1, ⟨u9_ t x5 1, v9, (stf9_o hwi hx0 (by omega)).trans (bn9_r z2), TA9_f ta fU115 (fun _ => rfl), z3⟩, by omega, by omega, by omega⟩⟩
              · exfalso; omega
            · have hx1 : t x5 ≠ 0 := by omega
              intro b117 b117b
              refine hK 80 _ [vI (T 111 0 59), vI 5, vR 111 0] T ?_
              refine j_callV (y := yX11_bad) (Yc := zX11_bad) (rest := []) [vI 5, vI (T 111 0 59)] (ct_X11_bad_e (T := T) (by omega) (by omega)) cl_X11_281 (qd_c (by decide +kernel)) (nn_ _) rfl (rf_of rfl) (Nat.le_of_ble_eq_true rfl) (Nat.le_of_ble_eq_true rfl) (Nat.le_of_ble_eq_true rfl) rfl ?_
              rintro U118 _ ⟨rfl, fU118, qU118⟩
              show J_ zX11_readStatement T (po_X11_readStatement_e T a t v) 0 0 83 _ [] U118
              refine j_blx (F := fX11) tb_X11 (nn_ _) bk_X11_readStatement_e_83 bs_X11_readStatement_e_83 hz (fun K hK => ?_)
              intro b119 b119b
              refine And.intro (fun c120 => ?_) (fun c120 => ?_)
              · exfalso; omega
              · refine (show po_X11_readStatement_e T a t v U118 (none) from ?_)
                have e121 : U118 111 0 57 = T 111 0 57 := fU118 111 0 57 rfl
                refine ⟨rfl, fr_t (fr_0 _ _) (fr_s fU118 rfl), Or.inl ⟨by omega, ?_⟩⟩
                rw [show U118 111 0 62 = 5 by omega, show U118 111 0 63 = T 111 0 59 by omega]
                exact stf9_5 hwi hk h0 hx1
        · have hwn := wx5
          have ew : x5 = -1 := by omega
          rw [ew] at hwn
          intro b122 b122b
          refine hK 55 _ [vI (T 111 0 59), vI 3, vR 111 0] T ?_
          refine j_callV (y := yX11_bad) (Yc := zX11_bad) (rest := []) [vI 3, vI (T 111 0 59)] (ct_X11_bad_e (T := T) (by omega) (by omega)) cl_X11_281 (qd_c (by decide +kernel)) (nn_ _) rfl (rf_of rfl) (Nat.le_of_ble_eq_true rfl) (Nat.le_of_ble_eq_true rfl) (Nat.le_of_ble_eq_true rfl) rfl ?_
          rintro U123 _ ⟨rfl, fU123, qU123⟩
          show J_ zX11_readStatement T (po_X11_readStatement_e T a t v) 0 0 58 _ [] U123
          refine j_blx (F := fX11) tb_X11 (nn_ _) bk_X11_readStatement_e_58 bs_X11_readStatement_e_58 hz (fun K hK => ?_)
          intro b124 b124b
          refine And.intro (fun c125 => ?_) (fun c125 => ?_)
          · refine hK 83 _ [] U123 ?_
            refine j_blx (F := fX11) tb_X11 (nn_ _) bk_X11_readStatement_e_83 bs_X11_readStatement_e_83 hz (fun K hK => ?_)
            intro b126 b126b
            refine And.intro (fun c127 => ?_) (fun c127 => ?_)
            · exfalso; omega
            · refine (show po_X11_readStatement_e T a t v U123 (none) from ?_)
              have e128 : U123 111 0 57 = T 111 0 57 := fU123 111 0 57 rfl
              refine ⟨rfl, fr_t (fr_0 _ _) (fr_s fU123 rfl), Or.inl ⟨by omega, ?_⟩⟩
              rw [show U123 111 0 62 = 3 by omega, show U123 111 0 63 = T 111 0 59 by omega]
              exact stf9_w (wof9_3 ds9_0 hk h0 (by omega) hwn)
          · exfalso; omega
  · intro b129 b129b
    refine hK 14 _ [vI (T 111 0 59), vI 2, vR 111 0] T ?_
    refine j_callV (y := yX11_bad) (Yc := zX11_bad) (rest := []) [vI 2, vI (T 111 0 59)] (ct_X11_bad_e (T := T) (by omega) (by omega)) cl_X11_281 (qd_c (by decide +kernel)) (nn_ _) rfl (rf_of rfl) (Nat.le_of_ble_eq_true rfl) (Nat.le_of_ble_eq_true rfl) (Nat.le_of_ble_eq_true rfl) rfl ?_
    rintro U130 _ ⟨rfl, fU130, qU130⟩
    show J_ zX11_readStatement T (po_X11_readStatement_e T a t v) 0 0 17 _ [] U130
    refine j_blx (F := fX11) tb_X11 (nn_ _) bk_X11_readStatement_e_17 bs_X11_readStatement_e_17 hz (fun K hK => ?_)
    intro b131 b131b
    refine And.intro (fun c132 => ?_) (fun c132 => ?_)
    · refine hK 35 _ [] U130 ?_
      refine j_blx (F := fX11) tb_X11 (nn_ _) bk_X11_readStatement_e_35 bs_X11_readStatement_e_35 hz (fun K hK => ?_)
      intro b133 b133b
      refine And.intro (fun c134 => ?_) (fun c134 => ?_)
      · refine hK 58 [some (vR 111 0), some (vI (-1))] [] U130 ?_
        refine j_blx (F := fX11) tb_X11 (nn_ _) bk_X11_readStatement_e_58 bs_X11_readStatement_e_58 hz (fun K hK => ?_)
        intro b135 b135b
        refine And.intro (fun c136 => ?_) (fun c136 => ?_)
        · refine hK 83 _ [] U130 ?_
          refine j_blx (F := fX11) tb_X11 (nn_ _) bk_X11_readStatement_e_83 bs_X11_readStatement_e_83 hz (fun K hK => ?_)
          intro b137 b137b
          refine And.intro (fun c138 => ?_) (fun c138 => ?_)
          · exfalso; omega
          · refine (show po_X11_readStatement_e T a t v U130 (none) from ?_)
            have e139 : U130 111 0 57 = T 111 0 57 := fU130 111 0 57 rfl
            refine ⟨rfl, fr_t (fr_0 _ _) (fr_s fU130 rfl), Or.inl ⟨by omega, ?_⟩⟩
            rw [show U130 111 0 62 = 2 by omega, show U130 111 0 63 = T 111 0 59 by omega]
            exact stf9_w (wof9_2 hk h0 (by omega) (by omega))
        · exfalso; omega
      · exfalso; omega
    · exfalso; omega
-- what is read keeps the bounds of the rules
def GV9_ (v : Int → Int) : Prop := (∀ w : Int, 0 ≤ w → w < 23 → (rb_ w).1 ≤ v w ∧ v w ≤ (rb_ w).2) ∧ v 2 ≤ v 1 ∧ v 3 ≤ v 2
theorem gb9_u {v : Int → Int} {w x : Int} (h : GV9_ v) (hx : (rb_ w).1 ≤ x ∧ x ≤ (rb_ w).2) (h1 : w ≠ 1) (h2 : w ≠ 2) (h3 : w ≠ 3) : GV9_ (u9_ v w x) := by
  refine ⟨fun j a b => ?_, ?_, ?_⟩
  · by_cases z : j = w
    · rw [z, u9_e]
      exact hx
    · rw [u9_n z]
      exact h.1 j a b
  · rw [u9_n (fun z => h2 z.symm), u9_n (fun z => h1 z.symm)]
    exact h.2.1
  · rw [u9_n (fun z => h3 z.symm), u9_n (fun z => h2 z.symm)]
    exact h.2.2
theorem rb9_0 : (rb_ 0) = (0, 3) ∧ (rb_ 1) = (0, 9) ∧ (rb_ 2) = (0, 9) ∧ (rb_ 3) = (0, 9) ∧ (rb_ 4) = (0, 7) ∧ (rb_ 5) = (0, 1) := by decide +kernel
theorem rb9_n : ∀ k : Nat, k < 16 → (rb_ (k : Int)).1 = (sa_ 1).getD k 0 ∧ (rb_ (k : Int)).2 = (sa_ 2).getD k 0 := by decide +kernel
theorem rb9_i {w : Int} (h0 : 0 ≤ w) (h1 : w < 16) : (rb_ w).1 = (sa_ 1).getD w.toNat 0 ∧ (rb_ w).2 = (sa_ 2).getD w.toNat 0 := by
  have h := rb9_n w.toNat (by omega)
  rw [show ((w.toNat : Nat) : Int) = w by omega] at h
  exact h
theorem rb9_m : ∀ k : Nat, k < 7 → rb_ ((16 + k : Nat) : Int) = (-1, 6) := by decide +kernel
theorem rb9_k {w : Int} (h0 : 16 ≤ w) (h1 : w < 23) : rb_ w = (-1, 6) := by
  have h := rb9_m (w - 16).toNat (by omega)
  rw [show ((16 + (w - 16).toNat : Nat) : Int) = w by omega] at h
  exact h
theorem gb9_p {v : Int → Int} {x y z : Int} (h : GV9_ v) (hx : 0 ≤ x ∧ x ≤ 9) (hy : 0 ≤ y ∧ y ≤ x) (hz : 0 ≤ z ∧ z ≤ y) : GV9_ (u9_ (u9_ (u9_ v 1 x) 2 y) 3 z) := by
  refine ⟨fun j a b => ?_, ?_, ?_⟩
  · by_cases z3 : j = 3
    · rw [z3, u9_e, rb9_0.2.2.2.1]
      exact ⟨hz.1, by show z ≤ 9; omega⟩
    · rw [u9_n z3]
      by_cases z2 : j = 2
      · rw [z2, u9_e, rb9_0.2.2.1]
        exact ⟨hy.1, by show y ≤ 9; omega⟩
      · rw [u9_n z2]
        by_cases z1 : j = 1
        · rw [z1, u9_e, rb9_0.2.1]
          exact hx
        · rw [u9_n z1]
          exact h.1 j a b
  · rw [u9_n (by decide), u9_e, u9_n (by decide), u9_n (by decide), u9_e]
    exact hy.2
  · rw [u9_e, u9_n (by decide), u9_e]
    exact hz.2
theorem gb9_o {v : Int → Int} (h : GV9_ v) : GV9_ (ov9_ v) := by
  refine ⟨fun j a b => ?_, ?_, ?_⟩
  · by_cases z : j = 4
    · rw [z, ov9_4, rb9_0.2.2.2.2.1]
      exact ⟨by decide, by decide⟩
    · by_cases y : 16 ≤ j
      · rw [ov9_k y, rb9_k y b]
        exact ⟨by decide, by decide⟩
      · rw [ov9_i z (by omega)]
        exact h.1 j a b
  · rw [ov9_i (by decide) (by decide), ov9_i (by decide) (by decide)]
    exact h.2.1
  · rw [ov9_i (by decide) (by decide), ov9_i (by decide) (by decide)]
    exact h.2.2
theorem gb9_n : ∀ k : Nat, k < 23 → (rb_ (k : Int)).1 ≤ dv9_ (k : Int) ∧ dv9_ (k : Int) ≤ (rb_ (k : Int)).2 := by decide +kernel
theorem gb9_d : GV9_ dv9_ := by
  refine ⟨fun w h0 h1 => ?_, by decide +kernel, by decide +kernel⟩
  have h := gb9_n w.toNat (by omega)
  rw [show ((w.toNat : Nat) : Int) = w by omega] at h
  exact h
theorem wd9_x (w : List Int) (ts : List (Int × Int × Int)) (b : Int → Int) (s e : Int) : WD9_ w ts b s e (wdf9_ w ts b s e) := by
  refine Classical.epsilon_spec (p := fun x : Int => WD9_ w ts b s e x) ?_
  by_cases z : ∃ k0 n e0, (k0, n, e0) ∈ ts ∧ EW9_ w b s e k0 e0
  · obtain ⟨k0, n, e0, h1, h2⟩ := z
    exact ⟨n, Or.inl ⟨k0, e0, h1, h2⟩⟩
  · exact ⟨-1, Or.inr ⟨rfl, fun k0 n e0 h1 h2 => z ⟨k0, n, e0, h1, h2⟩⟩⟩
theorem wof9_g {w : List Int} {ts : List (Int × Int × Int)} {c b : Int → Int} {L nW n a : Int} {q : Int × Int} (ht : TB9_ w ts c L nW) (h : wof9_ w ts b n a = Sum.inr q) : 0 ≤ q.2 ∧ q.2 < nW := by
  unfold wof9_ at h
  by_cases z5 : (tkf9_ b n a).2.2 = 5
  · rw [if_pos z5] at h
    cases h
  · rw [if_neg z5] at h
    by_cases z1 : (tkf9_ b n a).2.2 = 1
    · rw [if_pos z1] at h
      by_cases z : wdf9_ w ts b (tkf9_ b n a).1 (tkf9_ b n a).2.1 = -1
      · rw [if_pos z] at h
        cases h
      · rw [if_neg z] at h
        cases h
        rcases wd9_x w ts b (tkf9_ b n a).1 (tkf9_ b n a).2.1 with ⟨k0, e0, hm, _⟩ | ⟨hx, _⟩
        · have := (ht.1 _ _ _ hm).1
          exact ⟨this.1, this.2.1⟩
        · exact absurd hx z
    · rw [if_neg z1] at h
      cases h
theorem nrf9_g {b : Int → Int} {n a lo mo : Int} {q : Int × Int} (h : nrf9_ b n a lo mo = Sum.inr q) : lo ≤ q.2 ∧ q.2 ≤ mo := by
  unfold nrf9_ at h
  by_cases z5 : (tkf9_ b n a).2.2 = 5
  · rw [if_pos z5] at h
    cases h
  · rw [if_neg z5] at h
    by_cases z2 : (tkf9_ b n a).2.2 = 2
    · rw [if_pos z2] at h
      by_cases z : lo ≤ nv9_ b (tkf9_ b n a).1 ((tkf9_ b n a).2.1 - (tkf9_ b n a).1).toNat ∧ nv9_ b (tkf9_ b n a).1 ((tkf9_ b n a).2.1 - (tkf9_ b n a).1).toNat ≤ mo
      · rw [if_pos z] at h
        cases h
        exact z
      · rw [if_neg z] at h
        cases h
    · rw [if_neg z2] at h
      cases h
theorem bn9_i {α β : Type} {r : Qr9_ α} {f : α → Qr9_ β} {y : β} (h : bn9_ r f = Sum.inr y) : ∃ q, r = Sum.inr q ∧ f q = Sum.inr y := by
  cases r with
  | inl p => cases h
  | inr q => exact ⟨q, rfl, h⟩
theorem pnf9_g {b : Int → Int} {n a : Int} {q : Int × Int × Int × Int} (h : pnf9_ b n a = Sum.inr q) : (0 ≤ q.2.1 ∧ q.2.1 ≤ 9) ∧ (0 ≤ q.2.2.1 ∧ q.2.2.1 ≤ q.2.1) ∧ (0 ≤ q.2.2.2 ∧ q.2.2.2 ≤ q.2.2.1) := by
  unfold pnf9_ at h
  obtain ⟨x, h1, h2⟩ := bn9_i h
  obtain ⟨y, h3, h4⟩ := bn9_i h2
  obtain ⟨z, h5, h6⟩ := bn9_i h4
  cases h6
  have a1 := nrf9_g h1
  have a2 := nrf9_g h3
  have a3 := nrf9_g h5
  exact ⟨a1, a2, a3⟩
theorem orf9_g {b : Int → Int} {n : Int} : ∀ (f : Nat) {a c : Int} {t v : Int → Int} {p : Int × (Int → Int)}, KS9_ t c → GV9_ v → orf9_ f b n a t c v = Sum.inr p → GV9_ p.2
  | 0, _, _, _, _, _, _, _, h => by cases h
  | f + 1, a, c, t, v, p, hk, hv, h => by
      unfold orf9_ at h
      obtain ⟨q, h1, h2⟩ := bn9_i h
      have hx := wof9_g tb9_2 h1
      have hb := ks9_b hk
      by_cases z : t q.2 = 0
      · have hc : c < 7 := Classical.byContradiction fun y => ks9_7 hk (by omega) hx.1 hx.2 z
        have g1 : GV9_ (u9_ (u9_ v (16 + c) q.2) 4 (c + 1)) := by
          refine gb9_u (gb9_u hv ?_ (by omega) (by omega) (by omega)) ?_ (by decide) (by decide) (by decide)
          · rw [rb9_k (by omega) (by omega)]
            exact ⟨by show (-1 : Int) ≤ q.2; omega, by show q.2 ≤ 6; omega⟩
          · rw [rb9_0.2.2.2.2.1]
            exact ⟨by show (0 : Int) ≤ c + 1; omega, by show c + 1 ≤ 7; omega⟩
        rw [if_pos z] at h2
        by_cases z4 : (tkf9_ b n q.1).2.2 = 4
        · rw [if_pos z4] at h2
          exact orf9_g f (ks9_s hk hx.1 hx.2 z) g1 h2
        · rw [if_neg z4] at h2
          obtain ⟨e, h3, h4⟩ := bn9_i h2
          cases h4
          exact g1
      · rw [if_neg z] at h2
        cases h2
theorem bdf9_g {b v : Int → Int} {n a x : Int} {p : Int × (Int → Int)} (hv : GV9_ v) (hx : 0 ≤ x ∧ x < 14) (h2 : x ≠ 2) (h : bdf9_ b n a x v = Sum.inr p) : GV9_ p.2 := by
  by_cases z0 : x = 0
  · rw [bdf9_0 z0] at h
    obtain ⟨q, h1, h3⟩ := bn9_i h
    cases h3
    have y := wof9_g tb9_1 h1
    refine gb9_u hv ?_ (by decide) (by decide) (by decide)
    rw [rb9_0.1]
    exact ⟨y.1, by show q.2 ≤ 3; omega⟩
  · by_cases z1 : x = 1
    · rw [bdf9_1 z1] at h
      obtain ⟨q, h1, h3⟩ := bn9_i h
      cases h3
      have y := pnf9_g h1
      exact gb9_p hv y.1 y.2.1 y.2.2
    · by_cases z3 : x = 3
      · rw [bdf9_3 z3] at h
        cases h
        refine gb9_u hv ?_ (by decide) (by decide) (by decide)
        rw [rb9_0.2.2.2.2.2]
        exact ⟨by decide, by decide⟩
      · rw [bdf9_4 (by omega)] at h
        obtain ⟨q, h1, h3⟩ := bn9_i h
        cases h3
        have y := nrf9_g h1
        have e := rb9_i (w := x + 2) (by omega) (by omega)
        refine gb9_u hv ?_ (by omega) (by omega) (by omega)
        rw [e.1, e.2]
        exact y
theorem stf9_g {b t v : Int → Int} {n a : Int} {y : Int × (Int → Int) × (Int → Int)} (hv : GV9_ v) (h : stf9_ b n a t v = Sum.inr y) : GV9_ y.2.2 := by
  unfold stf9_ at h
  obtain ⟨q, h1, h2⟩ := bn9_i h
  by_cases z : t q.2 = 0
  · rw [if_pos z] at h2
    by_cases z2 : q.2 = 2
    · rw [if_pos z2] at h2
      obtain ⟨p, h3, h4⟩ := bn9_i h2
      cases h4
      exact orf9_g 9 ks9_0 (gb9_o hv) h3
    · rw [if_neg z2] at h2
      obtain ⟨p, h3, h4⟩ := bn9_i h2
      obtain ⟨e, h5, h6⟩ := bn9_i h4
      cases h6
      exact bdf9_g hv (wof9_g tb9_0 h1) z2 h3
  · rw [if_neg z] at h2
    cases h2
theorem rdf9_g {b : Int → Int} {n : Int} : ∀ (f : Nat) {a : Int} {t v v' : Int → Int}, GV9_ v → rdf9_ f b n a t v = Sum.inr v' → GV9_ v'
  | 0, _, _, _, _, _, h => by cases h
  | f + 1, a, t, v, v', hv, h => by
      unfold rdf9_ at h
      by_cases z : (tkf9_ b n a).2.2 = 0
      · rw [if_pos z] at h
        cases h
        exact hv
      · rw [if_neg z] at h
        obtain ⟨y, h1, h2⟩ := bn9_i h
        exact rdf9_g f (stf9_g hv h1) h2
/-- behind the last key there is none -/
def KV9_ (v : Int → Int) : Prop := ∀ k, 0 ≤ k → k < 7 → ¬ k < v 4 → v (16 + k) = -1
theorem kv9_u {v : Int → Int} {w x : Int} (h : KV9_ v) (h4 : w ≠ 4) (h16 : w < 16) : KV9_ (u9_ v w x) := fun k a b c => by
  rw [u9_n (fun z => h4 z.symm)] at c
  rw [u9_n (show 16 + k ≠ w by omega)]
  exact h k a b c
theorem kv9_o {v : Int → Int} : KV9_ (ov9_ v) := fun k a b c => ov9_k (by omega)
theorem kv9_s {v : Int → Int} {c x : Int} (h : KV9_ v) (h4 : v 4 = c) : KV9_ (u9_ (u9_ v (16 + c) x) 4 (c + 1)) := fun k a b d => by
  rw [u9_e] at d
  rw [u9_n (show 16 + k ≠ 4 by omega), u9_n (show 16 + k ≠ 16 + c by omega)]
  exact h k a b (by omega)
theorem kv9_d : KV9_ dv9_ := by
  have h : ∀ k : Nat, k < 7 → ¬ (k : Int) < dv9_ 4 → dv9_ (16 + (k : Int)) = -1 := by decide +kernel
  intro k a b c
  have g := h k.toNat (by omega)
  rw [show ((k.toNat : Nat) : Int) = k by omega] at g
  exact g c
theorem orf9_v {b : Int → Int} {n : Int} : ∀ (f : Nat) {a c : Int} {t v : Int → Int} {p : Int × (Int → Int)}, v 4 = c → KV9_ v → orf9_ f b n a t c v = Sum.inr p → KV9_ p.2
  | 0, _, _, _, _, _, _, _, h => by cases h
  | f + 1, a, c, t, v, p, hk, hv, h => by
      unfold orf9_ at h
      obtain ⟨q, h1, h2⟩ := bn9_i h
      have g1 : KV9_ (u9_ (u9_ v (16 + c) q.2) 4 (c + 1)) := kv9_s hv hk
      by_cases z : t q.2 = 0
      · rw [if_pos z] at h2
        by_cases z4 : (tkf9_ b n q.1).2.2 = 4
        · rw [if_pos z4] at h2
          exact orf9_v f u9_e g1 h2
        · rw [if_neg z4] at h2
          obtain ⟨e, h3, h4⟩ := bn9_i h2
          cases h4
          exact g1
      · rw [if_neg z] at h2
        cases h2
theorem bdf9_v {b v : Int → Int} {n a x : Int} {p : Int × (Int → Int)} (hv : KV9_ v) (hx : 0 ≤ x ∧ x < 14) (h2 : x ≠ 2) (h : bdf9_ b n a x v = Sum.inr p) : KV9_ p.2 := by
  by_cases z0 : x = 0
  · rw [bdf9_0 z0] at h
    obtain ⟨q, h1, h3⟩ := bn9_i h
    cases h3
    exact kv9_u hv (by decide) (by decide)
  · by_cases z1 : x = 1
    · rw [bdf9_1 z1] at h
      obtain ⟨q, h1, h3⟩ := bn9_i h
      cases h3
      exact kv9_u (kv9_u (kv9_u hv (by decide) (by decide)) (by decide) (by decide)) (by decide) (by decide)
    · by_cases z3 : x = 3
      · rw [bdf9_3 z3] at h
        cases h
        exact kv9_u hv (by decide) (by decide)
      · rw [bdf9_4 (by omega)] at h
        obtain ⟨q, h1, h3⟩ := bn9_i h
        cases h3
        exact kv9_u hv (by omega) (by omega)
theorem stf9_v {b t v : Int → Int} {n a : Int} {y : Int × (Int → Int) × (Int → Int)} (hv : KV9_ v) (h : stf9_ b n a t v = Sum.inr y) : KV9_ y.2.2 := by
  unfold stf9_ at h
  obtain ⟨q, h1, h2⟩ := bn9_i h
  by_cases z : t q.2 = 0
  · rw [if_pos z] at h2
    by_cases z2 : q.2 = 2
    · rw [if_pos z2] at h2
      obtain ⟨p, h3, h4⟩ := bn9_i h2
      cases h4
      exact orf9_v 9 ov9_4 kv9_o h3
    · rw [if_neg z2] at h2
      obtain ⟨p, h3, h4⟩ := bn9_i h2
      obtain ⟨e, h5, h6⟩ := bn9_i h4
      cases h6
      exact bdf9_v hv (wof9_g tb9_0 h1) z2 h3
  · rw [if_neg z] at h2
    cases h2
theorem rdf9_v {b : Int → Int} {n : Int} : ∀ (f : Nat) {a : Int} {t v v' : Int → Int}, KV9_ v → rdf9_ f b n a t v = Sum.inr v' → KV9_ v'
  | 0, _, _, _, _, _, h => by cases h
  | f + 1, a, t, v, v', hv, h => by
      unfold rdf9_ at h
      by_cases z : (tkf9_ b n a).2.2 = 0
      · rw [if_pos z] at h
        cases h
        exact hv
      · rw [if_neg z] at h
        obtain ⟨y, h1, h2⟩ := bn9_i h
        exact rdf9_v f (stf9_v hv h1) h2
-- competition of the reference
/-- what a competition's call does to the reference -/
def CR9_ (T T' : Zt) (x : Int) : Prop := (T 111 0 6 = 4 ∧ x = -5 ∧ T' 111 0 2 = -1 ∧ T' 111 0 1 = T 111 0 1 ∧ T' 111 0 6 = T 111 0 6) ∨ (T 111 0 6 < 4 ∧ T' 111 0 1 = 0 ∧ ((T' 111 0 6 = T 111 0 6 ∧ ∃ k, k ≠ 0 ∧ x = -10 - k ∧ rdf9_ 402 (cl9_ (T 111 0 1) (fun j => T 200 0 j)) (T 111 0 1) 0 (fun _ => 0) dv9_ = Sum.inl (k, T' 111 0 2)) ∨ (x = T 111 0 6 ∧ T' 111 0 6 = T 111 0 6 + 1 ∧ T' 111 0 2 = -1 ∧ ∃ v, rdf9_ 402 (cl9_ (T 111 0 1) (fun j => T 200 0 j)) (T 111 0 1) 0 (fun _ => 0) dv9_ = Sum.inr v ∧ ∀ j, 0 ≤ j → j < 23 → T' 205 0 (23 * T 111 0 6 + j) = v j)))
theorem bk_X11_competition_e_113 : ck_ fX11 (some .int) cX11_competition 113 [.iload 2, .iconst 23, .if_icmp .ge 145, .aload 0, .tableswitch 0 11 5 #[], .iconst 23, .aload 0, .tableswitch 0 11 6 #[], .imul, .iload 2, .iadd, .aload 0, .tableswitch 0 11 4 #[], .iload 2, .iaload, .iastore, .iinc 2 1, .goto 113] 145 = true := qck_r (nn_ _) (by decide +kernel)
theorem bs_X11_competition_e_113 {P : Zt → Option Zv → Prop} (K : Int → Zl → List Zv → Zt → Prop) : sx_ K P [.iload 2, .iconst 23, .if_icmp .ge 145, .aload 0, .tableswitch 0 11 5 #[], .iconst 23, .aload 0, .tableswitch 0 11 6 #[], .imul, .iload 2, .iadd, .aload 0, .tableswitch 0 11 4 #[], .iload 2, .iaload, .iastore, .iinc 2 1, .goto 113] 145 = x_iload 2 (x_iconst 23 (x_if_icmp .ge 145 K (x_aload 0 (x_g1 111 205 (x_iconst 23 (x_aload 0 (x_g0 111 6 0 4 (x_imul (x_iload 2 (x_iadd (x_aload 0 (x_g1 111 204 (x_iload 2 (x_iaload (x_iastore (x_iinc 2 1 (x_goto 113 K))))))))))))))))) := ((xe_iload 2).trans (congrArg (x_iload 2) ((xe_iconst 23).trans (congrArg (x_iconst 23) ((xe_if_icmp .ge 145).trans (congrArg (x_if_icmp .ge 145 K) ((xe_aload 0).trans (congrArg (x_aload 0) ((xe_g1 (kk := 111) rfl tl_11_5).trans (congrArg (x_g1 111 205) ((xe_iconst 23).trans (congrArg (x_iconst 23) ((xe_aload 0).trans (congrArg (x_aload 0) ((xe_g0 (kk := 111) rfl tl_11_6).trans (congrArg (x_g0 111 6 0 4) ((xe_imul).trans (congrArg (x_imul) ((xe_iload 2).trans (congrArg (x_iload 2) ((xe_iadd).trans (congrArg (x_iadd) ((xe_aload 0).trans (congrArg (x_aload 0) ((xe_g1 (kk := 111) rfl tl_11_4).trans (congrArg (x_g1 111 204) ((xe_iload 2).trans (congrArg (x_iload 2) ((xe_iaload).trans (congrArg (x_iaload) ((xe_iastore).trans (congrArg (x_iastore) ((xe_iinc 2 1).trans (congrArg (x_iinc 2 1) (xe_goto 113)))))))))))))))))))))))))))))))))))
theorem bk_X11_competition_e_145 : ck_ fX11 (some .int) cX11_competition 145 [.aload 0, .dup, .tableswitch 0 11 6 #[], .iconst 1, .iadd, .tableswitch 1 11 6 #[], .aload 0, .tableswitch 0 11 6 #[], .iconst 1, .isub, .ireturn] 162 = true := qck_r (nn_ _) (by decide +kernel)
theorem bs_X11_competition_e_145 {P : Zt → Option Zv → Prop} (K : Int → Zl → List Zv → Zt → Prop) : sx_ K P [.aload 0, .dup, .tableswitch 0 11 6 #[], .iconst 1, .iadd, .tableswitch 1 11 6 #[], .aload 0, .tableswitch 0 11 6 #[], .iconst 1, .isub, .ireturn] 162 = x_aload 0 (x_dup (x_g0 111 6 0 4 (x_iconst 1 (x_iadd (x_p 111 6 0 4 (x_aload 0 (x_g0 111 6 0 4 (x_iconst 1 (x_isub (x_ireturn P)))))))))) := ((xe_aload 0).trans (congrArg (x_aload 0) ((xe_dup).trans (congrArg (x_dup) ((xe_g0 (kk := 111) rfl tl_11_6).trans (congrArg (x_g0 111 6 0 4) ((xe_iconst 1).trans (congrArg (x_iconst 1) ((xe_iadd).trans (congrArg (x_iadd) ((xe_p (kk := 111) rfl tl_11_6).trans (congrArg (x_p 111 6 0 4) ((xe_aload 0).trans (congrArg (x_aload 0) ((xe_g0 (kk := 111) rfl tl_11_6).trans (congrArg (x_g0 111 6 0 4) ((xe_iconst 1).trans (congrArg (x_iconst 1) ((xe_isub).trans (congrArg (x_isub) (xe_ireturn)))))))))))))))))))))
theorem bk_X11_competition_e_83 : ck_ fX11 (some .int) cX11_competition 83 [.aload 0, .iconst 0, .tableswitch 1 11 1 #[], .aload 0, .aload 0, .tableswitch 0 11 63 #[], .tableswitch 1 11 2 #[], .aload 0, .tableswitch 0 11 62 #[], .ifCond .eq 111, .iconst (-10), .aload 0, .tableswitch 0 11 62 #[], .isub, .ireturn] 111 = true := qck_r (nn_ _) (by decide +kernel)
theorem bs_X11_competition_e_83 {P : Zt → Option Zv → Prop} (K : Int → Zl → List Zv → Zt → Prop) : sx_ K P [.aload 0, .iconst 0, .tableswitch 1 11 1 #[], .aload 0, .aload 0, .tableswitch 0 11 63 #[], .tableswitch 1 11 2 #[], .aload 0, .tableswitch 0 11 62 #[], .ifCond .eq 111, .iconst (-10), .aload 0, .tableswitch 0 11 62 #[], .isub, .ireturn] 111 = x_aload 0 (x_iconst 0 (x_p 111 1 0 400 (x_aload 0 (x_aload 0 (x_g0 111 63 (-1) 400 (x_p 111 2 (-1) 400 (x_aload 0 (x_g0 111 62 0 5 (x_ifCond .eq 111 K (x_iconst (-10) (x_aload 0 (x_g0 111 62 0 5 (x_isub (x_ireturn P)))))))))))))) := ((xe_aload 0).trans (congrArg (x_aload 0) ((xe_iconst 0).trans (congrArg (x_iconst 0) ((xe_p (kk := 111) rfl tl_11_1).trans (congrArg (x_p 111 1 0 400) ((xe_aload 0).trans (congrArg (x_aload 0) ((xe_aload 0).trans (congrArg (x_aload 0) ((xe_g0 (kk := 111) rfl tl_11_63).trans (congrArg (x_g0 111 63 (-1) 400) ((xe_p (kk := 111) rfl tl_11_2).trans (congrArg (x_p 111 2 (-1) 400) ((xe_aload 0).trans (congrArg (x_aload 0) ((xe_g0 (kk := 111) rfl tl_11_62).trans (congrArg (x_g0 111 62 0 5) ((xe_ifCond .eq 111).trans (congrArg (x_ifCond .eq 111 K) ((xe_iconst (-10)).trans (congrArg (x_iconst (-10)) ((xe_aload 0).trans (congrArg (x_aload 0) ((xe_g0 (kk := 111) rfl tl_11_62).trans (congrArg (x_g0 111 62 0 5) ((xe_isub).trans (congrArg (x_isub) (xe_ireturn)))))))))))))))))))))))))))))
theorem bk_X11_competition_e_111 : ck_ fX11 (some .int) cX11_competition 111 [.iconst 0, .istore 2] 113 = true := qck_r (nn_ _) (by decide +kernel)
theorem bs_X11_competition_e_111 {P : Zt → Option Zv → Prop} (K : Int → Zl → List Zv → Zt → Prop) : sx_ K P [.iconst 0, .istore 2] 113 = x_iconst 0 (x_istore 2 (K 113)) := ((xe_iconst 0).trans (congrArg (x_iconst 0) ((xe_istore 2).trans (congrArg (x_istore 2) xe_nil))))
theorem bk_X11_competition_e_37 : ck_ fX11 (some .int) cX11_competition 37 [.iload 1, .ifCond .eq 83, .aload 0, .tableswitch 0 11 62 #[], .ifCond .ne 83, .aload 0] 49 = true := qck_r (nn_ _) (by decide +kernel)
theorem bs_X11_competition_e_37 {P : Zt → Option Zv → Prop} (K : Int → Zl → List Zv → Zt → Prop) : sx_ K P [.iload 1, .ifCond .eq 83, .aload 0, .tableswitch 0 11 62 #[], .ifCond .ne 83, .aload 0] 49 = x_iload 1 (x_ifCond .eq 83 K (x_aload 0 (x_g0 111 62 0 5 (x_ifCond .ne 83 K (x_aload 0 (K 49)))))) := ((xe_iload 1).trans (congrArg (x_iload 1) ((xe_ifCond .eq 83).trans (congrArg (x_ifCond .eq 83 K) ((xe_aload 0).trans (congrArg (x_aload 0) ((xe_g0 (kk := 111) rfl tl_11_62).trans (congrArg (x_g0 111 62 0 5) ((xe_ifCond .ne 83).trans (congrArg (x_ifCond .ne 83 K) ((xe_aload 0).trans (congrArg (x_aload 0) xe_nil))))))))))))
theorem bk_X11_competition_e_52 : ck_ fX11 (some .int) cX11_competition 52 [.aload 0, .tableswitch 0 11 62 #[], .ifCond .ne 70, .aload 0, .tableswitch 0 11 58 #[], .ifCond .eq 70, .iconst 1, .goto 71] 70 = true := qck_r (nn_ _) (by decide +kernel)
theorem bs_X11_competition_e_52 {P : Zt → Option Zv → Prop} (K : Int → Zl → List Zv → Zt → Prop) : sx_ K P [.aload 0, .tableswitch 0 11 62 #[], .ifCond .ne 70, .aload 0, .tableswitch 0 11 58 #[], .ifCond .eq 70, .iconst 1, .goto 71] 70 = x_aload 0 (x_g0 111 62 0 5 (x_ifCond .ne 70 K (x_aload 0 (x_g0 111 58 0 4 (x_ifCond .eq 70 K (x_iconst 1 (x_goto 71 K))))))) := ((xe_aload 0).trans (congrArg (x_aload 0) ((xe_g0 (kk := 111) rfl tl_11_62).trans (congrArg (x_g0 111 62 0 5) ((xe_ifCond .ne 70).trans (congrArg (x_ifCond .ne 70 K) ((xe_aload 0).trans (congrArg (x_aload 0) ((xe_g0 (kk := 111) rfl tl_11_58).trans (congrArg (x_g0 111 58 0 4) ((xe_ifCond .eq 70).trans (congrArg (x_ifCond .eq 70 K) ((xe_iconst 1).trans (congrArg (x_iconst 1) (xe_goto 71)))))))))))))))
theorem bk_X11_competition_e_70 : ck_ fX11 (some .int) cX11_competition 70 [.iconst 0, .istore 1, .iload 1, .ifCond .eq 37, .aload 0] 77 = true := qck_r (nn_ _) (by decide +kernel)
theorem bs_X11_competition_e_70 {P : Zt → Option Zv → Prop} (K : Int → Zl → List Zv → Zt → Prop) : sx_ K P [.iconst 0, .istore 1, .iload 1, .ifCond .eq 37, .aload 0] 77 = x_iconst 0 (x_istore 1 (x_iload 1 (x_ifCond .eq 37 K (x_aload 0 (K 77))))) := ((xe_iconst 0).trans (congrArg (x_iconst 0) ((xe_istore 1).trans (congrArg (x_istore 1) ((xe_iload 1).trans (congrArg (x_iload 1) ((xe_ifCond .eq 37).trans (congrArg (x_ifCond .eq 37 K) ((xe_aload 0).trans (congrArg (x_aload 0) xe_nil))))))))))
theorem bk_X11_competition_e_71 : ck_ fX11 (some .int) cX11_competition 71 [.istore 1, .iload 1, .ifCond .eq 37, .aload 0] 77 = true := qck_r (nn_ _) (by decide +kernel)
theorem bs_X11_competition_e_71 {P : Zt → Option Zv → Prop} (K : Int → Zl → List Zv → Zt → Prop) : sx_ K P [.istore 1, .iload 1, .ifCond .eq 37, .aload 0] 77 = x_istore 1 (x_iload 1 (x_ifCond .eq 37 K (x_aload 0 (K 77)))) := ((xe_istore 1).trans (congrArg (x_istore 1) ((xe_iload 1).trans (congrArg (x_iload 1) ((xe_ifCond .eq 37).trans (congrArg (x_ifCond .eq 37 K) ((xe_aload 0).trans (congrArg (x_aload 0) xe_nil))))))))
theorem bk_X11_competition_e_80 : ck_ fX11 (some .int) cX11_competition 80 [.goto 37] 83 = true := qck_r (nn_ _) (by decide +kernel)
theorem bs_X11_competition_e_80 {P : Zt → Option Zv → Prop} (K : Int → Zl → List Zv → Zt → Prop) : sx_ K P [.goto 37] 83 = x_goto 37 K := (xe_goto 37)
theorem bk_X11_competition_e_0 : ck_ fX11 (some .int) cX11_competition 0 [.aload 0, .tableswitch 0 11 6 #[], .iconst 4, .if_icmp .ne 16, .aload 0, .iconst (-1), .tableswitch 1 11 2 #[], .iconst (-5), .ireturn] 16 = true := qck_r (nn_ _) (by decide +kernel)
theorem bs_X11_competition_e_0 {P : Zt → Option Zv → Prop} (K : Int → Zl → List Zv → Zt → Prop) : sx_ K P [.aload 0, .tableswitch 0 11 6 #[], .iconst 4, .if_icmp .ne 16, .aload 0, .iconst (-1), .tableswitch 1 11 2 #[], .iconst (-5), .ireturn] 16 = x_aload 0 (x_g0 111 6 0 4 (x_iconst 4 (x_if_icmp .ne 16 K (x_aload 0 (x_iconst (-1) (x_p 111 2 (-1) 400 (x_iconst (-5) (x_ireturn P)))))))) := ((xe_aload 0).trans (congrArg (x_aload 0) ((xe_g0 (kk := 111) rfl tl_11_6).trans (congrArg (x_g0 111 6 0 4) ((xe_iconst 4).trans (congrArg (x_iconst 4) ((xe_if_icmp .ne 16).trans (congrArg (x_if_icmp .ne 16 K) ((xe_aload 0).trans (congrArg (x_aload 0) ((xe_iconst (-1)).trans (congrArg (x_iconst (-1)) ((xe_p (kk := 111) rfl tl_11_2).trans (congrArg (x_p 111 2 (-1) 400) ((xe_iconst (-5)).trans (congrArg (x_iconst (-5)) (xe_ireturn)))))))))))))))))
theorem bk_X11_competition_e_16 : ck_ fX11 (some .int) cX11_competition 16 [.aload 0, .iconst 0, .tableswitch 1 11 57 #[], .aload 0, .iconst 0, .tableswitch 1 11 62 #[], .aload 0, .iconst (-1), .tableswitch 1 11 63 #[], .aload 0] 32 = true := qck_r (nn_ _) (by decide +kernel)
theorem bs_X11_competition_e_16 {P : Zt → Option Zv → Prop} (K : Int → Zl → List Zv → Zt → Prop) : sx_ K P [.aload 0, .iconst 0, .tableswitch 1 11 57 #[], .aload 0, .iconst 0, .tableswitch 1 11 62 #[], .aload 0, .iconst (-1), .tableswitch 1 11 63 #[], .aload 0] 32 = x_aload 0 (x_iconst 0 (x_p 111 57 0 400 (x_aload 0 (x_iconst 0 (x_p 111 62 0 5 (x_aload 0 (x_iconst (-1) (x_p 111 63 (-1) 400 (x_aload 0 (K 32)))))))))) := ((xe_aload 0).trans (congrArg (x_aload 0) ((xe_iconst 0).trans (congrArg (x_iconst 0) ((xe_p (kk := 111) rfl tl_11_57).trans (congrArg (x_p 111 57 0 400) ((xe_aload 0).trans (congrArg (x_aload 0) ((xe_iconst 0).trans (congrArg (x_iconst 0) ((xe_p (kk := 111) rfl tl_11_62).trans (congrArg (x_p 111 62 0 5) ((xe_aload 0).trans (congrArg (x_aload 0) ((xe_iconst (-1)).trans (congrArg (x_iconst (-1)) ((xe_p (kk := 111) rfl tl_11_63).trans (congrArg (x_p 111 63 (-1) 400) ((xe_aload 0).trans (congrArg (x_aload 0) xe_nil))))))))))))))))))))
theorem bk_X11_competition_e_35 : ck_ fX11 (some .int) cX11_competition 35 [.iconst 1, .istore 1] 37 = true := qck_r (nn_ _) (by decide +kernel)
theorem bs_X11_competition_e_35 {P : Zt → Option Zv → Prop} (K : Int → Zl → List Zv → Zt → Prop) : sx_ K P [.iconst 1, .istore 1] 37 = x_iconst 1 (x_istore 1 (K 37)) := ((xe_iconst 1).trans (congrArg (x_iconst 1) ((xe_istore 1).trans (congrArg (x_istore 1) xe_nil))))
abbrev po_X11_competition_e (T : Zt) : Zt → Option Zv → Prop := fun T' r => ∃ x : Int, r = some (vI x) ∧ fr_ [(111, [1, 2, 6, 57, 58, 59, 60, 61, 62, 63]), (204, []), (269, []), (270, []), (205, [])] T T' ∧ ((x < 0 ∧ T' 111 0 6 = T 111 0 6 ∨ x = T 111 0 6 ∧ T' 111 0 6 = x + 1) ∧ RI_ T' ∧ RW_ T' ∧ (∀ j, j < 23 * T 111 0 6 → T' 205 0 j = T 205 0 j) ∧ CR9_ T T' x)
set_option maxHeartbeats 4000000 in
theorem ct_X11_competition_e {T : Zt} (hC : CW_ T) (hRI : RI_ T) (hRW : RW_ T) : Ct_ yX11_competition zX11_competition T [vR 111 0] (po_X11_competition_e T) := by
  refine ct_of pn_11 rfl rfl (Nat.le_of_ble_eq_true rfl) (fun hT hav => ?_)
  have hz : zX11_competition.2.2.2.1 = some .boolean → ∀ (T' : Zt) (x : Int), po_X11_competition_e T T' (some (vI x)) → 0 ≤ x ∧ x ≤ 1 := fun h => by cases h
  have hb_1 : 0 ≤ T 111 0 1 ∧ T 111 0 1 ≤ 400 := bd_f hT 111 1 tl_11_1 0
  have hb_6 : 0 ≤ T 111 0 6 ∧ T 111 0 6 ≤ 4 := bd_f hT 111 6 tl_11_6 0
  show J_ zX11_competition T (po_X11_competition_e T) 0 0 0 [some (vR 111 0), none, none] [] T
  have c_83 : ∀ (v : Int → Int) (T4 : Zt), (fr_ [(111, [57, 58, 59, 60, 61, 62, 63]), (204, []), (269, []), (270, [])] T T4) → (0 ≤ T 111 0 6 ∧ T 111 0 6 < 4) → ((T4 111 0 62 ≠ 0 ∧ rdf9_ 402 (cl9_ (T 111 0 1) (fun j => T 200 0 j)) (T 111 0 1) 0 (fun _ => 0) dv9_ = Sum.inl (T4 111 0 62, T4 111 0 63)) ∨ (T4 111 0 62 = 0 ∧ rdf9_ 402 (cl9_ (T 111 0 1) (fun j => T 200 0 j)) (T 111 0 1) 0 (fun _ => 0) dv9_ = Sum.inr v)) → (T4 111 0 62 = 0 → VR9_ T4 v) → (T4 111 0 62 = 0 → T4 111 0 63 = -1) → J_ zX11_competition T (po_X11_competition_e T) 0 0 83 [some (vR 111 0), none, none] [] T4 := by
    intro v T4 hf_83 a4 jr4 jv4 j64
    have jrr : T4 111 0 62 = 0 → rdf9_ 402 (cl9_ (T 111 0 1) (fun j => T 200 0 j)) (T 111 0 1) 0 (fun _ => 0) dv9_ = Sum.inr v := fun z => (jr4.resolve_left (fun y => y.1 z)).2
    refine j_ok (fun hT4 _ => ?_)
    have hb4_62 : 0 ≤ T4 111 0 62 ∧ T4 111 0 62 ≤ 5 := bd_f hT4 111 62 tl_11_62 0
    have c_113 : ∀ (nn : Nat) (k : Int) (T2 : Zt), ((23 - k).toNat) ≤ nn → (fr_ [(111, [1, 2, 57, 58, 59, 60, 61, 62, 63]), (204, []), (269, []), (270, []), (205, [])] T T2) → (0 ≤ k ∧ k ≤ 23) → (VR9_ T2 v) → (T2 111 0 1 = 0 ∧ T2 111 0 2 = -1 ∧ T4 111 0 62 = 0) → (∀ j : Int, 0 ≤ j → j < k → T2 205 0 (23 * T 111 0 6 + j) = T2 204 0 j) → (∀ j : Int, j < 23 * T 111 0 6 → T2 205 0 j = T 205 0 j) → J_ zX11_competition T (po_X11_competition_e T) 0 0 113 [some (vR 111 0), none, some (vI k)] [] T2 := by
      intro nn
      induction nn using Nat.strongRecOn with
      | _ nn ih_113 =>
        intro k T2 hm_113 hf_113 k1 g2 w2 r1 r2
        replace hm_113 := fun (_ : Unit) => hm_113
        refine j_blx (F := fX11) tb_X11 (nn_ _) bk_X11_competition_e_113 bs_X11_competition_e_113 hz (fun K hK => ?_)
        refine And.intro (fun c1 => ?_) (fun c1 => ?_)
        · refine hK 145 _ [] T2 ?_
          refine j_blx (F := fX11) tb_X11 (nn_ _) bk_X11_competition_e_145 bs_X11_competition_e_145 hz (fun K hK => ?_)
          intro b2 b2b
          have e3 : T2 111 0 6 = T 111 0 6 := hf_113 111 0 6 rfl
          rw [e3] at b2 b2b ⊢
          refine rg_i (by omega) ?_
          refine bd_i (by omega) ?_
          refine x_nm (fun U4 hU4 => ?_)
          have e5 := up_f hU4
          intro b6 b6b
          have e7 : U4 111 0 6 = (T 111 0 6) + 1 := up_f hU4
          rw [e7] at b6 b6b ⊢
          refine rg_i (by omega) ?_
          refine (show po_X11_competition_e T U4 (some (vI (((T 111 0 6) + 1) - 1))) from ?_)
          have e8 : U4 111 0 6 = (T 111 0 6) + 1 := up_f hU4
          have e9 : U4 111 0 1 = T2 111 0 1 := up_j hU4 (by decide) 111 0
          have e10 : U4 111 0 2 = T2 111 0 2 := up_j hU4 (by decide) 111 0
          have e11 : U4 111 0 6 = (T 111 0 6) + 1 := up_f hU4
          have ec : U4 111 0 6 = T 111 0 6 + 1 := by omega
          have hw := rdf9_g 402 gb9_d (jrr (by omega))
          have ek : ∀ j, U4 205 0 j = T2 205 0 j := fun j => up_k hU4 (by exact Nat.ne_of_beq_eq_false rfl) 0 j
          have rv : ∀ j, 0 ≤ j → j < 23 → U4 205 0 (23 * T 111 0 6 + j) = v j := fun j a b => (ek _).trans ((r1 j a (by omega)).trans (g2 j a b))
          refine ⟨_, rfl, fr_u (fr_t (fr_0 _ _) (fr_s hf_113 rfl)) hU4 rfl, by omega, fun c w a b d e => ?_, fun c a b => ?_, fun j a => (ek j).trans (r2 j a), Or.inr ⟨by omega, by omega, Or.inr ⟨by omega, by omega, by omega, v, jrr (by omega), rv⟩⟩⟩
          · by_cases z : c = T 111 0 6
            · rw [z, rv w d e]; exact hw.1 w d e
            · rw [ek, r2 _ (by omega)]; exact hRI c w a (by omega) d e
          · by_cases z : c = T 111 0 6
            · rw [z, rv 1 (by omega) (by omega), rv 2 (by omega) (by omega), rv 3 (by omega) (by omega)]; exact hw.2
            · rw [ek, ek, ek, r2 _ (by omega), r2 _ (by omega), r2 _ (by omega)]; exact hRW c a (by omega)
        · intro b12 b12b
          have e13 : T2 111 0 6 = T 111 0 6 := hf_113 111 0 6 rfl
          rw [e13] at b12 b12b ⊢
          refine rg_i (by omega) ?_
          refine rg_i (by omega) ?_
          refine ix_i (by omega) ?_
          intro b14 b14b
          refine iy_i (by omega) (by omega) ?_
          refine x_nm (fun U15 hU15 => ?_)
          have e16 := up_f hU15
          refine rg_i (by omega) ?_
          refine hK 113 [some (vR 111 0), none, some (vI (k + 1))] [] U15 ?_
          have e17 : U15 111 0 1 = T2 111 0 1 := up_k hU15 (by exact Nat.ne_of_beq_eq_false rfl) 0 1
          have e18 : U15 111 0 2 = T2 111 0 2 := up_k hU15 (by exact Nat.ne_of_beq_eq_false rfl) 0 2
          refine ih_113 _ ?_ (k + 1) U15 (Nat.le_refl _) ?_ ?_ ?_ ?_ ?_ ?_
          · have hm_113 := hm_113 (); omega
          · exact fr_u (fr_t (fr_0 _ _) (fr_s hf_113 rfl)) hU15 rfl
          · omega
          · exact VR9_f g2 (show fr_ [(205, [])] T2 U15 from fr_u (fr_0 _ _) hU15 rfl) (fun _ => rfl)
          · omega
          · intro j a b
            by_cases z : j = k
            · subst z; rw [up_f hU15]; exact (up_k hU15 (by exact Nat.ne_of_beq_eq_false rfl) 0 j).symm
            · rw [up_g hU15 (by omega), up_k hU15 (by exact Nat.ne_of_beq_eq_false rfl)]; exact r1 j a (by omega)
          · intro j a
            rw [up_g hU15 (by omega)]; exact r2 j a
    refine j_blx (F := fX11) tb_X11 (nn_ _) bk_X11_competition_e_83 bs_X11_competition_e_83 hz (fun K hK => ?_)
    refine bd_i (by omega) ?_
    refine x_nm (fun U19 hU19 => ?_)
    have e20 := up_f hU19
    intro b21 b21b
    have e22 : U19 111 0 63 = T4 111 0 63 := up_j hU19 (by decide) 111 0
    rw [e22] at b21 b21b ⊢
    refine bd_i (by omega) ?_
    refine x_nm (fun U23 hU23 => ?_)
    have e24 := up_f hU23
    intro b25 b25b
    have e26 : U23 111 0 62 = T4 111 0 62 := (up_j hU23 (by decide) 111 0).trans (up_j hU19 (by decide) 111 0)
    rw [e26] at b25 b25b ⊢
    refine And.intro (fun c27 => ?_) (fun c27 => ?_)
    · refine hK 111 _ [] U23 ?_
      refine j_blx (F := fX11) tb_X11 (nn_ _) bk_X11_competition_e_111 bs_X11_competition_e_111 hz (fun K hK => ?_)
      refine hK 113 [some (vR 111 0), none, some (vI 0)] [] U23 ?_
      have e28 : U23 111 0 1 = 0 := (up_j hU23 (by decide) 111 0).trans (up_f hU19)
      have e29 : U23 111 0 2 = T4 111 0 63 := up_f hU23
      refine c_113 _ 0 U23 (Nat.le_refl _) ?_ ?_ ?_ ?_ ?_ ?_
      · exact fr_u (fr_u (fr_t (fr_0 _ _) (fr_s hf_83 rfl)) hU19 rfl) hU23 rfl
      · omega
      · exact VR9_f (jv4 (by omega)) (show fr_ [(111, [2, 1])] T4 U23 from fr_u (fr_u (fr_0 _ _) hU19 rfl) hU23 rfl) (fun _ => rfl)
      · omega
      · intro j a b; omega
      · exact fun j _ => (show fr_ [(111, [2, 1, 57, 58, 59, 60, 61, 62, 63]), (204, []), (269, []), (270, [])] T U23 from fr_u (fr_u (fr_t (fr_0 _ _) (fr_s hf_83 rfl)) hU19 rfl) hU23 rfl) 205 0 j rfl
    · intro b30 b30b
      have e31 : U23 111 0 62 = T4 111 0 62 := (up_j hU23 (by decide) 111 0).trans (up_j hU19 (by decide) 111 0)
      rw [e31] at b30 b30b ⊢
      refine rg_i (by omega) ?_
      refine (show po_X11_competition_e T U23 (some (vI ((-10) - (T4 111 0 62)))) from ?_)
      have e32 : U23 111 0 6 = T 111 0 6 := (up_j hU23 (by decide) 111 0).trans ((up_j hU19 (by decide) 111 0).trans (hf_83 111 0 6 rfl))
      have e33 : U23 111 0 1 = 0 := (up_j hU23 (by decide) 111 0).trans (up_f hU19)
      have e34 : U23 111 0 2 = T4 111 0 63 := up_f hU23
      have e35 : U23 111 0 6 = T 111 0 6 := (up_j hU23 (by decide) 111 0).trans ((up_j hU19 (by decide) 111 0).trans (hf_83 111 0 6 rfl))
      refine ⟨_, rfl, fr_u (fr_u (fr_t (fr_0 _ _) (fr_s hf_83 rfl)) hU19 rfl) hU23 rfl, by omega, RI__f (ws := [(111, [2, 1, 57, 58, 59, 60, 61, 62, 63]), (204, []), (269, []), (270, [])]) hRI (fr_u (fr_u (fr_t (fr_0 _ _) (fr_s hf_83 rfl)) hU19 rfl) hU23 rfl) ⟨fun _ => rfl, rfl, trivial⟩, RW__f (ws := [(111, [2, 1, 57, 58, 59, 60, 61, 62, 63]), (204, []), (269, []), (270, [])]) hRW (fr_u (fr_u (fr_t (fr_0 _ _) (fr_s hf_83 rfl)) hU19 rfl) hU23 rfl) ⟨fun _ => rfl, rfl, trivial⟩, fun j _ => (show fr_ [(111, [2, 1, 57, 58, 59, 60, 61, 62, 63]), (204, []), (269, []), (270, [])] T U23 from fr_u (fr_u (fr_t (fr_0 _ _) (fr_s hf_83 rfl)) hU19 rfl) hU23 rfl) 205 0 j rfl, Or.inr ⟨by omega, by omega, Or.inl ⟨by omega, T4 111 0 62, by omega, by omega, ?_⟩⟩⟩
      rw [show U23 111 0 2 = T4 111 0 63 by omega]
      exact (jr4.resolve_right (fun z => by omega)).2
  have c_37 : ∀ (nn : Nat) (mo : Int) (f : Nat) (t : Int → Int) (v : Int → Int) (T1 : Zt), f ≤ nn → (fr_ [(111, [57, 58, 59, 60, 61, 62, 63]), (204, []), (269, []), (270, [])] T T1) → (0 ≤ T 111 0 6 ∧ T 111 0 6 < 4) → ((T1 111 0 62 ≠ 0 ∧ rdf9_ 402 (cl9_ (T 111 0 1) (fun j => T 200 0 j)) (T 111 0 1) 0 (fun _ => 0) dv9_ = Sum.inl (T1 111 0 62, T1 111 0 63)) ∨ (T1 111 0 62 = 0 ∧ mo = 0 ∧ rdf9_ 402 (cl9_ (T 111 0 1) (fun j => T 200 0 j)) (T 111 0 1) 0 (fun _ => 0) dv9_ = Sum.inr v) ∨ (T1 111 0 62 = 0 ∧ mo = 1 ∧ rdf9_ 402 (cl9_ (T 111 0 1) (fun j => T 200 0 j)) (T 111 0 1) 0 (fun _ => 0) dv9_ = rdf9_ (f + 1) (cl9_ (T 111 0 1) (fun j => T 200 0 j)) (T 111 0 1) (T1 111 0 57) t v)) → (T1 111 0 62 = 0 → VR9_ T1 v) → (T1 111 0 62 = 0 → mo = 1 → TA9_ T1 t ∧ 401 ≤ (f : Int) + T1 111 0 57 ∧ T1 111 0 57 ≤ T 111 0 1) → (T1 111 0 62 = 0 → T1 111 0 63 = -1) → J_ zX11_competition T (po_X11_competition_e T) 0 0 37 [some (vR 111 0), some (vI mo), none] [] T1 := by
    intro nn
    induction nn using Nat.strongRecOn with
    | _ nn ih_37 =>
      intro mo f t v T1 hm_37 hf_37 a1 jr jv jt j63
      replace hm_37 := fun (_ : Unit) => hm_37
      refine j_ok (fun hT1 _ => ?_)
      have hb1_57 : 0 ≤ T1 111 0 57 ∧ T1 111 0 57 ≤ 400 := bd_f hT1 111 57 tl_11_57 0
      refine j_blx (F := fX11) tb_X11 (nn_ _) bk_X11_competition_e_37 bs_X11_competition_e_37 hz (fun K hK => ?_)
      refine And.intro (fun c36 => ?_) (fun c36 => ?_)
      · refine hK 83 _ [] T1 ?_
        refine j_drop [some (vR 111 0), none, none] (fun k v hk => ?_) rfl ?_
        · match k, hk with
          | 0, hk => exact hk
          | 1, hk => cases hk
          | 2, hk => cases hk
          | k + 3, hk => cases hk
        refine c_83 v T1 ?_ ?_ ?_ ?_ ?_
        · exact fr_t (fr_0 _ _) (fr_s hf_37 rfl)
        · omega
        · rcases jr with z | ⟨z1, z2, z3⟩ | ⟨z1, z2, z3⟩
          · exact Or.inl z
          · exact Or.inr ⟨z1, z3⟩
          · exfalso; omega
        · exact jv
        · exact j63
      · intro b37 b37b
        refine And.intro (fun c38 => ?_) (fun c38 => ?_)
        · refine hK 83 [some (vR 111 0), some (vI mo), none] [] T1 ?_
          refine j_drop [some (vR 111 0), none, none] (fun k v hk => ?_) rfl ?_
          · match k, hk with
            | 0, hk => exact hk
            | 1, hk => cases hk
            | 2, hk => cases hk
            | k + 3, hk => cases hk
          refine c_83 v T1 ?_ ?_ ?_ ?_ ?_
          · exact fr_t (fr_0 _ _) (fr_s hf_37 rfl)
          · omega
          · rcases jr with z | ⟨z1, z2, z3⟩ | ⟨z1, z2, z3⟩
            · exact Or.inl z
            · exact Or.inr ⟨z1, z3⟩
            · exfalso; omega
          · exact jv
          · exact j63
        · have hj : T1 111 0 62 = 0 ∧ mo = 1 := by omega
          have jt1 := jt hj.1 hj.2
          have ir := ((jr.resolve_left (fun z => by omega)).resolve_left (fun z => by omega)).2.2
          have j631 := j63 hj.1
          refine hK 49 [some (vR 111 0), some (vI mo), none] [vR 111 0] T1 ?_
          have e39 : T1 111 0 1 = T 111 0 1 := hf_37 111 0 1 rfl
          refine j_callV (y := yX11_take) (Yc := zX11_take) (rest := []) [] (ct_X11_take_e (T := T1) (by omega) (by omega)) cl_X11_291 (qd_c (by decide +kernel)) (nn_ _) rfl (rf_of rfl) (Nat.le_of_ble_eq_true rfl) (Nat.le_of_ble_eq_true rfl) (Nat.le_of_ble_eq_true rfl) rfl ?_
          rintro U40 _ ⟨rfl, fU40, qU40⟩
          show J_ zX11_competition T (po_X11_competition_e T) 0 0 52 _ [] U40
          have qka := qU40
          have fb41 : fr_ [(111, [57, 58, 59, 60, 61, 62, 63]), (204, []), (269, []), (270, [])] T T1 := fr_t (fr_0 _ _) (fr_s hf_37 rfl)
          rw [show (fun j => T1 200 0 j) = fun j => T 200 0 j from funext fun j => fb41 200 0 j rfl, show T1 111 0 1 = T 111 0 1 from fb41 111 0 1 rfl] at qka
          obtain ⟨qaa, ea, ka, hka, hqa⟩ := qka
          have tra := tk9_r hka
          refine j_blx (F := fX11) tb_X11 (nn_ _) bk_X11_competition_e_52 bs_X11_competition_e_52 hz (fun K hK => ?_)
          intro b42 b42b
          refine And.intro (fun c43 => ?_) (fun c43 => ?_)
          · refine hK 70 _ [] U40 ?_
            refine j_blx (F := fX11) tb_X11 (nn_ _) bk_X11_competition_e_70 bs_X11_competition_e_70 hz (fun K hK => ?_)
            refine And.intro (fun c44 => ?_) (fun c44 => ?_)
            · refine hK 37 [some (vR 111 0), some (vI 0), none] [] U40 ?_
              refine ih_37 _ ?_ 0 (f - 1) t v U40 (Nat.le_refl _) ?_ ?_ ?_ ?_ ?_ ?_
              · have hm_37 := hm_37 (); omega
              · exact fr_t (fr_t (fr_0 _ _) (fr_s hf_37 rfl)) (fr_s fU40 rfl)
              · omega
              · refine Or.inl ⟨by omega, ir.trans ((rdf9_s hka (by omega) (by omega)).trans (bn9_l (stf9_w ?_)))⟩
                rw [show U40 111 0 62 = 1 by omega, show U40 111 0 63 = U40 111 0 59 by omega]
                exact wof9_1 hka (by omega) (by omega)
              · exact fun z => absurd z (by omega)
              · exact fun z => absurd z (by omega)
              · exact fun z => absurd z (by omega)
            · exact absurd c44 (by decide)
          · intro b45 b45b
            refine And.intro (fun c46 => ?_) (fun c46 => ?_)
            · refine hK 70 _ [] U40 ?_
              refine j_blx (F := fX11) tb_X11 (nn_ _) bk_X11_competition_e_70 bs_X11_competition_e_70 hz (fun K hK => ?_)
              refine And.intro (fun c47 => ?_) (fun c47 => ?_)
              · refine hK 37 [some (vR 111 0), some (vI 0), none] [] U40 ?_
                refine ih_37 _ ?_ 0 (f - 1) t v U40 (Nat.le_refl _) ?_ ?_ ?_ ?_ ?_ ?_
                · have hm_37 := hm_37 (); omega
                · exact fr_t (fr_t (fr_0 _ _) (fr_s hf_37 rfl)) (fr_s fU40 rfl)
                · omega
                · exact Or.inr (Or.inl ⟨by omega, rfl, ir.trans (rdf9_z hka (by omega) (by omega))⟩)
                · exact fun _ => VR9_f (jv hj.1) fU40 (fun _ => rfl)
                · exact fun _ z => absurd z (by decide)
                · omega
              · exact absurd c47 (by decide)
            · have ee : U40 111 0 60 = ea := by omega
              have ek : U40 111 0 58 = ka := by omega
              refine hK 71 _ [vI 1] U40 ?_
              refine j_blx (F := fX11) tb_X11 (nn_ _) bk_X11_competition_e_71 bs_X11_competition_e_71 hz (fun K hK => ?_)
              refine And.intro (fun c48 => ?_) (fun c48 => ?_)
              · exact absurd c48 (by decide)
              · refine hK 77 [some (vR 111 0), some (vI 1), none] [vR 111 0] U40 ?_
                have e49 : U40 111 0 1 = T 111 0 1 := (fU40 111 0 1 rfl).trans (hf_37 111 0 1 rfl)
                have fb50 : fr_ [(111, [57, 58, 59, 60, 61, 62, 63]), (204, []), (269, []), (270, [])] T U40 := fr_t (fr_t (fr_0 _ _) (fr_s hf_37 rfl)) (fr_s fU40 rfl)
                refine j_callV (y := yX11_readStatement) (Yc := zX11_readStatement) (rest := []) [] (ct_X11_readStatement_e (T := U40) (a := T1 111 0 57) (t := t) (v := v) (by omega) (by rw [show (fun j => U40 200 0 j) = fun j => T 200 0 j from funext fun j => fb50 200 0 j rfl, show U40 111 0 1 = T 111 0 1 from fb50 111 0 1 rfl, ee, ek]; exact hka) (by omega) (by omega) (by exact CX_f (ws := [(111, [57, 58, 59, 60, 61, 62, 63]), (204, []), (269, []), (270, [])]) hC (fr_t (fr_t (fr_0 _ _) (fr_s hf_37 rfl)) (fr_s fU40 rfl)) ⟨fun _ => rfl, fun _ => rfl, fun _ => rfl, fun _ => rfl, fun _ => rfl, trivial⟩) (TA9_f jt1.1 fU40 (fun _ => rfl)) (VR9_f (jv hj.1) fU40 (fun _ => rfl))) cl_X11_314 (qd_c (by decide +kernel)) (nn_ _) rfl (rf_of rfl) (Nat.le_of_ble_eq_true rfl) (Nat.le_of_ble_eq_true rfl) (Nat.le_of_ble_eq_true rfl) rfl ?_
                rintro U51 _ ⟨rfl, fU51, qU51⟩
                have fb52 : fr_ [(111, [57, 58, 59, 60, 61, 62, 63]), (204, []), (269, []), (270, [])] T U40 := fr_t (fr_t (fr_0 _ _) (fr_s hf_37 rfl)) (fr_s fU40 rfl)
                rw [show (fun j => U40 200 0 j) = fun j => T 200 0 j from funext fun j => fb52 200 0 j rfl, show U40 111 0 1 = T 111 0 1 from fb52 111 0 1 rfl] at qU51
                show J_ zX11_competition T (po_X11_competition_e T) 0 0 80 _ [] U51
                rcases qU51 with ⟨z1, z2⟩ | ⟨z1, ⟨t9, v9, z2, z3, z4⟩, z5⟩
                · refine j_blx (F := fX11) tb_X11 (nn_ _) bk_X11_competition_e_80 bs_X11_competition_e_80 hz (fun K hK => ?_)
                  refine hK 37 _ [] U51 ?_
                  refine ih_37 _ ?_ 1 (f - 1) t v U51 (Nat.le_refl _) ?_ ?_ ?_ ?_ ?_ ?_
                  · have hm_37 := hm_37 (); omega
                  · exact fr_t (fr_t (fr_t (fr_0 _ _) (fr_s hf_37 rfl)) (fr_s fU40 rfl)) (fr_s fU51 rfl)
                  · omega
                  · exact Or.inl ⟨z1, ir.trans ((rdf9_s hka (by omega) (by omega)).trans (bn9_l z2))⟩
                  · exact fun z => absurd z (by omega)
                  · exact fun z => absurd z (by omega)
                  · exact fun z => absurd z (by omega)
                refine j_blx (F := fX11) tb_X11 (nn_ _) bk_X11_competition_e_80 bs_X11_competition_e_80 hz (fun K hK => ?_)
                refine hK 37 _ [] U51 ?_
                refine ih_37 _ ?_ 1 (f - 1) t9 v9 U51 (Nat.le_refl _) ?_ ?_ ?_ ?_ ?_ ?_
                · have hm_37 := hm_37 (); omega
                · exact fr_t (fr_t (fr_t (fr_0 _ _) (fr_s hf_37 rfl)) (fr_s fU40 rfl)) (fr_s fU51 rfl)
                · omega
                · refine Or.inr (Or.inr ⟨z1, rfl, ?_⟩)
                  rw [show f - 1 + 1 = f by omega]
                  exact ir.trans ((rdf9_s hka (by omega) (by omega)).trans (bn9_r z2))
                · exact fun _ => z4
                · exact fun _ _ => ⟨z3, by omega, by omega⟩
                · omega
  refine j_blx (F := fX11) tb_X11 (nn_ _) bk_X11_competition_e_0 bs_X11_competition_e_0 hz (fun K hK => ?_)
  intro b53 b53b
  refine And.intro (fun c54 => ?_) (fun c54 => ?_)
  · refine hK 16 _ [] T ?_
    refine j_blx (F := fX11) tb_X11 (nn_ _) bk_X11_competition_e_16 bs_X11_competition_e_16 hz (fun K hK => ?_)
    refine bd_i (by omega) ?_
    refine x_nm (fun U55 hU55 => ?_)
    have e56 := up_f hU55
    refine bd_i (by omega) ?_
    refine x_nm (fun U57 hU57 => ?_)
    have e58 := up_f hU57
    refine bd_i (by omega) ?_
    refine x_nm (fun U59 hU59 => ?_)
    have e60 := up_f hU59
    refine hK 32 _ [vR 111 0] U59 ?_
    refine j_callV (y := yX11_layDefaults) (Yc := zX11_layDefaults) (rest := []) [] (ct_X11_layDefaults_e (T := U59)) cl_X11_311 (qd_c (by decide +kernel)) (nn_ _) rfl (rf_of rfl) (Nat.le_of_ble_eq_true rfl) (Nat.le_of_ble_eq_true rfl) (Nat.le_of_ble_eq_true rfl) rfl ?_
    rintro U61 _ ⟨rfl, fU61, qU61, tU61⟩
    show J_ zX11_competition T (po_X11_competition_e T) 0 0 35 _ [] U61
    refine j_blx (F := fX11) tb_X11 (nn_ _) bk_X11_competition_e_35 bs_X11_competition_e_35 hz (fun K hK => ?_)
    refine hK 37 [some (vR 111 0), some (vI 1), none] [] U61 ?_
    have e62 : U61 111 0 62 = 0 := (fU61 111 0 62 rfl).trans ((up_j hU59 (by decide) 111 0).trans (up_f hU57))
    have e63 : U61 111 0 63 = (-1) := (fU61 111 0 63 rfl).trans (up_f hU59)
    have e64 : U61 111 0 57 = 0 := (fU61 111 0 57 rfl).trans ((up_j hU59 (by decide) 111 0).trans ((up_j hU57 (by decide) 111 0).trans (up_f hU55)))
    refine c_37 _ 1 401 (fun _ => 0) dv9_ U61 (Nat.le_refl _) ?_ ?_ ?_ ?_ ?_ ?_
    · exact fr_t (fr_u (fr_u (fr_u (fr_0 _ _) hU55 rfl) hU57 rfl) hU59 rfl) (fr_s fU61 rfl)
    · omega
    · refine Or.inr (Or.inr ⟨by omega, rfl, ?_⟩)
      show _ = rdf9_ 402 (cl9_ (T 111 0 1) (fun j => T 200 0 j)) (T 111 0 1) (U61 111 0 57) (fun _ => 0) dv9_
      rw [show U61 111 0 57 = 0 by omega]
    · exact fun _ => qU61
    · exact fun _ _ => ⟨tU61, by omega, by omega⟩
    · omega
  · refine bd_i (by omega) ?_
    refine x_nm (fun U65 hU65 => ?_)
    have e66 := up_f hU65
    refine (show po_X11_competition_e T U65 (some (vI (-5))) from ?_)
    have e67 : U65 111 0 6 = T 111 0 6 := up_j hU65 (by decide) 111 0
    have e68 : U65 111 0 1 = T 111 0 1 := up_j hU65 (by decide) 111 0
    have e69 : U65 111 0 2 = (-1) := up_f hU65
    have e70 : U65 111 0 6 = T 111 0 6 := up_j hU65 (by decide) 111 0
    exact ⟨_, rfl, fr_u (fr_0 _ _) hU65 rfl, by omega, RI__f (ws := [(111, [2])]) hRI (fr_u (fr_0 _ _) hU65 rfl) ⟨fun _ => rfl, rfl, trivial⟩, RW__f (ws := [(111, [2])]) hRW (fr_u (fr_0 _ _) hU65 rfl) ⟨fun _ => rfl, rfl, trivial⟩, fun j _ => (show fr_ [(111, [2])] T U65 from fr_u (fr_0 _ _) hU65 rfl) 205 0 j rfl, Or.inl ⟨by omega, rfl, by omega, by omega, by omega⟩⟩
-- competition of the house
/-- what a competition's call does to the house -/
def CH9_ (T T' : Zt) (x : Int) : Prop := (4 ≤ T 106 0 2 ∧ x = -5 ∧ T' 105 0 3 = -1 ∧ T' 105 0 1 = T 105 0 1 ∧ T' 106 0 2 = T 106 0 2) ∨ (T 106 0 2 < 4 ∧ T' 105 0 1 = 0 ∧ ((T' 106 0 2 = T 106 0 2 ∧ ∃ k, x = -10 - k ∧ rdf9_ 402 (cl9_ (T 105 0 1) (fun j => T 500 0 j)) (T 105 0 1) 0 (fun _ => 0) dv9_ = Sum.inl (k, T' 105 0 3)) ∨ (x = T 106 0 2 ∧ T' 106 0 2 = T 106 0 2 + 1 ∧ T' 105 0 3 = -1 ∧ (∀ i j, i ≠ T 106 0 2 → T' 402 i j = T 402 i j) ∧ (∀ j, 0 ≤ j → j < 12 → T' 404 (T 106 0 2) j = -1) ∧ ∃ v, rdf9_ 402 (cl9_ (T 105 0 1) (fun j => T 500 0 j)) (T 105 0 1) 0 (fun _ => 0) dv9_ = Sum.inr v ∧ (∀ j, 0 ≤ j → j < 16 → T' 401 (T 106 0 2) j = v j) ∧ ∀ k, 0 ≤ k → k < v 4 → T' 402 (T 106 0 2) k = v (16 + k))))
-- sign, fault, rule of both sides
/-- a sign is put at the text's end -/
def SG9_ (k : Nat) (T T' : Zt) (n c : Int) : Prop := T' k 0 n = c ∧ ∀ j, j ≠ n → T' k 0 j = T k 0 j
/-- a row stays -/
def RS9_ (k : Nat) (T T' : Zt) : Prop := ∀ j, T' k 0 j = T k 0 j
theorem bk_X10_sign_e_0 : ck_ fX10 (some .int) cX10_sign 0 [.iload 1, .iconst 10, .if_icmp .eq 21, .iload 1, .iconst 32, .if_icmp .lt 18, .iload 1, .iconst 126, .if_icmp .le 21, .iconst (-3), .ireturn] 21 = true := qck_r (nn_ _) (by decide +kernel)
theorem bs_X10_sign_e_0 {P : Zt → Option Zv → Prop} (K : Int → Zl → List Zv → Zt → Prop) : sx_ K P [.iload 1, .iconst 10, .if_icmp .eq 21, .iload 1, .iconst 32, .if_icmp .lt 18, .iload 1, .iconst 126, .if_icmp .le 21, .iconst (-3), .ireturn] 21 = x_iload 1 (x_iconst 10 (x_if_icmp .eq 21 K (x_iload 1 (x_iconst 32 (x_if_icmp .lt 18 K (x_iload 1 (x_iconst 126 (x_if_icmp .le 21 K (x_iconst (-3) (x_ireturn P)))))))))) := ((xe_iload 1).trans (congrArg (x_iload 1) ((xe_iconst 10).trans (congrArg (x_iconst 10) ((xe_if_icmp .eq 21).trans (congrArg (x_if_icmp .eq 21 K) ((xe_iload 1).trans (congrArg (x_iload 1) ((xe_iconst 32).trans (congrArg (x_iconst 32) ((xe_if_icmp .lt 18).trans (congrArg (x_if_icmp .lt 18 K) ((xe_iload 1).trans (congrArg (x_iload 1) ((xe_iconst 126).trans (congrArg (x_iconst 126) ((xe_if_icmp .le 21).trans (congrArg (x_if_icmp .le 21 K) ((xe_iconst (-3)).trans (congrArg (x_iconst (-3)) (xe_ireturn)))))))))))))))))))))
theorem bk_X10_sign_e_21 : ck_ fX10 (some .int) cX10_sign 21 [.aload 0, .tableswitch 0 10 0 #[], .tableswitch 0 5 1 #[], .iconst 400, .if_icmp .lt 37, .iconst (-5), .ireturn] 37 = true := qck_r (nn_ _) (by decide +kernel)
theorem bs_X10_sign_e_21 {P : Zt → Option Zv → Prop} (K : Int → Zl → List Zv → Zt → Prop) : sx_ K P [.aload 0, .tableswitch 0 10 0 #[], .tableswitch 0 5 1 #[], .iconst 400, .if_icmp .lt 37, .iconst (-5), .ireturn] 37 = x_aload 0 (x_g1 110 105 (x_g0 105 1 0 400 (x_iconst 400 (x_if_icmp .lt 37 K (x_iconst (-5) (x_ireturn P)))))) := ((xe_aload 0).trans (congrArg (x_aload 0) ((xe_g1 (kk := 110) rfl tl_10_0).trans (congrArg (x_g1 110 105) ((xe_g0 (kk := 105) rfl tl_5_1).trans (congrArg (x_g0 105 1 0 400) ((xe_iconst 400).trans (congrArg (x_iconst 400) ((xe_if_icmp .lt 37).trans (congrArg (x_if_icmp .lt 37 K) ((xe_iconst (-5)).trans (congrArg (x_iconst (-5)) (xe_ireturn)))))))))))))
theorem bk_X10_sign_e_37 : ck_ fX10 (some .int) cX10_sign 37 [.aload 0, .tableswitch 0 10 0 #[], .tableswitch 0 5 0 #[], .aload 0, .tableswitch 0 10 0 #[], .tableswitch 0 5 1 #[], .iload 1, .iastore, .aload 0, .tableswitch 0 10 0 #[], .dup, .tableswitch 0 5 1 #[], .iconst 1, .iadd, .tableswitch 1 5 1 #[], .aload 0, .tableswitch 0 10 0 #[], .tableswitch 0 5 1 #[], .ireturn] 74 = true := qck_r (nn_ _) (by decide +kernel)
theorem bs_X10_sign_e_37 {P : Zt → Option Zv → Prop} (K : Int → Zl → List Zv → Zt → Prop) : sx_ K P [.aload 0, .tableswitch 0 10 0 #[], .tableswitch 0 5 0 #[], .aload 0, .tableswitch 0 10 0 #[], .tableswitch 0 5 1 #[], .iload 1, .iastore, .aload 0, .tableswitch 0 10 0 #[], .dup, .tableswitch 0 5 1 #[], .iconst 1, .iadd, .tableswitch 1 5 1 #[], .aload 0, .tableswitch 0 10 0 #[], .tableswitch 0 5 1 #[], .ireturn] 74 = x_aload 0 (x_g1 110 105 (x_g1 105 500 (x_aload 0 (x_g1 110 105 (x_g0 105 1 0 400 (x_iload 1 (x_iastore (x_aload 0 (x_g1 110 105 (x_dup (x_g0 105 1 0 400 (x_iconst 1 (x_iadd (x_p 105 1 0 400 (x_aload 0 (x_g1 110 105 (x_g0 105 1 0 400 (x_ireturn P)))))))))))))))))) := ((xe_aload 0).trans (congrArg (x_aload 0) ((xe_g1 (kk := 110) rfl tl_10_0).trans (congrArg (x_g1 110 105) ((xe_g1 (kk := 105) rfl tl_5_0).trans (congrArg (x_g1 105 500) ((xe_aload 0).trans (congrArg (x_aload 0) ((xe_g1 (kk := 110) rfl tl_10_0).trans (congrArg (x_g1 110 105) ((xe_g0 (kk := 105) rfl tl_5_1).trans (congrArg (x_g0 105 1 0 400) ((xe_iload 1).trans (congrArg (x_iload 1) ((xe_iastore).trans (congrArg (x_iastore) ((xe_aload 0).trans (congrArg (x_aload 0) ((xe_g1 (kk := 110) rfl tl_10_0).trans (congrArg (x_g1 110 105) ((xe_dup).trans (congrArg (x_dup) ((xe_g0 (kk := 105) rfl tl_5_1).trans (congrArg (x_g0 105 1 0 400) ((xe_iconst 1).trans (congrArg (x_iconst 1) ((xe_iadd).trans (congrArg (x_iadd) ((xe_p (kk := 105) rfl tl_5_1).trans (congrArg (x_p 105 1 0 400) ((xe_aload 0).trans (congrArg (x_aload 0) ((xe_g1 (kk := 110) rfl tl_10_0).trans (congrArg (x_g1 110 105) ((xe_g0 (kk := 105) rfl tl_5_1).trans (congrArg (x_g0 105 1 0 400) (xe_ireturn)))))))))))))))))))))))))))))))))))))
theorem bk_X10_sign_e_18 : ck_ fX10 (some .int) cX10_sign 18 [.iconst (-3), .ireturn] 21 = true := qck_r (nn_ _) (by decide +kernel)
theorem bs_X10_sign_e_18 {P : Zt → Option Zv → Prop} (K : Int → Zl → List Zv → Zt → Prop) : sx_ K P [.iconst (-3), .ireturn] 21 = x_iconst (-3) (x_ireturn P) := ((xe_iconst (-3)).trans (congrArg (x_iconst (-3)) (xe_ireturn)))
abbrev po_X10_sign_e (T : Zt) (c : Int) : Zt → Option Zv → Prop := fun T' r => ∃ x : Int, r = some (vI x) ∧ fr_ [(105, [1]), (500, [])] T T' ∧ ((x = -3 ∧ T' 105 0 1 = T 105 0 1 ∧ ¬ (c = 10 ∨ 32 ≤ c ∧ c ≤ 126) ∧ RS9_ 500 T T') ∨ ((c = 10 ∨ 32 ≤ c ∧ c ≤ 126) ∧ T 105 0 1 = 400 ∧ x = -5 ∧ T' 105 0 1 = 400 ∧ RS9_ 500 T T') ∨ ((c = 10 ∨ 32 ≤ c ∧ c ≤ 126) ∧ T 105 0 1 < 400 ∧ x = T 105 0 1 + 1 ∧ T' 105 0 1 = x ∧ SG9_ 500 T T' (T 105 0 1) c))
set_option maxHeartbeats 4000000 in
theorem ct_X10_sign_e {T : Zt} {c : Int} : Ct_ yX10_sign zX10_sign T [vR 110 0, vI c] (po_X10_sign_e T c) := by
  refine ct_of pn_10 rfl rfl (Nat.le_of_ble_eq_true rfl) (fun hT hav => ?_)
  have hr_c : -2147483648 ≤ c ∧ c ≤ 2147483647 := hav (vI c) (List.mem_cons_of_mem _ List.mem_cons_self)
  have hz : zX10_sign.2.2.2.1 = some .boolean → ∀ (T' : Zt) (x : Int), po_X10_sign_e T c T' (some (vI x)) → 0 ≤ x ∧ x ≤ 1 := fun h => by cases h
  have hb_length : 0 ≤ T 105 0 1 ∧ T 105 0 1 ≤ 400 := bd_f hT 105 1 tl_5_1 0
  show J_ zX10_sign T (po_X10_sign_e T c) 0 0 0 [some (vR 110 0), some (vI c)] [] T
  refine j_blx (F := fX10) tb_X10 (nn_ _) bk_X10_sign_e_0 bs_X10_sign_e_0 hz (fun K hK => ?_)
  refine And.intro (fun c1 => ?_) (fun c1 => ?_)
  · refine hK 21 _ [] T ?_
    refine j_blx (F := fX10) tb_X10 (nn_ _) bk_X10_sign_e_21 bs_X10_sign_e_21 hz (fun K hK => ?_)
    intro b2 b2b
    refine And.intro (fun c3 => ?_) (fun c3 => ?_)
    · refine hK 37 _ [] T ?_
      refine j_blx (F := fX10) tb_X10 (nn_ _) bk_X10_sign_e_37 bs_X10_sign_e_37 hz (fun K hK => ?_)
      intro b4 b4b
      refine iy_i (by omega) (by omega) ?_
      refine x_nm (fun U5 hU5 => ?_)
      have e6 := up_f hU5
      intro b7 b7b
      have e8 : U5 105 0 1 = T 105 0 1 := up_k hU5 (by exact Nat.ne_of_beq_eq_false rfl) 0 1
      rw [e8] at b7 b7b ⊢
      refine rg_i (by omega) ?_
      refine bd_i (by omega) ?_
      refine x_nm (fun U9 hU9 => ?_)
      have e10 := up_f hU9
      intro b11 b11b
      have e12 : U9 105 0 1 = (T 105 0 1) + 1 := up_f hU9
      rw [e12] at b11 b11b ⊢
      refine (show po_X10_sign_e T c U9 (some (vI ((T 105 0 1) + 1))) from ?_)
      have e13 : U9 105 0 1 = (T 105 0 1) + 1 := up_f hU9
      exact ⟨_, rfl, fr_u (fr_u (fr_0 _ _) hU5 rfl) hU9 rfl, Or.inr (Or.inr ⟨by omega, by omega, by omega, by omega, (up_k hU9 (by exact Nat.ne_of_beq_eq_false rfl) 0 _).trans (up_f hU5), fun j hj => (up_k hU9 (by exact Nat.ne_of_beq_eq_false rfl) 0 j).trans (up_g hU5 (fun z => hj z.2.2))⟩)⟩
    · refine (show po_X10_sign_e T c T (some (vI (-5))) from ?_)
      exact ⟨_, rfl, fr_0 _ _, Or.inr (Or.inl ⟨by omega, by omega, rfl, by omega, fun _ => rfl⟩)⟩
  · refine And.intro (fun c14 => ?_) (fun c14 => ?_)
    · refine hK 18 _ [] T ?_
      refine j_blx (F := fX10) tb_X10 (nn_ _) bk_X10_sign_e_18 bs_X10_sign_e_18 hz (fun K hK => ?_)
      refine (show po_X10_sign_e T c T (some (vI (-3))) from ?_)
      exact ⟨_, rfl, fr_0 _ _, Or.inl ⟨rfl, rfl, by omega, fun _ => rfl⟩⟩
    · refine And.intro (fun c15 => ?_) (fun c15 => ?_)
      · refine hK 21 _ [] T ?_
        refine j_blx (F := fX10) tb_X10 (nn_ _) bk_X10_sign_e_21 bs_X10_sign_e_21 hz (fun K hK => ?_)
        intro b16 b16b
        refine And.intro (fun c17 => ?_) (fun c17 => ?_)
        · refine hK 37 _ [] T ?_
          refine j_blx (F := fX10) tb_X10 (nn_ _) bk_X10_sign_e_37 bs_X10_sign_e_37 hz (fun K hK => ?_)
          intro b18 b18b
          refine iy_i (by omega) (by omega) ?_
          refine x_nm (fun U19 hU19 => ?_)
          have e20 := up_f hU19
          intro b21 b21b
          have e22 : U19 105 0 1 = T 105 0 1 := up_k hU19 (by exact Nat.ne_of_beq_eq_false rfl) 0 1
          rw [e22] at b21 b21b ⊢
          refine rg_i (by omega) ?_
          refine bd_i (by omega) ?_
          refine x_nm (fun U23 hU23 => ?_)
          have e24 := up_f hU23
          intro b25 b25b
          have e26 : U23 105 0 1 = (T 105 0 1) + 1 := up_f hU23
          rw [e26] at b25 b25b ⊢
          refine (show po_X10_sign_e T c U23 (some (vI ((T 105 0 1) + 1))) from ?_)
          have e27 : U23 105 0 1 = (T 105 0 1) + 1 := up_f hU23
          exact ⟨_, rfl, fr_u (fr_u (fr_0 _ _) hU19 rfl) hU23 rfl, Or.inr (Or.inr ⟨by omega, by omega, by omega, by omega, (up_k hU23 (by exact Nat.ne_of_beq_eq_false rfl) 0 _).trans (up_f hU19), fun j hj => (up_k hU23 (by exact Nat.ne_of_beq_eq_false rfl) 0 j).trans (up_g hU19 (fun z => hj z.2.2))⟩)⟩
        · refine (show po_X10_sign_e T c T (some (vI (-5))) from ?_)
          exact ⟨_, rfl, fr_0 _ _, Or.inr (Or.inl ⟨by omega, by omega, rfl, by omega, fun _ => rfl⟩)⟩
      · refine (show po_X10_sign_e T c T (some (vI (-3))) from ?_)
        exact ⟨_, rfl, fr_0 _ _, Or.inl ⟨rfl, rfl, by omega, fun _ => rfl⟩⟩
theorem bk_X11_sign_e_0 : ck_ fX11 (some .int) cX11_sign 0 [.iload 1, .iconst 10, .if_icmp .eq 20, .iload 1, .iconst 32, .iconst 126] 11 = true := qck_r (nn_ _) (by decide +kernel)
theorem bs_X11_sign_e_0 {P : Zt → Option Zv → Prop} (K : Int → Zl → List Zv → Zt → Prop) : sx_ K P [.iload 1, .iconst 10, .if_icmp .eq 20, .iload 1, .iconst 32, .iconst 126] 11 = x_iload 1 (x_iconst 10 (x_if_icmp .eq 20 K (x_iload 1 (x_iconst 32 (x_iconst 126 (K 11)))))) := ((xe_iload 1).trans (congrArg (x_iload 1) ((xe_iconst 10).trans (congrArg (x_iconst 10) ((xe_if_icmp .eq 20).trans (congrArg (x_if_icmp .eq 20 K) ((xe_iload 1).trans (congrArg (x_iload 1) ((xe_iconst 32).trans (congrArg (x_iconst 32) ((xe_iconst 126).trans (congrArg (x_iconst 126) xe_nil))))))))))))
theorem bk_X11_sign_e_20 : ck_ fX11 (some .int) cX11_sign 20 [.aload 0, .tableswitch 0 11 1 #[], .iconst 400, .if_icmp .ne 33, .iconst (-5), .ireturn] 33 = true := qck_r (nn_ _) (by decide +kernel)
theorem bs_X11_sign_e_20 {P : Zt → Option Zv → Prop} (K : Int → Zl → List Zv → Zt → Prop) : sx_ K P [.aload 0, .tableswitch 0 11 1 #[], .iconst 400, .if_icmp .ne 33, .iconst (-5), .ireturn] 33 = x_aload 0 (x_g0 111 1 0 400 (x_iconst 400 (x_if_icmp .ne 33 K (x_iconst (-5) (x_ireturn P))))) := ((xe_aload 0).trans (congrArg (x_aload 0) ((xe_g0 (kk := 111) rfl tl_11_1).trans (congrArg (x_g0 111 1 0 400) ((xe_iconst 400).trans (congrArg (x_iconst 400) ((xe_if_icmp .ne 33).trans (congrArg (x_if_icmp .ne 33 K) ((xe_iconst (-5)).trans (congrArg (x_iconst (-5)) (xe_ireturn)))))))))))
theorem bk_X11_sign_e_33 : ck_ fX11 (some .int) cX11_sign 33 [.aload 0, .tableswitch 0 11 0 #[], .aload 0, .tableswitch 0 11 1 #[], .iload 1, .iastore, .aload 0, .dup, .tableswitch 0 11 1 #[], .iconst 1, .iadd, .tableswitch 1 11 1 #[], .aload 0, .tableswitch 0 11 1 #[], .ireturn] 58 = true := qck_r (nn_ _) (by decide +kernel)
theorem bs_X11_sign_e_33 {P : Zt → Option Zv → Prop} (K : Int → Zl → List Zv → Zt → Prop) : sx_ K P [.aload 0, .tableswitch 0 11 0 #[], .aload 0, .tableswitch 0 11 1 #[], .iload 1, .iastore, .aload 0, .dup, .tableswitch 0 11 1 #[], .iconst 1, .iadd, .tableswitch 1 11 1 #[], .aload 0, .tableswitch 0 11 1 #[], .ireturn] 58 = x_aload 0 (x_g1 111 200 (x_aload 0 (x_g0 111 1 0 400 (x_iload 1 (x_iastore (x_aload 0 (x_dup (x_g0 111 1 0 400 (x_iconst 1 (x_iadd (x_p 111 1 0 400 (x_aload 0 (x_g0 111 1 0 400 (x_ireturn P)))))))))))))) := ((xe_aload 0).trans (congrArg (x_aload 0) ((xe_g1 (kk := 111) rfl tl_11_0).trans (congrArg (x_g1 111 200) ((xe_aload 0).trans (congrArg (x_aload 0) ((xe_g0 (kk := 111) rfl tl_11_1).trans (congrArg (x_g0 111 1 0 400) ((xe_iload 1).trans (congrArg (x_iload 1) ((xe_iastore).trans (congrArg (x_iastore) ((xe_aload 0).trans (congrArg (x_aload 0) ((xe_dup).trans (congrArg (x_dup) ((xe_g0 (kk := 111) rfl tl_11_1).trans (congrArg (x_g0 111 1 0 400) ((xe_iconst 1).trans (congrArg (x_iconst 1) ((xe_iadd).trans (congrArg (x_iadd) ((xe_p (kk := 111) rfl tl_11_1).trans (congrArg (x_p 111 1 0 400) ((xe_aload 0).trans (congrArg (x_aload 0) ((xe_g0 (kk := 111) rfl tl_11_1).trans (congrArg (x_g0 111 1 0 400) (xe_ireturn)))))))))))))))))))))))))))))
theorem bk_X11_sign_e_14 : ck_ fX11 (some .int) cX11_sign 14 [.ifCond .ne 20, .iconst (-3), .ireturn] 20 = true := qck_r (nn_ _) (by decide +kernel)
theorem bs_X11_sign_e_14 {P : Zt → Option Zv → Prop} (K : Int → Zl → List Zv → Zt → Prop) : sx_ K P [.ifCond .ne 20, .iconst (-3), .ireturn] 20 = x_ifCond .ne 20 K (x_iconst (-3) (x_ireturn P)) := ((xe_ifCond .ne 20).trans (congrArg (x_ifCond .ne 20 K) ((xe_iconst (-3)).trans (congrArg (x_iconst (-3)) (xe_ireturn)))))
abbrev po_X11_sign_e (T : Zt) (c : Int) : Zt → Option Zv → Prop := fun T' r => ∃ x : Int, r = some (vI x) ∧ fr_ [(111, [1]), (200, [])] T T' ∧ ((x = -3 ∧ T' 111 0 1 = T 111 0 1 ∧ ¬ (c = 10 ∨ 32 ≤ c ∧ c ≤ 126) ∧ RS9_ 200 T T') ∨ ((c = 10 ∨ 32 ≤ c ∧ c ≤ 126) ∧ T 111 0 1 = 400 ∧ x = -5 ∧ T' 111 0 1 = 400 ∧ RS9_ 200 T T') ∨ ((c = 10 ∨ 32 ≤ c ∧ c ≤ 126) ∧ T 111 0 1 < 400 ∧ x = T 111 0 1 + 1 ∧ T' 111 0 1 = x ∧ SG9_ 200 T T' (T 111 0 1) c))
set_option maxHeartbeats 4000000 in
theorem ct_X11_sign_e {T : Zt} {c : Int} : Ct_ yX11_sign zX11_sign T [vR 111 0, vI c] (po_X11_sign_e T c) := by
  refine ct_of pn_11 rfl rfl (Nat.le_of_ble_eq_true rfl) (fun hT hav => ?_)
  have hr_c : -2147483648 ≤ c ∧ c ≤ 2147483647 := hav (vI c) (List.mem_cons_of_mem _ List.mem_cons_self)
  have hz : zX11_sign.2.2.2.1 = some .boolean → ∀ (T' : Zt) (x : Int), po_X11_sign_e T c T' (some (vI x)) → 0 ≤ x ∧ x ≤ 1 := fun h => by cases h
  have hb_1 : 0 ≤ T 111 0 1 ∧ T 111 0 1 ≤ 400 := bd_f hT 111 1 tl_11_1 0
  show J_ zX11_sign T (po_X11_sign_e T c) 0 0 0 [some (vR 111 0), some (vI c)] [] T
  refine j_blx (F := fX11) tb_X11 (nn_ _) bk_X11_sign_e_0 bs_X11_sign_e_0 hz (fun K hK => ?_)
  refine And.intro (fun c1 => ?_) (fun c1 => ?_)
  · refine hK 20 _ [] T ?_
    refine j_blx (F := fX11) tb_X11 (nn_ _) bk_X11_sign_e_20 bs_X11_sign_e_20 hz (fun K hK => ?_)
    intro b2 b2b
    refine And.intro (fun c3 => ?_) (fun c3 => ?_)
    · refine hK 33 _ [] T ?_
      refine j_blx (F := fX11) tb_X11 (nn_ _) bk_X11_sign_e_33 bs_X11_sign_e_33 hz (fun K hK => ?_)
      intro b4 b4b
      refine iy_i (by omega) (by omega) ?_
      refine x_nm (fun U5 hU5 => ?_)
      have e6 := up_f hU5
      intro b7 b7b
      have e8 : U5 111 0 1 = T 111 0 1 := up_k hU5 (by exact Nat.ne_of_beq_eq_false rfl) 0 1
      rw [e8] at b7 b7b ⊢
      refine rg_i (by omega) ?_
      refine bd_i (by omega) ?_
      refine x_nm (fun U9 hU9 => ?_)
      have e10 := up_f hU9
      intro b11 b11b
      have e12 : U9 111 0 1 = (T 111 0 1) + 1 := up_f hU9
      rw [e12] at b11 b11b ⊢
      refine (show po_X11_sign_e T c U9 (some (vI ((T 111 0 1) + 1))) from ?_)
      have e13 : U9 111 0 1 = (T 111 0 1) + 1 := up_f hU9
      exact ⟨_, rfl, fr_u (fr_u (fr_0 _ _) hU5 rfl) hU9 rfl, Or.inr (Or.inr ⟨by omega, by omega, by omega, by omega, (up_k hU9 (by exact Nat.ne_of_beq_eq_false rfl) 0 _).trans (up_f hU5), fun j hj => (up_k hU9 (by exact Nat.ne_of_beq_eq_false rfl) 0 j).trans (up_g hU5 (fun z => hj z.2.2))⟩)⟩
    · refine (show po_X11_sign_e T c T (some (vI (-5))) from ?_)
      exact ⟨_, rfl, fr_0 _ _, Or.inr (Or.inl ⟨by omega, by omega, rfl, by omega, fun _ => rfl⟩)⟩
  · refine hK 11 _ [vI 126, vI 32, vI c] T ?_
    refine j_callS (y := yX11_in) (Yc := zX11_in) (rest := []) [vI c, vI 32, vI 126] (ct_X11_in (T := T)) cl_X11_255 (qd_c (by decide +kernel)) (nn_ _) rfl (rf_of rfl) (Nat.le_of_ble_eq_true rfl) (Nat.le_of_ble_eq_true rfl) (Nat.le_of_ble_eq_true rfl) rfl ?_
    rintro _ _ ⟨rfl, x14, rfl, hx14⟩
    show J_ zX11_sign T (po_X11_sign_e T c) 0 0 14 _ [vI x14] T
    refine j_blx (F := fX11) tb_X11 (nn_ _) bk_X11_sign_e_14 bs_X11_sign_e_14 hz (fun K hK => ?_)
    refine And.intro (fun c15 => ?_) (fun c15 => ?_)
    · replace hx14 := hx14.resolve_right (fun z => c15 z.1)
      clear c15
      refine hK 20 _ [] T ?_
      refine j_blx (F := fX11) tb_X11 (nn_ _) bk_X11_sign_e_20 bs_X11_sign_e_20 hz (fun K hK => ?_)
      intro b16 b16b
      refine And.intro (fun c17 => ?_) (fun c17 => ?_)
      · refine hK 33 _ [] T ?_
        refine j_blx (F := fX11) tb_X11 (nn_ _) bk_X11_sign_e_33 bs_X11_sign_e_33 hz (fun K hK => ?_)
        intro b18 b18b
        refine iy_i (by omega) (by omega) ?_
        refine x_nm (fun U19 hU19 => ?_)
        have e20 := up_f hU19
        intro b21 b21b
        have e22 : U19 111 0 1 = T 111 0 1 := up_k hU19 (by exact Nat.ne_of_beq_eq_false rfl) 0 1
        rw [e22] at b21 b21b ⊢
        refine rg_i (by omega) ?_
        refine bd_i (by omega) ?_
        refine x_nm (fun U23 hU23 => ?_)
        have e24 := up_f hU23
        intro b25 b25b
        have e26 : U23 111 0 1 = (T 111 0 1) + 1 := up_f hU23
        rw [e26] at b25 b25b ⊢
        refine (show po_X11_sign_e T c U23 (some (vI ((T 111 0 1) + 1))) from ?_)
        have e27 : U23 111 0 1 = (T 111 0 1) + 1 := up_f hU23
        exact ⟨_, rfl, fr_u (fr_u (fr_0 _ _) hU19 rfl) hU23 rfl, Or.inr (Or.inr ⟨by omega, by omega, by omega, by omega, (up_k hU23 (by exact Nat.ne_of_beq_eq_false rfl) 0 _).trans (up_f hU19), fun j hj => (up_k hU23 (by exact Nat.ne_of_beq_eq_false rfl) 0 j).trans (up_g hU19 (fun z => hj z.2.2))⟩)⟩
      · refine (show po_X11_sign_e T c T (some (vI (-5))) from ?_)
        exact ⟨_, rfl, fr_0 _ _, Or.inr (Or.inl ⟨by omega, by omega, rfl, by omega, fun _ => rfl⟩)⟩
    · replace hx14 := hx14.resolve_left (fun z => absurd (c15.symm.trans z.1) (by decide))
      clear c15
      refine (show po_X11_sign_e T c T (some (vI (-3))) from ?_)
      exact ⟨_, rfl, fr_0 _ _, Or.inl ⟨rfl, rfl, by omega, fun _ => rfl⟩⟩
theorem bk_X10_fault_e_0 : ck_ fX10 (some .int) cX10_fault 0 [.aload 0, .tableswitch 0 10 0 #[], .tableswitch 0 5 3 #[], .ireturn] 8 = true := qck_r (nn_ _) (by decide +kernel)
theorem bs_X10_fault_e_0 {P : Zt → Option Zv → Prop} (K : Int → Zl → List Zv → Zt → Prop) : sx_ K P [.aload 0, .tableswitch 0 10 0 #[], .tableswitch 0 5 3 #[], .ireturn] 8 = x_aload 0 (x_g1 110 105 (x_g0 105 3 (-1) 400 (x_ireturn P))) := ((xe_aload 0).trans (congrArg (x_aload 0) ((xe_g1 (kk := 110) rfl tl_10_0).trans (congrArg (x_g1 110 105) ((xe_g0 (kk := 105) rfl tl_5_3).trans (congrArg (x_g0 105 3 (-1) 400) (xe_ireturn)))))))
abbrev po_X10_fault_e (T : Zt) : Zt → Option Zv → Prop := fun T' r => T = T' ∧ ∃ x : Int, r = some (vI x) ∧ (x = T 105 0 3)
set_option maxHeartbeats 4000000 in
theorem ct_X10_fault_e {T : Zt} : Ct_ yX10_fault zX10_fault T [vR 110 0] (po_X10_fault_e T) := by
  refine ct_of pn_10 rfl rfl (Nat.le_of_ble_eq_true rfl) (fun hT hav => ?_)
  have hz : zX10_fault.2.2.2.1 = some .boolean → ∀ (T' : Zt) (x : Int), po_X10_fault_e T T' (some (vI x)) → 0 ≤ x ∧ x ≤ 1 := fun h => by cases h
  show J_ zX10_fault T (po_X10_fault_e T) 0 0 0 [some (vR 110 0)] [] T
  refine j_blx (F := fX10) tb_X10 (nn_ _) bk_X10_fault_e_0 bs_X10_fault_e_0 hz (fun K hK => ?_)
  intro b1 b1b
  refine (show po_X10_fault_e T T (some (vI (T 105 0 3))) from ?_)
  exact ⟨rfl, _, rfl, by omega⟩
theorem bk_X11_fault_e_0 : ck_ fX11 (some .int) cX11_fault 0 [.aload 0, .tableswitch 0 11 2 #[], .ireturn] 5 = true := qck_r (nn_ _) (by decide +kernel)
theorem bs_X11_fault_e_0 {P : Zt → Option Zv → Prop} (K : Int → Zl → List Zv → Zt → Prop) : sx_ K P [.aload 0, .tableswitch 0 11 2 #[], .ireturn] 5 = x_aload 0 (x_g0 111 2 (-1) 400 (x_ireturn P)) := ((xe_aload 0).trans (congrArg (x_aload 0) ((xe_g0 (kk := 111) rfl tl_11_2).trans (congrArg (x_g0 111 2 (-1) 400) (xe_ireturn)))))
abbrev po_X11_fault_e (T : Zt) : Zt → Option Zv → Prop := fun T' r => T = T' ∧ ∃ x : Int, r = some (vI x) ∧ (x = T 111 0 2)
set_option maxHeartbeats 4000000 in
theorem ct_X11_fault_e {T : Zt} : Ct_ yX11_fault zX11_fault T [vR 111 0] (po_X11_fault_e T) := by
  refine ct_of pn_11 rfl rfl (Nat.le_of_ble_eq_true rfl) (fun hT hav => ?_)
  have hz : zX11_fault.2.2.2.1 = some .boolean → ∀ (T' : Zt) (x : Int), po_X11_fault_e T T' (some (vI x)) → 0 ≤ x ∧ x ≤ 1 := fun h => by cases h
  show J_ zX11_fault T (po_X11_fault_e T) 0 0 0 [some (vR 111 0)] [] T
  refine j_blx (F := fX11) tb_X11 (nn_ _) bk_X11_fault_e_0 bs_X11_fault_e_0 hz (fun K hK => ?_)
  intro b1 b1b
  refine (show po_X11_fault_e T T (some (vI (T 111 0 2))) from ?_)
  exact ⟨rfl, _, rfl, by omega⟩
theorem bk_X10_rule_e_0 : ck_ fX10 (some .int) cX10_rule 0 [.aload 0, .iload 1] 2 = true := qck_r (nn_ _) (by decide +kernel)
theorem bs_X10_rule_e_0 {P : Zt → Option Zv → Prop} (K : Int → Zl → List Zv → Zt → Prop) : sx_ K P [.aload 0, .iload 1] 2 = x_aload 0 (x_iload 1 (K 2)) := ((xe_aload 0).trans (congrArg (x_aload 0) ((xe_iload 1).trans (congrArg (x_iload 1) xe_nil))))
theorem bk_X10_rule_e_5 : ck_ fX10 (some .int) cX10_rule 5 [.ifCond .ne 11, .iconst (-2), .ireturn] 11 = true := qck_r (nn_ _) (by decide +kernel)
theorem bs_X10_rule_e_5 {P : Zt → Option Zv → Prop} (K : Int → Zl → List Zv → Zt → Prop) : sx_ K P [.ifCond .ne 11, .iconst (-2), .ireturn] 11 = x_ifCond .ne 11 K (x_iconst (-2) (x_ireturn P)) := ((xe_ifCond .ne 11).trans (congrArg (x_ifCond .ne 11 K) ((xe_iconst (-2)).trans (congrArg (x_iconst (-2)) (xe_ireturn)))))
theorem bk_X10_rule_e_11 : ck_ fX10 (some .int) cX10_rule 11 [.iload 2, .ifCond .lt 21, .iload 2, .iconst 23, .if_icmp .lt 24, .iconst (-3), .ireturn] 24 = true := qck_r (nn_ _) (by decide +kernel)
theorem bs_X10_rule_e_11 {P : Zt → Option Zv → Prop} (K : Int → Zl → List Zv → Zt → Prop) : sx_ K P [.iload 2, .ifCond .lt 21, .iload 2, .iconst 23, .if_icmp .lt 24, .iconst (-3), .ireturn] 24 = x_iload 2 (x_ifCond .lt 21 K (x_iload 2 (x_iconst 23 (x_if_icmp .lt 24 K (x_iconst (-3) (x_ireturn P)))))) := ((xe_iload 2).trans (congrArg (x_iload 2) ((xe_ifCond .lt 21).trans (congrArg (x_ifCond .lt 21 K) ((xe_iload 2).trans (congrArg (x_iload 2) ((xe_iconst 23).trans (congrArg (x_iconst 23) ((xe_if_icmp .lt 24).trans (congrArg (x_if_icmp .lt 24 K) ((xe_iconst (-3)).trans (congrArg (x_iconst (-3)) (xe_ireturn)))))))))))))
theorem bk_X10_rule_e_21 : ck_ fX10 (some .int) cX10_rule 21 [.iconst (-3), .ireturn] 24 = true := qck_r (nn_ _) (by decide +kernel)
theorem bs_X10_rule_e_21 {P : Zt → Option Zv → Prop} (K : Int → Zl → List Zv → Zt → Prop) : sx_ K P [.iconst (-3), .ireturn] 24 = x_iconst (-3) (x_ireturn P) := ((xe_iconst (-3)).trans (congrArg (x_iconst (-3)) (xe_ireturn)))
theorem bk_X10_rule_e_24 : ck_ fX10 (some .int) cX10_rule 24 [.aload 0, .tableswitch 0 10 2 #[], .tableswitch 0 6 1 #[], .iload 1, .aaload, .astore 3, .iload 2, .iconst 16, .if_icmp .ge 47, .aload 3, .tableswitch 0 0 1 #[], .iload 2, .iaload, .ireturn] 47 = true := qck_r (nn_ _) (by decide +kernel)
theorem bs_X10_rule_e_24 {P : Zt → Option Zv → Prop} (K : Int → Zl → List Zv → Zt → Prop) : sx_ K P [.aload 0, .tableswitch 0 10 2 #[], .tableswitch 0 6 1 #[], .iload 1, .aaload, .astore 3, .iload 2, .iconst 16, .if_icmp .ge 47, .aload 3, .tableswitch 0 0 1 #[], .iload 2, .iaload, .ireturn] 47 = x_aload 0 (x_g1 110 106 (x_g1 106 521 (x_iload 1 (x_aaload (x_astore 3 (x_iload 2 (x_iconst 16 (x_if_icmp .ge 47 K (x_aload 3 (x_g2 100 401 (x_iload 2 (x_iaload (x_ireturn P))))))))))))) := ((xe_aload 0).trans (congrArg (x_aload 0) ((xe_g1 (kk := 110) rfl tl_10_2).trans (congrArg (x_g1 110 106) ((xe_g1 (kk := 106) rfl tl_6_1).trans (congrArg (x_g1 106 521) ((xe_iload 1).trans (congrArg (x_iload 1) ((xe_aaload).trans (congrArg (x_aaload) ((xe_astore 3).trans (congrArg (x_astore 3) ((xe_iload 2).trans (congrArg (x_iload 2) ((xe_iconst 16).trans (congrArg (x_iconst 16) ((xe_if_icmp .ge 47).trans (congrArg (x_if_icmp .ge 47 K) ((xe_aload 3).trans (congrArg (x_aload 3) ((xe_g2 (kk := 100) rfl tl_0_1).trans (congrArg (x_g2 100 401) ((xe_iload 2).trans (congrArg (x_iload 2) ((xe_iaload).trans (congrArg (x_iaload) (xe_ireturn)))))))))))))))))))))))))))
theorem bk_X10_rule_e_47 : ck_ fX10 (some .int) cX10_rule 47 [.iload 2, .iconst 16, .isub, .istore 4, .iload 4, .aload 3, .tableswitch 0 0 1 #[], .iconst 4, .iaload, .if_icmp .ge 74, .aload 3, .tableswitch 0 0 2 #[], .iload 4, .iaload, .goto 75] 74 = true := qck_r (nn_ _) (by decide +kernel)
theorem bs_X10_rule_e_47 {P : Zt → Option Zv → Prop} (K : Int → Zl → List Zv → Zt → Prop) : sx_ K P [.iload 2, .iconst 16, .isub, .istore 4, .iload 4, .aload 3, .tableswitch 0 0 1 #[], .iconst 4, .iaload, .if_icmp .ge 74, .aload 3, .tableswitch 0 0 2 #[], .iload 4, .iaload, .goto 75] 74 = x_iload 2 (x_iconst 16 (x_isub (x_istore 4 (x_iload 4 (x_aload 3 (x_g2 100 401 (x_iconst 4 (x_iaload (x_if_icmp .ge 74 K (x_aload 3 (x_g2 100 402 (x_iload 4 (x_iaload (x_goto 75 K)))))))))))))) := ((xe_iload 2).trans (congrArg (x_iload 2) ((xe_iconst 16).trans (congrArg (x_iconst 16) ((xe_isub).trans (congrArg (x_isub) ((xe_istore 4).trans (congrArg (x_istore 4) ((xe_iload 4).trans (congrArg (x_iload 4) ((xe_aload 3).trans (congrArg (x_aload 3) ((xe_g2 (kk := 100) rfl tl_0_1).trans (congrArg (x_g2 100 401) ((xe_iconst 4).trans (congrArg (x_iconst 4) ((xe_iaload).trans (congrArg (x_iaload) ((xe_if_icmp .ge 74).trans (congrArg (x_if_icmp .ge 74 K) ((xe_aload 3).trans (congrArg (x_aload 3) ((xe_g2 (kk := 100) rfl tl_0_2).trans (congrArg (x_g2 100 402) ((xe_iload 4).trans (congrArg (x_iload 4) ((xe_iaload).trans (congrArg (x_iaload) (xe_goto 75)))))))))))))))))))))))))))))
theorem bk_X10_rule_e_74 : ck_ fX10 (some .int) cX10_rule 74 [.iconst (-1), .ireturn] 76 = true := qck_r (nn_ _) (by decide +kernel)
theorem bs_X10_rule_e_74 {P : Zt → Option Zv → Prop} (K : Int → Zl → List Zv → Zt → Prop) : sx_ K P [.iconst (-1), .ireturn] 76 = x_iconst (-1) (x_ireturn P) := ((xe_iconst (-1)).trans (congrArg (x_iconst (-1)) (xe_ireturn)))
theorem bk_X10_rule_e_75 : ck_ fX10 (some .int) cX10_rule 75 [.ireturn] 76 = true := qck_r (nn_ _) (by decide +kernel)
theorem bs_X10_rule_e_75 {P : Zt → Option Zv → Prop} (K : Int → Zl → List Zv → Zt → Prop) : sx_ K P [.ireturn] 76 = x_ireturn P := (xe_ireturn)
abbrev po_X10_rule_e (T : Zt) (c w : Int) : Zt → Option Zv → Prop := fun T' r => T = T' ∧ ∃ x : Int, r = some (vI x) ∧ ((x = -2 ∧ ¬ (0 ≤ c ∧ c < T 106 0 2)) ∨ ((0 ≤ c ∧ c < T 106 0 2) ∧ x = -3 ∧ ¬ (0 ≤ w ∧ w < 23)) ∨ ((0 ≤ c ∧ c < T 106 0 2) ∧ (0 ≤ w ∧ w < 16) ∧ x = T 401 c w) ∨ ((0 ≤ c ∧ c < T 106 0 2) ∧ (16 ≤ w ∧ w < 23) ∧ w - 16 < T 401 c 4 ∧ x = T 402 c (w - 16)) ∨ ((0 ≤ c ∧ c < T 106 0 2) ∧ (16 ≤ w ∧ w < 23) ∧ ¬ w - 16 < T 401 c 4 ∧ x = -1))
set_option maxHeartbeats 4000000 in
theorem ct_X10_rule_e {T : Zt} {c w : Int} (hka : KA_ T) : Ct_ yX10_rule zX10_rule T [vR 110 0, vI c, vI w] (po_X10_rule_e T c w) := by
  refine ct_of pn_10 rfl rfl (Nat.le_of_ble_eq_true rfl) (fun hT hav => ?_)
  have hr_c : -2147483648 ≤ c ∧ c ≤ 2147483647 := hav (vI c) (List.mem_cons_of_mem _ List.mem_cons_self)
  have hr_w : -2147483648 ≤ w ∧ w ≤ 2147483647 := hav (vI w) (List.mem_cons_of_mem _ (List.mem_cons_of_mem _ List.mem_cons_self))
  have hz : zX10_rule.2.2.2.1 = some .boolean → ∀ (T' : Zt) (x : Int), po_X10_rule_e T c w T' (some (vI x)) → 0 ≤ x ∧ x ≤ 1 := fun h => by cases h
  have hb_competitionCount : 0 ≤ T 106 0 2 ∧ T 106 0 2 ≤ 4 := bd_f hT 106 2 tl_6_2 0
  show J_ zX10_rule T (po_X10_rule_e T c w) 0 0 0 [some (vR 110 0), some (vI c), some (vI w), none, none] [] T
  refine j_blx (F := fX10) tb_X10 (nn_ _) bk_X10_rule_e_0 bs_X10_rule_e_0 hz (fun K hK => ?_)
  refine hK 2 _ [vI c, vR 110 0] T ?_
  refine j_callV (y := yX10_isCompetition) (Yc := zX10_isCompetition) (rest := []) [vI c] (ct_X10_isCompetition (T := T)) cl_X10_107 (qd_c (by decide +kernel)) (nn_ _) rfl (rf_of rfl) (Nat.le_of_ble_eq_true rfl) (Nat.le_of_ble_eq_true rfl) (Nat.le_of_ble_eq_true rfl) rfl ?_
  rintro _ _ ⟨rfl, x1, rfl, hx1⟩
  show J_ zX10_rule T (po_X10_rule_e T c w) 0 0 5 _ [vI x1] T
  refine j_blx (F := fX10) tb_X10 (nn_ _) bk_X10_rule_e_5 bs_X10_rule_e_5 hz (fun K hK => ?_)
  refine And.intro (fun c2 => ?_) (fun c2 => ?_)
  · replace hx1 := hx1.resolve_right (fun z => c2 z.1)
    clear c2
    refine hK 11 _ [] T ?_
    refine j_blx (F := fX10) tb_X10 (nn_ _) bk_X10_rule_e_11 bs_X10_rule_e_11 hz (fun K hK => ?_)
    refine And.intro (fun c3 => ?_) (fun c3 => ?_)
    · refine hK 21 _ [] T ?_
      refine j_blx (F := fX10) tb_X10 (nn_ _) bk_X10_rule_e_21 bs_X10_rule_e_21 hz (fun K hK => ?_)
      refine (show po_X10_rule_e T c w T (some (vI (-3))) from ?_)
      exact ⟨rfl, _, rfl, by omega⟩
    · refine And.intro (fun c4 => ?_) (fun c4 => ?_)
      · refine hK 24 _ [] T ?_
        refine j_blx (F := fX10) tb_X10 (nn_ _) bk_X10_rule_e_24 bs_X10_rule_e_24 hz (fun K hK => ?_)
        refine ix_i (by omega) ?_
        refine And.intro (fun c5 => ?_) (fun c5 => ?_)
        · exact absurd c5 (hka.1 c (by omega) (by omega))
        · refine And.intro (fun c6 => ?_) (fun c6 => ?_)
          · refine hK 47 [some (vR 110 0), some (vI c), some (vI w), some (vR 100 c), none] [] T ?_
            refine j_blx (F := fX10) tb_X10 (nn_ _) bk_X10_rule_e_47 bs_X10_rule_e_47 hz (fun K hK => ?_)
            refine rg_i (by omega) ?_
            refine ix_i (by omega) ?_
            intro b7 b7b
            refine And.intro (fun c8 => ?_) (fun c8 => ?_)
            · refine hK 74 [some (vR 110 0), some (vI c), some (vI w), some (vR 100 c), some (vI (w - 16))] [] T ?_
              refine j_blx (F := fX10) tb_X10 (nn_ _) bk_X10_rule_e_74 bs_X10_rule_e_74 hz (fun K hK => ?_)
              refine (show po_X10_rule_e T c w T (some (vI (-1))) from ?_)
              exact ⟨rfl, _, rfl, by omega⟩
            · refine ix_i (by omega) ?_
              intro b9 b9b
              refine hK 75 _ [vI (T 402 c (w - 16))] T ?_
              refine j_blx (F := fX10) tb_X10 (nn_ _) bk_X10_rule_e_75 bs_X10_rule_e_75 hz (fun K hK => ?_)
              refine (show po_X10_rule_e T c w T (some (vI (T 402 c (w - 16)))) from ?_)
              exact ⟨rfl, _, rfl, by omega⟩
          · refine ix_i (by omega) ?_
            intro b10 b10b
            refine (show po_X10_rule_e T c w T (some (vI (T 401 c w))) from ?_)
            exact ⟨rfl, _, rfl, by omega⟩
      · refine (show po_X10_rule_e T c w T (some (vI (-3))) from ?_)
        exact ⟨rfl, _, rfl, by omega⟩
  · replace hx1 := hx1.resolve_left (fun z => absurd (c2.symm.trans z.1) (by decide))
    clear c2
    refine (show po_X10_rule_e T c w T (some (vI (-2))) from ?_)
    exact ⟨rfl, _, rfl, by omega⟩
theorem bk_X11_rule_e_0 : ck_ fX11 (some .int) cX11_rule 0 [.iload 1, .aload 0, .tableswitch 0 11 6 #[]] 5 = true := qck_r (nn_ _) (by decide +kernel)
theorem bs_X11_rule_e_0 {P : Zt → Option Zv → Prop} (K : Int → Zl → List Zv → Zt → Prop) : sx_ K P [.iload 1, .aload 0, .tableswitch 0 11 6 #[]] 5 = x_iload 1 (x_aload 0 (x_g0 111 6 0 4 (K 5))) := ((xe_iload 1).trans (congrArg (x_iload 1) ((xe_aload 0).trans (congrArg (x_aload 0) ((xe_g0 (kk := 111) rfl tl_11_6).trans (congrArg (x_g0 111 6 0 4) xe_nil))))))
theorem bk_X11_rule_e_8 : ck_ fX11 (some .int) cX11_rule 8 [.ifCond .ne 14, .iconst (-2), .ireturn] 14 = true := qck_r (nn_ _) (by decide +kernel)
theorem bs_X11_rule_e_8 {P : Zt → Option Zv → Prop} (K : Int → Zl → List Zv → Zt → Prop) : sx_ K P [.ifCond .ne 14, .iconst (-2), .ireturn] 14 = x_ifCond .ne 14 K (x_iconst (-2) (x_ireturn P)) := ((xe_ifCond .ne 14).trans (congrArg (x_ifCond .ne 14 K) ((xe_iconst (-2)).trans (congrArg (x_iconst (-2)) (xe_ireturn)))))
theorem bk_X11_rule_e_14 : ck_ fX11 (some .int) cX11_rule 14 [.iload 2, .iconst 0, .iconst 22] 18 = true := qck_r (nn_ _) (by decide +kernel)
theorem bs_X11_rule_e_14 {P : Zt → Option Zv → Prop} (K : Int → Zl → List Zv → Zt → Prop) : sx_ K P [.iload 2, .iconst 0, .iconst 22] 18 = x_iload 2 (x_iconst 0 (x_iconst 22 (K 18))) := ((xe_iload 2).trans (congrArg (x_iload 2) ((xe_iconst 0).trans (congrArg (x_iconst 0) ((xe_iconst 22).trans (congrArg (x_iconst 22) xe_nil))))))
theorem bk_X11_rule_e_21 : ck_ fX11 (some .int) cX11_rule 21 [.ifCond .eq 33, .aload 0, .iload 1, .iload 2] 27 = true := qck_r (nn_ _) (by decide +kernel)
theorem bs_X11_rule_e_21 {P : Zt → Option Zv → Prop} (K : Int → Zl → List Zv → Zt → Prop) : sx_ K P [.ifCond .eq 33, .aload 0, .iload 1, .iload 2] 27 = x_ifCond .eq 33 K (x_aload 0 (x_iload 1 (x_iload 2 (K 27)))) := ((xe_ifCond .eq 33).trans (congrArg (x_ifCond .eq 33 K) ((xe_aload 0).trans (congrArg (x_aload 0) ((xe_iload 1).trans (congrArg (x_iload 1) ((xe_iload 2).trans (congrArg (x_iload 2) xe_nil))))))))
theorem bk_X11_rule_e_33 : ck_ fX11 (some .int) cX11_rule 33 [.iconst (-3), .ireturn] 36 = true := qck_r (nn_ _) (by decide +kernel)
theorem bs_X11_rule_e_33 {P : Zt → Option Zv → Prop} (K : Int → Zl → List Zv → Zt → Prop) : sx_ K P [.iconst (-3), .ireturn] 36 = x_iconst (-3) (x_ireturn P) := ((xe_iconst (-3)).trans (congrArg (x_iconst (-3)) (xe_ireturn)))
theorem bk_X11_rule_e_30 : ck_ fX11 (some .int) cX11_rule 30 [.goto 35] 33 = true := qck_r (nn_ _) (by decide +kernel)
theorem bs_X11_rule_e_30 {P : Zt → Option Zv → Prop} (K : Int → Zl → List Zv → Zt → Prop) : sx_ K P [.goto 35] 33 = x_goto 35 K := (xe_goto 35)
theorem bk_X11_rule_e_35 : ck_ fX11 (some .int) cX11_rule 35 [.ireturn] 36 = true := qck_r (nn_ _) (by decide +kernel)
theorem bs_X11_rule_e_35 {P : Zt → Option Zv → Prop} (K : Int → Zl → List Zv → Zt → Prop) : sx_ K P [.ireturn] 36 = x_ireturn P := (xe_ireturn)
abbrev po_X11_rule_e (T : Zt) (c w : Int) : Zt → Option Zv → Prop := fun T' r => T = T' ∧ ∃ x : Int, r = some (vI x) ∧ ((x = -2 ∧ ¬ (0 ≤ c ∧ c < T 111 0 6)) ∨ ((0 ≤ c ∧ c < T 111 0 6) ∧ x = -3 ∧ ¬ (0 ≤ w ∧ w < 23)) ∨ ((0 ≤ c ∧ c < T 111 0 6) ∧ (0 ≤ w ∧ w < 23) ∧ x = T 205 0 (23 * c + w)))
set_option maxHeartbeats 4000000 in
theorem ct_X11_rule_e {T : Zt} {c w : Int} : Ct_ yX11_rule zX11_rule T [vR 111 0, vI c, vI w] (po_X11_rule_e T c w) := by
  refine ct_of pn_11 rfl rfl (Nat.le_of_ble_eq_true rfl) (fun hT hav => ?_)
  have hr_c : -2147483648 ≤ c ∧ c ≤ 2147483647 := hav (vI c) (List.mem_cons_of_mem _ List.mem_cons_self)
  have hr_w : -2147483648 ≤ w ∧ w ≤ 2147483647 := hav (vI w) (List.mem_cons_of_mem _ (List.mem_cons_of_mem _ List.mem_cons_self))
  have hz : zX11_rule.2.2.2.1 = some .boolean → ∀ (T' : Zt) (x : Int), po_X11_rule_e T c w T' (some (vI x)) → 0 ≤ x ∧ x ≤ 1 := fun h => by cases h
  have hb_6 : 0 ≤ T 111 0 6 ∧ T 111 0 6 ≤ 4 := bd_f hT 111 6 tl_11_6 0
  show J_ zX11_rule T (po_X11_rule_e T c w) 0 0 0 [some (vR 111 0), some (vI c), some (vI w)] [] T
  refine j_blx (F := fX11) tb_X11 (nn_ _) bk_X11_rule_e_0 bs_X11_rule_e_0 hz (fun K hK => ?_)
  intro b1 b1b
  refine hK 5 _ [vI (T 111 0 6), vI c] T ?_
  refine j_callS (y := yX11_isOf) (Yc := zX11_isOf) (rest := []) [vI c, vI (T 111 0 6)] (ct_X11_isOf (T := T) (by omega)) cl_X11_317 (qd_c (by decide +kernel)) (nn_ _) rfl (rf_of rfl) (Nat.le_of_ble_eq_true rfl) (Nat.le_of_ble_eq_true rfl) (Nat.le_of_ble_eq_true rfl) rfl ?_
  rintro _ _ ⟨rfl, x2, rfl, hx2⟩
  show J_ zX11_rule T (po_X11_rule_e T c w) 0 0 8 _ [vI x2] T
  refine j_blx (F := fX11) tb_X11 (nn_ _) bk_X11_rule_e_8 bs_X11_rule_e_8 hz (fun K hK => ?_)
  refine And.intro (fun c3 => ?_) (fun c3 => ?_)
  · replace hx2 := hx2.resolve_right (fun z => c3 z.1)
    clear c3
    refine hK 14 _ [] T ?_
    refine j_blx (F := fX11) tb_X11 (nn_ _) bk_X11_rule_e_14 bs_X11_rule_e_14 hz (fun K hK => ?_)
    refine hK 18 _ [vI 22, vI 0, vI w] T ?_
    refine j_callS (y := yX11_in) (Yc := zX11_in) (rest := []) [vI w, vI 0, vI 22] (ct_X11_in (T := T)) cl_X11_255 (qd_c (by decide +kernel)) (nn_ _) rfl (rf_of rfl) (Nat.le_of_ble_eq_true rfl) (Nat.le_of_ble_eq_true rfl) (Nat.le_of_ble_eq_true rfl) rfl ?_
    rintro _ _ ⟨rfl, x4, rfl, hx4⟩
    show J_ zX11_rule T (po_X11_rule_e T c w) 0 0 21 _ [vI x4] T
    refine j_blx (F := fX11) tb_X11 (nn_ _) bk_X11_rule_e_21 bs_X11_rule_e_21 hz (fun K hK => ?_)
    refine And.intro (fun c5 => ?_) (fun c5 => ?_)
    · replace hx4 := hx4.resolve_left (fun z => absurd (c5.symm.trans z.1) (by decide))
      clear c5
      refine hK 33 _ [] T ?_
      refine j_blx (F := fX11) tb_X11 (nn_ _) bk_X11_rule_e_33 bs_X11_rule_e_33 hz (fun K hK => ?_)
      refine (show po_X11_rule_e T c w T (some (vI (-3))) from ?_)
      exact ⟨rfl, _, rfl, by omega⟩
    · replace hx4 := hx4.resolve_right (fun z => c5 z.1)
      clear c5
      refine hK 27 _ [vI w, vI c, vR 111 0] T ?_
      refine j_callV (y := yX11_rule0) (Yc := zX11_rule0) (rest := []) [vI c, vI w] (ct_X11_rule0 (T := T) (by omega) (by omega)) cl_X11_321 (qd_c (by decide +kernel)) (nn_ _) rfl (rf_of rfl) (Nat.le_of_ble_eq_true rfl) (Nat.le_of_ble_eq_true rfl) (Nat.le_of_ble_eq_true rfl) rfl ?_
      rintro _ _ ⟨rfl, rfl⟩
      show J_ zX11_rule T (po_X11_rule_e T c w) 0 0 30 _ [vI (T 205 0 (23 * c + w))] T
      refine j_blx (F := fX11) tb_X11 (nn_ _) bk_X11_rule_e_30 bs_X11_rule_e_30 hz (fun K hK => ?_)
      refine hK 35 _ [vI (T 205 0 (23 * c + w))] T ?_
      refine j_blx (F := fX11) tb_X11 (nn_ _) bk_X11_rule_e_35 bs_X11_rule_e_35 hz (fun K hK => ?_)
      refine (show po_X11_rule_e T c w T (some (vI (T 205 0 (23 * c + w)))) from ?_)
      exact ⟨rfl, _, rfl, by omega⟩
  · replace hx2 := hx2.resolve_left (fun z => absurd (c3.symm.trans z.1) (by decide))
    clear c3
    refine (show po_X11_rule_e T c w T (some (vI (-2))) from ?_)
    exact ⟨rfl, _, rfl, by omega⟩
-- texts, competitions, rules: alike on both sides
def TXR_ (T : Zt) : Prop := T 105 0 1 = T 111 0 1 ∧ T 105 0 3 = T 111 0 2 ∧ T 106 0 2 = T 111 0 6 ∧ (∀ j, 0 ≤ j → j < 400 → T 500 0 j = T 200 0 j) ∧ ∀ c, 0 ≤ c → c < T 106 0 2 → (∀ w, 0 ≤ w → w < 16 → T 401 c w = T 205 0 (23 * c + w)) ∧ ∀ k, 0 ≤ k → k < 7 → (k < T 401 c 4 → T 402 c k = T 205 0 (23 * c + (16 + k))) ∧ (¬ k < T 401 c 4 → T 205 0 (23 * c + (16 + k)) = -1)
/-- the house's side of it stays -/
def kth_ (T T' : Zt) : Prop := T' 105 0 1 = T 105 0 1 ∧ T' 105 0 3 = T 105 0 3 ∧ T' 106 0 2 = T 106 0 2 ∧ (∀ j, T' 500 0 j = T 500 0 j) ∧ (∀ c j, T' 401 c j = T 401 c j) ∧ ∀ c j, T' 402 c j = T 402 c j
/-- the reference's side of it stays -/
def ktr_ (T T' : Zt) : Prop := T' 111 0 1 = T 111 0 1 ∧ T' 111 0 2 = T 111 0 2 ∧ T' 111 0 6 = T 111 0 6 ∧ (∀ j, T' 200 0 j = T 200 0 j) ∧ ∀ j, T' 205 0 j = T 205 0 j
theorem txr_k {T T' : Zt} (h : TXR_ T) (k : kth_ T T') (r : ktr_ T T') : TXR_ T' := by
  obtain ⟨h1, h2, h3, h4, h5⟩ := h
  obtain ⟨k1, k2, k3, k4, k5, k6⟩ := k
  obtain ⟨r1, r2, r3, r4, r5⟩ := r
  refine ⟨by omega, by omega, by omega, fun j a b => by rw [k4, r4]; exact h4 j a b, fun c a b => ⟨fun w d e => by rw [k5, r5]; exact (h5 c a (by omega)).1 w d e, fun q d e => ?_⟩⟩
  rw [k5, k6, r5]
  exact (h5 c a (by omega)).2 q d e
/-- a sign on both sides -/
theorem txr_s {T T1 T2 : Zt} {c x1 x2 : Int} (h : TXR_ T) (hl : 0 ≤ T 105 0 1) (ho : T1 105 0 3 = T 105 0 3 ∧ T1 106 0 2 = T 106 0 2 ∧ (∀ c j, T1 401 c j = T 401 c j) ∧ ∀ c j, T1 402 c j = T 402 c j) (d1 : (x1 = -3 ∧ T1 105 0 1 = T 105 0 1 ∧ ¬ (c = 10 ∨ 32 ≤ c ∧ c ≤ 126) ∧ RS9_ 500 T T1) ∨ ((c = 10 ∨ 32 ≤ c ∧ c ≤ 126) ∧ T 105 0 1 = 400 ∧ x1 = -5 ∧ T1 105 0 1 = 400 ∧ RS9_ 500 T T1) ∨ ((c = 10 ∨ 32 ≤ c ∧ c ≤ 126) ∧ T 105 0 1 < 400 ∧ x1 = T 105 0 1 + 1 ∧ T1 105 0 1 = x1 ∧ SG9_ 500 T T1 (T 105 0 1) c)) (r : ktr_ T T1)
  (hp : T2 111 0 2 = T1 111 0 2 ∧ T2 111 0 6 = T1 111 0 6 ∧ ∀ j, T2 205 0 j = T1 205 0 j) (d2 : (x2 = -3 ∧ T2 111 0 1 = T1 111 0 1 ∧ ¬ (c = 10 ∨ 32 ≤ c ∧ c ≤ 126) ∧ RS9_ 200 T1 T2) ∨ ((c = 10 ∨ 32 ≤ c ∧ c ≤ 126) ∧ T1 111 0 1 = 400 ∧ x2 = -5 ∧ T2 111 0 1 = 400 ∧ RS9_ 200 T1 T2) ∨ ((c = 10 ∨ 32 ≤ c ∧ c ≤ 126) ∧ T1 111 0 1 < 400 ∧ x2 = T1 111 0 1 + 1 ∧ T2 111 0 1 = x2 ∧ SG9_ 200 T1 T2 (T1 111 0 1) c)) (k : kth_ T1 T2) : x1 = x2 ∧ TXR_ T2 := by
  obtain ⟨h1, h2, h3, h4, h5⟩ := h
  obtain ⟨o1, o2, o3, o4⟩ := ho
  obtain ⟨r1, r2, r3, r4, r5⟩ := r
  obtain ⟨p1, p2, p3⟩ := hp
  obtain ⟨k1, k2, k3, k4, k5, k6⟩ := k
  have hr : ∀ c, 0 ≤ c → c < T2 106 0 2 → (∀ w, 0 ≤ w → w < 16 → T2 401 c w = T2 205 0 (23 * c + w)) ∧ ∀ k, 0 ≤ k → k < 7 → (k < T2 401 c 4 → T2 402 c k = T2 205 0 (23 * c + (16 + k))) ∧ (¬ k < T2 401 c 4 → T2 205 0 (23 * c + (16 + k)) = -1) := fun c a b => by
    refine ⟨fun w d e => by rw [k5, o3, p3, r5]; exact (h5 c a (by omega)).1 w d e, fun q d e => ?_⟩
    rw [k5, o3, k6, o4, p3, r5]
    exact (h5 c a (by omega)).2 q d e
  have hs : RS9_ 500 T T1 → RS9_ 200 T1 T2 → ∀ j, 0 ≤ j → j < 400 → T2 500 0 j = T2 200 0 j := fun a b j c d => by
    rw [k4, a j, b j, r4]
    exact h4 j c d
  rcases d1 with ⟨a1, a2, a3, a4⟩ | ⟨a0, a1, a2, a3, a4⟩ | ⟨a0, a1, a2, a3, a4⟩
  · rcases d2 with ⟨b1, b2, b3, b4⟩ | ⟨b0, b1, b2, b3, b4⟩ | ⟨b0, b1, b2, b3, b4⟩
    · exact ⟨by omega, by omega, by omega, by omega, hs a4 b4, hr⟩
    · exact absurd b0 a3
    · exact absurd b0 a3
  · rcases d2 with ⟨b1, b2, b3, b4⟩ | ⟨b0, b1, b2, b3, b4⟩ | ⟨b0, b1, b2, b3, b4⟩
    · exact absurd a0 b3
    · exact ⟨by omega, by omega, by omega, by omega, hs a4 b4, hr⟩
    · omega
  · rcases d2 with ⟨b1, b2, b3, b4⟩ | ⟨b0, b1, b2, b3, b4⟩ | ⟨b0, b1, b2, b3, b4⟩
    · exact absurd a0 b3
    · omega
    · refine ⟨by omega, by omega, by omega, by omega, fun j c d => ?_, hr⟩
      have e1 : T1 111 0 1 = T 105 0 1 := by omega
      rw [e1] at b4
      rw [k4]
      by_cases z : j = T 105 0 1
      · rw [z, a4.1, b4.1]
      · rw [a4.2 j z, b4.2 j z, r4]
        exact h4 j c d
/-- a wiped text on both sides -/
theorem txr_w {T T1 T2 : Zt} {x1 x2 : Int} (h : TXR_ T) (ho : T1 105 0 3 = T 105 0 3 ∧ T1 106 0 2 = T 106 0 2 ∧ (∀ j, T1 500 0 j = T 500 0 j) ∧ (∀ c j, T1 401 c j = T 401 c j) ∧ ∀ c j, T1 402 c j = T 402 c j) (d1 : T1 105 0 1 = 0 ∧ x1 = T 105 0 1) (r : ktr_ T T1) (hp : T2 111 0 2 = T1 111 0 2 ∧ T2 111 0 6 = T1 111 0 6 ∧ (∀ j, T2 200 0 j = T1 200 0 j) ∧ ∀ j, T2 205 0 j = T1 205 0 j) (d2 : T2 111 0 1 = 0 ∧ x2 = T1 111 0 1) (k : kth_ T1 T2) : x1 = x2 ∧ TXR_ T2 := by
  obtain ⟨h1, h2, h3, h4, h5⟩ := h
  obtain ⟨o1, o2, o5, o3, o4⟩ := ho
  obtain ⟨r1, r2, r3, r4, r5⟩ := r
  obtain ⟨p1, p2, p4, p3⟩ := hp
  obtain ⟨k1, k2, k3, k4, k5, k6⟩ := k
  refine ⟨by omega, by omega, by omega, by omega, fun j a b => by rw [k4, o5, p4, r4]; exact h4 j a b, fun c a b => ⟨fun w d e => by rw [k5, o3, p3, r5]; exact (h5 c a (by omega)).1 w d e, fun q d e => ?_⟩⟩
  rw [k5, o3, k6, o4, p3, r5]
  exact (h5 c a (by omega)).2 q d e
/-- a rule is told alike -/
theorem txr_r {T : Zt} {c w x1 x2 : Int} (h : TXR_ T) (d1 : (x1 = -2 ∧ ¬ (0 ≤ c ∧ c < T 106 0 2)) ∨ ((0 ≤ c ∧ c < T 106 0 2) ∧ x1 = -3 ∧ ¬ (0 ≤ w ∧ w < 23)) ∨ ((0 ≤ c ∧ c < T 106 0 2) ∧ (0 ≤ w ∧ w < 16) ∧ x1 = T 401 c w) ∨ ((0 ≤ c ∧ c < T 106 0 2) ∧ (16 ≤ w ∧ w < 23) ∧ w - 16 < T 401 c 4 ∧ x1 = T 402 c (w - 16)) ∨ ((0 ≤ c ∧ c < T 106 0 2) ∧ (16 ≤ w ∧ w < 23) ∧ ¬ w - 16 < T 401 c 4 ∧ x1 = -1)) (d2 : (x2 = -2 ∧ ¬ (0 ≤ c ∧ c < T 111 0 6)) ∨ ((0 ≤ c ∧ c < T 111 0 6) ∧ x2 = -3 ∧ ¬ (0 ≤ w ∧ w < 23)) ∨ ((0 ≤ c ∧ c < T 111 0 6) ∧ (0 ≤ w ∧ w < 23) ∧ x2 = T 205 0 (23 * c + w))) : x1 = x2 := by
  obtain ⟨h1, h2, h3, h4, h5⟩ := h
  by_cases hc : 0 ≤ c ∧ c < T 106 0 2
  · obtain ⟨g1, g2⟩ := h5 c hc.1 hc.2
    by_cases hw : 0 ≤ w ∧ w < 16
    · have g := g1 w hw.1 hw.2
      omega
    · by_cases hv : 16 ≤ w ∧ w < 23
      · have g := g2 (w - 16) (by omega) (by omega)
        rw [show 16 + (w - 16) = w by omega] at g
        omega
      · omega
  · omega
/-- a competition on both sides -/
theorem txr_c {T T1 T2 : Zt} {x1 x2 : Int} (h : TXR_ T) (hl : T 105 0 1 ≤ 400) (hn : 0 ≤ T 106 0 2) (ho : (∀ j, T1 500 0 j = T 500 0 j) ∧ (∀ i j, i ≠ T 106 0 2 → T1 401 i j = T 401 i j) ∧ (T1 106 0 2 = T 106 0 2 → ∀ i j, T1 402 i j = T 402 i j)) (d1 : CH9_ T T1 x1) (r : ktr_ T T1) (hp : (∀ j, T2 200 0 j = T1 200 0 j) ∧ ∀ j, j < 23 * T1 111 0 6 → T2 205 0 j = T1 205 0 j) (d2 : CR9_ T1 T2 x2) (k : kth_ T1 T2) : x1 = x2 ∧ TXR_ T2 := by
  obtain ⟨h1, h2, h3, h4, h5⟩ := h
  obtain ⟨o1, o2, o3⟩ := ho
  obtain ⟨r1, r2, r3, r4, r5⟩ := r
  obtain ⟨p1, p2⟩ := hp
  obtain ⟨k1, k2, k3, k4, k5, k6⟩ := k
  have et : ∀ j, 0 ≤ j → j < 400 → T2 500 0 j = T2 200 0 j := fun j a b => by
    rw [k4, o1, p1, r4]
    exact h4 j a b
  have er : rdf9_ 402 (cl9_ (T1 111 0 1) (fun j => T1 200 0 j)) (T1 111 0 1) 0 (fun _ => 0) dv9_ = rdf9_ 402 (cl9_ (T 105 0 1) (fun j => T 500 0 j)) (T 105 0 1) 0 (fun _ => 0) dv9_ := by
    rw [r1, ← h1, show cl9_ (T 105 0 1) (fun j => T1 200 0 j) = cl9_ (T 105 0 1) (fun j => T 500 0 j) from cl9_e (fun j a b => (r4 j).trans (h4 j a (by omega)).symm)]
  -- the competitions that stood before
  have hr : ∀ c, 0 ≤ c → c < T 106 0 2 → (∀ i j, i ≠ T 106 0 2 → T1 402 i j = T 402 i j) → (∀ w, 0 ≤ w → w < 16 → T2 401 c w = T2 205 0 (23 * c + w)) ∧ ∀ k, 0 ≤ k → k < 7 → (k < T2 401 c 4 → T2 402 c k = T2 205 0 (23 * c + (16 + k))) ∧ (¬ k < T2 401 c 4 → T2 205 0 (23 * c + (16 + k)) = -1) := fun c a b g => by
    have zc : c ≠ T 106 0 2 := by omega
    have hc := h5 c a b
    refine ⟨fun w d e => by rw [k5, o2 c w zc, p2 _ (by omega), r5]; exact hc.1 w d e, fun q d e => ?_⟩
    rw [k5, o2 c 4 zc, k6, g c q zc, p2 _ (by omega), r5]
    exact hc.2 q d e
  unfold CR9_ at d2
  rw [er] at d2
  rcases d1 with ⟨a1, a2, a3, a4, a5⟩ | ⟨a1, a2, ⟨a3, kk, a4, a5⟩ | ⟨a3, a4, a5, a6, a10, v, a7, a8, a9⟩⟩
  · rcases d2 with ⟨b1, b2, b3, b4, b5⟩ | ⟨b1, _⟩
    · exact ⟨by omega, by omega, by omega, by omega, et, fun c y z => hr c y (by omega) (fun i j _ => o3 a5 i j)⟩
    · omega
  · rcases d2 with ⟨b1, _⟩ | ⟨b1, b2, ⟨b3, k9, b4, b5, b6⟩ | ⟨b3, b4, b5, v, b6, _⟩⟩
    · omega
    · rw [a5] at b6
      have e := Prod.mk.inj (Sum.inl.inj b6)
      exact ⟨by omega, by omega, by omega, by omega, et, fun c y z => hr c y (by omega) (fun i j _ => o3 a3 i j)⟩
    · rw [a5] at b6
      cases b6
  · rcases d2 with ⟨b1, _⟩ | ⟨b1, b2, ⟨b3, k9, b4, b5, b6⟩ | ⟨b3, b4, b5, v9, b6, b7⟩⟩
    · omega
    · rw [a7] at b6
      cases b6
    · rw [a7] at b6
      have e : v = v9 := Sum.inr.inj b6
      subst e
      have kv := rdf9_v 402 kv9_d a7
      have e6 : T1 111 0 6 = T 106 0 2 := by omega
      rw [e6] at b7
      refine ⟨by omega, by omega, by omega, by omega, et, fun c y z => ?_⟩
      by_cases zc : c = T 106 0 2
      · subst zc
        have gb := rdf9_g 402 gb9_d a7
        have g4 := gb.1 4 (by omega) (by omega)
        rw [rb9_0.2.2.2.2.1] at g4
        have e4 : T2 401 (T 106 0 2) 4 = v 4 := (k5 _ _).trans (a8 4 (by omega) (by omega))
        refine ⟨fun w d e => by rw [k5, a8 w d e, b7 w d (by omega)], fun q d e => ⟨fun f => ?_, fun f => ?_⟩⟩
        · rw [e4] at f
          rw [k6, a9 q d f, b7 (16 + q) (by omega) (by omega)]
        · rw [e4] at f
          rw [b7 (16 + q) (by omega) (by omega)]
          exact kv q d e f
      · exact hr c y (by omega) a6
