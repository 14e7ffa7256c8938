-- competition of the reference
/-- what a competition's call does to the reference -/
def CR9_ (T T' : Zt) (x : Int) : Prop := (T 111 0 6 = 4 ∧ x = -5 ∧ T' 111 0 2 = -1 ∧ T' 111 0 1 = T 111 0 1 ∧ T' 111 0 6 = T 111 0 6) ∨ (T 111 0 6 < 4 ∧ T' 111 0 1 = 0 ∧ ((T' 111 0 6 = T 111 0 6 ∧ ∃ k, k ≠ 0 ∧ x = -10 - k ∧ rdf9_ 402 (cl9_ (T 111 0 1) (fun j => T 200 0 j)) (T 111 0 1) 0 (fun _ => 0) dv9_ = Sum.inl (k, T' 111 0 2)) ∨ (x = T 111 0 6 ∧ T' 111 0 6 = T 111 0 6 + 1 ∧ T' 111 0 2 = -1 ∧ ∃ v, rdf9_ 402 (cl9_ (T 111 0 1) (fun j => T 200 0 j)) (T 111 0 1) 0 (fun _ => 0) dv9_ = Sum.inr v ∧ ∀ j, 0 ≤ j → j < 23 → T' 205 0 (23 * T 111 0 6 + j) = v j)))
theorem bk_X11_competition_e_113 : ck_ fX11 (some .int) cX11_competition 113 [.iload 2, .iconst 23, .if_icmp .ge 145, .aload 0, .tableswitch 0 11 5 #[], .iconst 23, .aload 0, .tableswitch 0 11 6 #[], .imul, .iload 2, .iadd, .aload 0, .tableswitch 0 11 4 #[], .iload 2, .iaload, .iastore, .iinc 2 1, .goto 113] 145 = true := qck_r (by decide) (by decide +kernel)
theorem bs_X11_competition_e_113 {P : Zt → Option Zv → Prop} (K : Int → Zl → List Zv → Zt → Prop) : sx_ K P [.iload 2, .iconst 23, .if_icmp .ge 145, .aload 0, .tableswitch 0 11 5 #[], .iconst 23, .aload 0, .tableswitch 0 11 6 #[], .imul, .iload 2, .iadd, .aload 0, .tableswitch 0 11 4 #[], .iload 2, .iaload, .iastore, .iinc 2 1, .goto 113] 145 = x_iload 2 (x_iconst 23 (x_if_icmp .ge 145 K (x_aload 0 (x_g1 111 205 (x_iconst 23 (x_aload 0 (x_g0 111 6 0 4 (x_imul (x_iload 2 (x_iadd (x_aload 0 (x_g1 111 204 (x_iload 2 (x_iaload (x_iastore (x_iinc 2 1 (x_goto 113 K))))))))))))))))) := ((xe_iload 2).trans (congrArg (x_iload 2) ((xe_iconst 23).trans (congrArg (x_iconst 23) ((xe_if_icmp .ge 145).trans (congrArg (x_if_icmp .ge 145 K) ((xe_aload 0).trans (congrArg (x_aload 0) ((xe_g1 (kk := 111) rfl tl_11_5).trans (congrArg (x_g1 111 205) ((xe_iconst 23).trans (congrArg (x_iconst 23) ((xe_aload 0).trans (congrArg (x_aload 0) ((xe_g0 (kk := 111) rfl tl_11_6).trans (congrArg (x_g0 111 6 0 4) ((xe_imul).trans (congrArg (x_imul) ((xe_iload 2).trans (congrArg (x_iload 2) ((xe_iadd).trans (congrArg (x_iadd) ((xe_aload 0).trans (congrArg (x_aload 0) ((xe_g1 (kk := 111) rfl tl_11_4).trans (congrArg (x_g1 111 204) ((xe_iload 2).trans (congrArg (x_iload 2) ((xe_iaload).trans (congrArg (x_iaload) ((xe_iastore).trans (congrArg (x_iastore) ((xe_iinc 2 1).trans (congrArg (x_iinc 2 1) (xe_goto 113)))))))))))))))))))))))))))))))))))
theorem bk_X11_competition_e_145 : ck_ fX11 (some .int) cX11_competition 145 [.aload 0, .dup, .tableswitch 0 11 6 #[], .iconst 1, .iadd, .tableswitch 1 11 6 #[], .aload 0, .tableswitch 0 11 6 #[], .iconst 1, .isub, .ireturn] 162 = true := qck_r (by decide) (by decide +kernel)
theorem bs_X11_competition_e_145 {P : Zt → Option Zv → Prop} (K : Int → Zl → List Zv → Zt → Prop) : sx_ K P [.aload 0, .dup, .tableswitch 0 11 6 #[], .iconst 1, .iadd, .tableswitch 1 11 6 #[], .aload 0, .tableswitch 0 11 6 #[], .iconst 1, .isub, .ireturn] 162 = x_aload 0 (x_dup (x_g0 111 6 0 4 (x_iconst 1 (x_iadd (x_p 111 6 0 4 (x_aload 0 (x_g0 111 6 0 4 (x_iconst 1 (x_isub (x_ireturn P)))))))))) := ((xe_aload 0).trans (congrArg (x_aload 0) ((xe_dup).trans (congrArg (x_dup) ((xe_g0 (kk := 111) rfl tl_11_6).trans (congrArg (x_g0 111 6 0 4) ((xe_iconst 1).trans (congrArg (x_iconst 1) ((xe_iadd).trans (congrArg (x_iadd) ((xe_p (kk := 111) rfl tl_11_6).trans (congrArg (x_p 111 6 0 4) ((xe_aload 0).trans (congrArg (x_aload 0) ((xe_g0 (kk := 111) rfl tl_11_6).trans (congrArg (x_g0 111 6 0 4) ((xe_iconst 1).trans (congrArg (x_iconst 1) ((xe_isub).trans (congrArg (x_isub) (xe_ireturn)))))))))))))))))))))
theorem bk_X11_competition_e_83 : ck_ fX11 (some .int) cX11_competition 83 [.aload 0, .iconst 0, .tableswitch 1 11 1 #[], .aload 0, .aload 0, .tableswitch 0 11 63 #[], .tableswitch 1 11 2 #[], .aload 0, .tableswitch 0 11 62 #[], .ifCond .eq 111, .iconst (-10), .aload 0, .tableswitch 0 11 62 #[], .isub, .ireturn] 111 = true := qck_r (by decide) (by decide +kernel)
theorem bs_X11_competition_e_83 {P : Zt → Option Zv → Prop} (K : Int → Zl → List Zv → Zt → Prop) : sx_ K P [.aload 0, .iconst 0, .tableswitch 1 11 1 #[], .aload 0, .aload 0, .tableswitch 0 11 63 #[], .tableswitch 1 11 2 #[], .aload 0, .tableswitch 0 11 62 #[], .ifCond .eq 111, .iconst (-10), .aload 0, .tableswitch 0 11 62 #[], .isub, .ireturn] 111 = x_aload 0 (x_iconst 0 (x_p 111 1 0 400 (x_aload 0 (x_aload 0 (x_g0 111 63 (-1) 400 (x_p 111 2 (-1) 400 (x_aload 0 (x_g0 111 62 0 5 (x_ifCond .eq 111 K (x_iconst (-10) (x_aload 0 (x_g0 111 62 0 5 (x_isub (x_ireturn P)))))))))))))) := ((xe_aload 0).trans (congrArg (x_aload 0) ((xe_iconst 0).trans (congrArg (x_iconst 0) ((xe_p (kk := 111) rfl tl_11_1).trans (congrArg (x_p 111 1 0 400) ((xe_aload 0).trans (congrArg (x_aload 0) ((xe_aload 0).trans (congrArg (x_aload 0) ((xe_g0 (kk := 111) rfl tl_11_63).trans (congrArg (x_g0 111 63 (-1) 400) ((xe_p (kk := 111) rfl tl_11_2).trans (congrArg (x_p 111 2 (-1) 400) ((xe_aload 0).trans (congrArg (x_aload 0) ((xe_g0 (kk := 111) rfl tl_11_62).trans (congrArg (x_g0 111 62 0 5) ((xe_ifCond .eq 111).trans (congrArg (x_ifCond .eq 111 K) ((xe_iconst (-10)).trans (congrArg (x_iconst (-10)) ((xe_aload 0).trans (congrArg (x_aload 0) ((xe_g0 (kk := 111) rfl tl_11_62).trans (congrArg (x_g0 111 62 0 5) ((xe_isub).trans (congrArg (x_isub) (xe_ireturn)))))))))))))))))))))))))))))
theorem bk_X11_competition_e_111 : ck_ fX11 (some .int) cX11_competition 111 [.iconst 0, .istore 2] 113 = true := qck_r (by decide) (by decide +kernel)
theorem bs_X11_competition_e_111 {P : Zt → Option Zv → Prop} (K : Int → Zl → List Zv → Zt → Prop) : sx_ K P [.iconst 0, .istore 2] 113 = x_iconst 0 (x_istore 2 (K 113)) := ((xe_iconst 0).trans (congrArg (x_iconst 0) ((xe_istore 2).trans (congrArg (x_istore 2) xe_nil))))
theorem bk_X11_competition_e_37 : ck_ fX11 (some .int) cX11_competition 37 [.iload 1, .ifCond .eq 83, .aload 0, .tableswitch 0 11 62 #[], .ifCond .ne 83, .aload 0] 49 = true := qck_r (by decide) (by decide +kernel)
theorem bs_X11_competition_e_37 {P : Zt → Option Zv → Prop} (K : Int → Zl → List Zv → Zt → Prop) : sx_ K P [.iload 1, .ifCond .eq 83, .aload 0, .tableswitch 0 11 62 #[], .ifCond .ne 83, .aload 0] 49 = x_iload 1 (x_ifCond .eq 83 K (x_aload 0 (x_g0 111 62 0 5 (x_ifCond .ne 83 K (x_aload 0 (K 49)))))) := ((xe_iload 1).trans (congrArg (x_iload 1) ((xe_ifCond .eq 83).trans (congrArg (x_ifCond .eq 83 K) ((xe_aload 0).trans (congrArg (x_aload 0) ((xe_g0 (kk := 111) rfl tl_11_62).trans (congrArg (x_g0 111 62 0 5) ((xe_ifCond .ne 83).trans (congrArg (x_ifCond .ne 83 K) ((xe_aload 0).trans (congrArg (x_aload 0) xe_nil))))))))))))
theorem bk_X11_competition_e_52 : ck_ fX11 (some .int) cX11_competition 52 [.aload 0, .tableswitch 0 11 62 #[], .ifCond .ne 70, .aload 0, .tableswitch 0 11 58 #[], .ifCond .eq 70, .iconst 1, .goto 71] 70 = true := qck_r (by decide) (by decide +kernel)
theorem bs_X11_competition_e_52 {P : Zt → Option Zv → Prop} (K : Int → Zl → List Zv → Zt → Prop) : sx_ K P [.aload 0, .tableswitch 0 11 62 #[], .ifCond .ne 70, .aload 0, .tableswitch 0 11 58 #[], .ifCond .eq 70, .iconst 1, .goto 71] 70 = x_aload 0 (x_g0 111 62 0 5 (x_ifCond .ne 70 K (x_aload 0 (x_g0 111 58 0 4 (x_ifCond .eq 70 K (x_iconst 1 (x_goto 71 K))))))) := ((xe_aload 0).trans (congrArg (x_aload 0) ((xe_g0 (kk := 111) rfl tl_11_62).trans (congrArg (x_g0 111 62 0 5) ((xe_ifCond .ne 70).trans (congrArg (x_ifCond .ne 70 K) ((xe_aload 0).trans (congrArg (x_aload 0) ((xe_g0 (kk := 111) rfl tl_11_58).trans (congrArg (x_g0 111 58 0 4) ((xe_ifCond .eq 70).trans (congrArg (x_ifCond .eq 70 K) ((xe_iconst 1).trans (congrArg (x_iconst 1) (xe_goto 71)))))))))))))))
theorem bk_X11_competition_e_70 : ck_ fX11 (some .int) cX11_competition 70 [.iconst 0, .istore 1, .iload 1, .ifCond .eq 37, .aload 0] 77 = true := qck_r (by decide) (by decide +kernel)
theorem bs_X11_competition_e_70 {P : Zt → Option Zv → Prop} (K : Int → Zl → List Zv → Zt → Prop) : sx_ K P [.iconst 0, .istore 1, .iload 1, .ifCond .eq 37, .aload 0] 77 = x_iconst 0 (x_istore 1 (x_iload 1 (x_ifCond .eq 37 K (x_aload 0 (K 77))))) := ((xe_iconst 0).trans (congrArg (x_iconst 0) ((xe_istore 1).trans (congrArg (x_istore 1) ((xe_iload 1).trans (congrArg (x_iload 1) ((xe_ifCond .eq 37).trans (congrArg (x_ifCond .eq 37 K) ((xe_aload 0).trans (congrArg (x_aload 0) xe_nil))))))))))
theorem bk_X11_competition_e_71 : ck_ fX11 (some .int) cX11_competition 71 [.istore 1, .iload 1, .ifCond .eq 37, .aload 0] 77 = true := qck_r (by decide) (by decide +kernel)
theorem bs_X11_competition_e_71 {P : Zt → Option Zv → Prop} (K : Int → Zl → List Zv → Zt → Prop) : sx_ K P [.istore 1, .iload 1, .ifCond .eq 37, .aload 0] 77 = x_istore 1 (x_iload 1 (x_ifCond .eq 37 K (x_aload 0 (K 77)))) := ((xe_istore 1).trans (congrArg (x_istore 1) ((xe_iload 1).trans (congrArg (x_iload 1) ((xe_ifCond .eq 37).trans (congrArg (x_ifCond .eq 37 K) ((xe_aload 0).trans (congrArg (x_aload 0) xe_nil))))))))
theorem bk_X11_competition_e_80 : ck_ fX11 (some .int) cX11_competition 80 [.goto 37] 83 = true := qck_r (by decide) (by decide +kernel)
theorem bs_X11_competition_e_80 {P : Zt → Option Zv → Prop} (K : Int → Zl → List Zv → Zt → Prop) : sx_ K P [.goto 37] 83 = x_goto 37 K := (xe_goto 37)
theorem bk_X11_competition_e_0 : ck_ fX11 (some .int) cX11_competition 0 [.aload 0, .tableswitch 0 11 6 #[], .iconst 4, .if_icmp .ne 16, .aload 0, .iconst (-1), .tableswitch 1 11 2 #[], .iconst (-5), .ireturn] 16 = true := qck_r (by decide) (by decide +kernel)
theorem bs_X11_competition_e_0 {P : Zt → Option Zv → Prop} (K : Int → Zl → List Zv → Zt → Prop) : sx_ K P [.aload 0, .tableswitch 0 11 6 #[], .iconst 4, .if_icmp .ne 16, .aload 0, .iconst (-1), .tableswitch 1 11 2 #[], .iconst (-5), .ireturn] 16 = x_aload 0 (x_g0 111 6 0 4 (x_iconst 4 (x_if_icmp .ne 16 K (x_aload 0 (x_iconst (-1) (x_p 111 2 (-1) 400 (x_iconst (-5) (x_ireturn P)))))))) := ((xe_aload 0).trans (congrArg (x_aload 0) ((xe_g0 (kk := 111) rfl tl_11_6).trans (congrArg (x_g0 111 6 0 4) ((xe_iconst 4).trans (congrArg (x_iconst 4) ((xe_if_icmp .ne 16).trans (congrArg (x_if_icmp .ne 16 K) ((xe_aload 0).trans (congrArg (x_aload 0) ((xe_iconst (-1)).trans (congrArg (x_iconst (-1)) ((xe_p (kk := 111) rfl tl_11_2).trans (congrArg (x_p 111 2 (-1) 400) ((xe_iconst (-5)).trans (congrArg (x_iconst (-5)) (xe_ireturn)))))))))))))))))
theorem bk_X11_competition_e_16 : ck_ fX11 (some .int) cX11_competition 16 [.aload 0, .iconst 0, .tableswitch 1 11 57 #[], .aload 0, .iconst 0, .tableswitch 1 11 62 #[], .aload 0, .iconst (-1), .tableswitch 1 11 63 #[], .aload 0] 32 = true := qck_r (by decide) (by decide +kernel)
theorem bs_X11_competition_e_16 {P : Zt → Option Zv → Prop} (K : Int → Zl → List Zv → Zt → Prop) : sx_ K P [.aload 0, .iconst 0, .tableswitch 1 11 57 #[], .aload 0, .iconst 0, .tableswitch 1 11 62 #[], .aload 0, .iconst (-1), .tableswitch 1 11 63 #[], .aload 0] 32 = x_aload 0 (x_iconst 0 (x_p 111 57 0 400 (x_aload 0 (x_iconst 0 (x_p 111 62 0 5 (x_aload 0 (x_iconst (-1) (x_p 111 63 (-1) 400 (x_aload 0 (K 32)))))))))) := ((xe_aload 0).trans (congrArg (x_aload 0) ((xe_iconst 0).trans (congrArg (x_iconst 0) ((xe_p (kk := 111) rfl tl_11_57).trans (congrArg (x_p 111 57 0 400) ((xe_aload 0).trans (congrArg (x_aload 0) ((xe_iconst 0).trans (congrArg (x_iconst 0) ((xe_p (kk := 111) rfl tl_11_62).trans (congrArg (x_p 111 62 0 5) ((xe_aload 0).trans (congrArg (x_aload 0) ((xe_iconst (-1)).trans (congrArg (x_iconst (-1)) ((xe_p (kk := 111) rfl tl_11_63).trans (congrArg (x_p 111 63 (-1) 400) ((xe_aload 0).trans (congrArg (x_aload 0) xe_nil))))))))))))))))))))
theorem bk_X11_competition_e_35 : ck_ fX11 (some .int) cX11_competition 35 [.iconst 1, .istore 1] 37 = true := qck_r (by decide) (by decide +kernel)
theorem bs_X11_competition_e_35 {P : Zt → Option Zv → Prop} (K : Int → Zl → List Zv → Zt → Prop) : sx_ K P [.iconst 1, .istore 1] 37 = x_iconst 1 (x_istore 1 (K 37)) := ((xe_iconst 1).trans (congrArg (x_iconst 1) ((xe_istore 1).trans (congrArg (x_istore 1) xe_nil))))
abbrev po_X11_competition_e (T : Zt) : Zt → Option Zv → Prop := fun T' r => ∃ x : Int, r = some (vI x) ∧ fr_ [(111, [1, 2, 6, 57, 58, 59, 60, 61, 62, 63]), (204, []), (269, []), (270, []), (205, [])] T T' ∧ ((x < 0 ∧ T' 111 0 6 = T 111 0 6 ∨ x = T 111 0 6 ∧ T' 111 0 6 = x + 1) ∧ RI_ T' ∧ RW_ T' ∧ (∀ j, j < 23 * T 111 0 6 → T' 205 0 j = T 205 0 j) ∧ CR9_ T T' x)
set_option maxHeartbeats 4000000 in
theorem ct_X11_competition_e {T : Zt} (hC : CW_ T) (hRI : RI_ T) (hRW : RW_ T) : Ct_ yX11_competition zX11_competition T [vR 111 0] (po_X11_competition_e T) := by
  refine ct_of (by decide) rfl rfl (Nat.le_of_ble_eq_true rfl) (fun hT hav => ?_)
  have hz : zX11_competition.2.2.2.1 = some .boolean → ∀ (T' : Zt) (x : Int), po_X11_competition_e T T' (some (vI x)) → 0 ≤ x ∧ x ≤ 1 := fun h => by cases h
  have hb_1 : 0 ≤ T 111 0 1 ∧ T 111 0 1 ≤ 400 := bd_f hT 111 1 (by decide +kernel : (tf_ 111)[1]? = some (0, 0, 0, 400)) 0
  have hb_6 : 0 ≤ T 111 0 6 ∧ T 111 0 6 ≤ 4 := bd_f hT 111 6 (by decide +kernel : (tf_ 111)[6]? = some (0, 0, 0, 4)) 0
  show J_ zX11_competition T (po_X11_competition_e T) 0 0 0 [some (vR 111 0), none, none] [] T
  have c_83 : ∀ (v : Int → Int) (T4 : Zt), (fr_ [(111, [57, 58, 59, 60, 61, 62, 63]), (204, []), (269, []), (270, [])] T T4) → (0 ≤ T 111 0 6 ∧ T 111 0 6 < 4) → ((T4 111 0 62 ≠ 0 ∧ rdf9_ 402 (cl9_ (T 111 0 1) (fun j => T 200 0 j)) (T 111 0 1) 0 (fun _ => 0) dv9_ = Sum.inl (T4 111 0 62, T4 111 0 63)) ∨ (T4 111 0 62 = 0 ∧ rdf9_ 402 (cl9_ (T 111 0 1) (fun j => T 200 0 j)) (T 111 0 1) 0 (fun _ => 0) dv9_ = Sum.inr v)) → (T4 111 0 62 = 0 → VR9_ T4 v) → (T4 111 0 62 = 0 → T4 111 0 63 = -1) → J_ zX11_competition T (po_X11_competition_e T) 0 0 83 [some (vR 111 0), none, none] [] T4 := by
    intro v T4 hf_83 a4 jr4 jv4 j64
    have jrr : T4 111 0 62 = 0 → rdf9_ 402 (cl9_ (T 111 0 1) (fun j => T 200 0 j)) (T 111 0 1) 0 (fun _ => 0) dv9_ = Sum.inr v := fun z => (jr4.resolve_left (fun y => y.1 z)).2
    refine j_ok (fun hT4 _ => ?_)
    have hb4_62 : 0 ≤ T4 111 0 62 ∧ T4 111 0 62 ≤ 5 := bd_f hT4 111 62 (by decide +kernel : (tf_ 111)[62]? = some (0, 0, 0, 5)) 0
    have c_113 : ∀ (nn : Nat) (k : Int) (T2 : Zt), ((23 - k).toNat) ≤ nn → (fr_ [(111, [1, 2, 57, 58, 59, 60, 61, 62, 63]), (204, []), (269, []), (270, []), (205, [])] T T2) → (0 ≤ k ∧ k ≤ 23) → (VR9_ T2 v) → (T2 111 0 1 = 0 ∧ T2 111 0 2 = -1 ∧ T4 111 0 62 = 0) → (∀ j : Int, 0 ≤ j → j < k → T2 205 0 (23 * T 111 0 6 + j) = T2 204 0 j) → (∀ j : Int, j < 23 * T 111 0 6 → T2 205 0 j = T 205 0 j) → J_ zX11_competition T (po_X11_competition_e T) 0 0 113 [some (vR 111 0), none, some (vI k)] [] T2 := by
      intro nn
      induction nn using Nat.strongRecOn with
      | _ nn ih_113 =>
        intro k T2 hm_113 hf_113 k1 g2 w2 r1 r2
        refine j_blx (F := fX11) tb_X11 (by decide) bk_X11_competition_e_113 bs_X11_competition_e_113 hz (fun K hK => ?_)
        refine And.intro (fun c1 => ?_) (fun c1 => ?_)
        · refine hK 145 [some (vR 111 0), none, some (vI k)] [] T2 ?_
          refine j_blx (F := fX11) tb_X11 (by decide) bk_X11_competition_e_145 bs_X11_competition_e_145 hz (fun K hK => ?_)
          intro b2 b2b
          have e3 : T2 111 0 6 = T 111 0 6 := hf_113 111 0 6 rfl
          rw [e3] at b2 b2b ⊢
          refine rg_i (by omega) ?_
          refine bd_i (by omega) ?_
          refine x_nm (fun U4 hU4 => ?_)
          have e5 := up_f hU4
          intro b6 b6b
          have e7 : U4 111 0 6 = (T 111 0 6) + 1 := up_f hU4
          rw [e7] at b6 b6b ⊢
          refine rg_i (by omega) ?_
          refine (show po_X11_competition_e T U4 (some (vI (((T 111 0 6) + 1) - 1))) from ?_)
          have e8 : U4 111 0 6 = (T 111 0 6) + 1 := up_f hU4
          have e9 : U4 111 0 1 = T2 111 0 1 := up_j hU4 (by decide) 111 0
          have e10 : U4 111 0 2 = T2 111 0 2 := up_j hU4 (by decide) 111 0
          have e11 : U4 111 0 6 = (T 111 0 6) + 1 := up_f hU4
          have ec : U4 111 0 6 = T 111 0 6 + 1 := by omega
          have hw := rdf9_g 402 gb9_d (jrr (by omega))
          have ek : ∀ j, U4 205 0 j = T2 205 0 j := fun j => up_k hU4 (by decide) 0 j
          have rv : ∀ j, 0 ≤ j → j < 23 → U4 205 0 (23 * T 111 0 6 + j) = v j := fun j a b => (ek _).trans ((r1 j a (by omega)).trans (g2 j a b))
          refine ⟨_, rfl, fr_u (fr_t (fr_0 _ _) (fr_s hf_113 rfl)) hU4 rfl, by omega, fun c w a b d e => ?_, fun c a b => ?_, fun j a => (ek j).trans (r2 j a), Or.inr ⟨by omega, by omega, Or.inr ⟨by omega, by omega, by omega, v, jrr (by omega), rv⟩⟩⟩
          · by_cases z : c = T 111 0 6
            · rw [z, rv w d e]; exact hw.1 w d e
            · rw [ek, r2 _ (by omega)]; exact hRI c w a (by omega) d e
          · by_cases z : c = T 111 0 6
            · rw [z, rv 1 (by omega) (by omega), rv 2 (by omega) (by omega), rv 3 (by omega) (by omega)]; exact hw.2
            · rw [ek, ek, ek, r2 _ (by omega), r2 _ (by omega), r2 _ (by omega)]; exact hRW c a (by omega)
        · intro b12 b12b
          have e13 : T2 111 0 6 = T 111 0 6 := hf_113 111 0 6 rfl
          rw [e13] at b12 b12b ⊢
          refine rg_i (by omega) ?_
          refine rg_i (by omega) ?_
          refine ix_i (by omega) ?_
          intro b14 b14b
          refine iy_i (by omega) (by omega) ?_
          refine x_nm (fun U15 hU15 => ?_)
          have e16 := up_f hU15
          refine rg_i (by omega) ?_
          refine hK 113 [some (vR 111 0), none, some (vI (k + 1))] [] U15 ?_
          have e17 : U15 111 0 1 = T2 111 0 1 := up_k hU15 (by decide) 0 1
          have e18 : U15 111 0 2 = T2 111 0 2 := up_k hU15 (by decide) 0 2
          refine ih_113 _ ?_ (k + 1) U15 (Nat.le_refl _) ?_ ?_ ?_ ?_ ?_ ?_
          · omega
          · exact fr_u (fr_t (fr_0 _ _) (fr_s hf_113 rfl)) hU15 rfl
          · omega
          · exact VR9_f g2 (show fr_ [(205, [])] T2 U15 from fr_u (fr_0 _ _) hU15 rfl) (fun _ => rfl)
          · omega
          · intro j a b
            by_cases z : j = k
            · subst z; rw [up_f hU15]; exact (up_k hU15 (by decide) 0 j).symm
            · rw [up_g hU15 (by omega), up_k hU15 (by decide)]; exact r1 j a (by omega)
          · intro j a
            rw [up_g hU15 (by omega)]; exact r2 j a
    refine j_blx (F := fX11) tb_X11 (by decide) bk_X11_competition_e_83 bs_X11_competition_e_83 hz (fun K hK => ?_)
    refine bd_i (by omega) ?_
    refine x_nm (fun U19 hU19 => ?_)
    have e20 := up_f hU19
    intro b21 b21b
    have e22 : U19 111 0 63 = T4 111 0 63 := up_j hU19 (by decide) 111 0
    rw [e22] at b21 b21b ⊢
    refine bd_i (by omega) ?_
    refine x_nm (fun U23 hU23 => ?_)
    have e24 := up_f hU23
    intro b25 b25b
    have e26 : U23 111 0 62 = T4 111 0 62 := (up_j hU23 (by decide) 111 0).trans (up_j hU19 (by decide) 111 0)
    rw [e26] at b25 b25b ⊢
    refine And.intro (fun c27 => ?_) (fun c27 => ?_)
    · refine hK 111 [some (vR 111 0), none, none] [] U23 ?_
      refine j_blx (F := fX11) tb_X11 (by decide) bk_X11_competition_e_111 bs_X11_competition_e_111 hz (fun K hK => ?_)
      refine hK 113 [some (vR 111 0), none, some (vI 0)] [] U23 ?_
      have e28 : U23 111 0 1 = 0 := (up_j hU23 (by decide) 111 0).trans (up_f hU19)
      have e29 : U23 111 0 2 = T4 111 0 63 := up_f hU23
      refine c_113 _ 0 U23 (Nat.le_refl _) ?_ ?_ ?_ ?_ ?_ ?_
      · exact fr_u (fr_u (fr_t (fr_0 _ _) (fr_s hf_83 rfl)) hU19 rfl) hU23 rfl
      · omega
      · exact VR9_f (jv4 (by omega)) (show fr_ [(111, [2, 1])] T4 U23 from fr_u (fr_u (fr_0 _ _) hU19 rfl) hU23 rfl) (fun _ => rfl)
      · omega
      · intro j a b; omega
      · exact fun j _ => (show fr_ [(111, [2, 1, 57, 58, 59, 60, 61, 62, 63]), (204, []), (269, []), (270, [])] T U23 from fr_u (fr_u (fr_t (fr_0 _ _) (fr_s hf_83 rfl)) hU19 rfl) hU23 rfl) 205 0 j rfl
    · intro b30 b30b
      have e31 : U23 111 0 62 = T4 111 0 62 := (up_j hU23 (by decide) 111 0).trans (up_j hU19 (by decide) 111 0)
      rw [e31] at b30 b30b ⊢
      refine rg_i (by omega) ?_
      refine (show po_X11_competition_e T U23 (some (vI ((-10) - (T4 111 0 62)))) from ?_)
      have e32 : U23 111 0 6 = T 111 0 6 := (up_j hU23 (by decide) 111 0).trans ((up_j hU19 (by decide) 111 0).trans (hf_83 111 0 6 rfl))
      have e33 : U23 111 0 1 = 0 := (up_j hU23 (by decide) 111 0).trans (up_f hU19)
      have e34 : U23 111 0 2 = T4 111 0 63 := up_f hU23
      have e35 : U23 111 0 6 = T 111 0 6 := (up_j hU23 (by decide) 111 0).trans ((up_j hU19 (by decide) 111 0).trans (hf_83 111 0 6 rfl))
      refine ⟨_, rfl, fr_u (fr_u (fr_t (fr_0 _ _) (fr_s hf_83 rfl)) hU19 rfl) hU23 rfl, by omega, RI__f (ws := [(111, [2, 1, 57, 58, 59, 60, 61, 62, 63]), (204, []), (269, []), (270, [])]) hRI (fr_u (fr_u (fr_t (fr_0 _ _) (fr_s hf_83 rfl)) hU19 rfl) hU23 rfl) ⟨fun _ => rfl, rfl, trivial⟩, RW__f (ws := [(111, [2, 1, 57, 58, 59, 60, 61, 62, 63]), (204, []), (269, []), (270, [])]) hRW (fr_u (fr_u (fr_t (fr_0 _ _) (fr_s hf_83 rfl)) hU19 rfl) hU23 rfl) ⟨fun _ => rfl, rfl, trivial⟩, fun j _ => (show fr_ [(111, [2, 1, 57, 58, 59, 60, 61, 62, 63]), (204, []), (269, []), (270, [])] T U23 from fr_u (fr_u (fr_t (fr_0 _ _) (fr_s hf_83 rfl)) hU19 rfl) hU23 rfl) 205 0 j rfl, Or.inr ⟨by omega, by omega, Or.inl ⟨by omega, T4 111 0 62, by omega, by omega, ?_⟩⟩⟩
      rw [show U23 111 0 2 = T4 111 0 63 by omega]
      exact (jr4.resolve_right (fun z => by omega)).2
  have c_37 : ∀ (nn : Nat) (mo : Int) (f : Nat) (t : Int → Int) (v : Int → Int) (T1 : Zt), f ≤ nn → (fr_ [(111, [57, 58, 59, 60, 61, 62, 63]), (204, []), (269, []), (270, [])] T T1) → (0 ≤ T 111 0 6 ∧ T 111 0 6 < 4) → ((T1 111 0 62 ≠ 0 ∧ rdf9_ 402 (cl9_ (T 111 0 1) (fun j => T 200 0 j)) (T 111 0 1) 0 (fun _ => 0) dv9_ = Sum.inl (T1 111 0 62, T1 111 0 63)) ∨ (T1 111 0 62 = 0 ∧ mo = 0 ∧ rdf9_ 402 (cl9_ (T 111 0 1) (fun j => T 200 0 j)) (T 111 0 1) 0 (fun _ => 0) dv9_ = Sum.inr v) ∨ (T1 111 0 62 = 0 ∧ mo = 1 ∧ rdf9_ 402 (cl9_ (T 111 0 1) (fun j => T 200 0 j)) (T 111 0 1) 0 (fun _ => 0) dv9_ = rdf9_ (f + 1) (cl9_ (T 111 0 1) (fun j => T 200 0 j)) (T 111 0 1) (T1 111 0 57) t v)) → (T1 111 0 62 = 0 → VR9_ T1 v) → (T1 111 0 62 = 0 → mo = 1 → TA9_ T1 t ∧ 401 ≤ (f : Int) + T1 111 0 57 ∧ T1 111 0 57 ≤ T 111 0 1) → (T1 111 0 62 = 0 → T1 111 0 63 = -1) → J_ zX11_competition T (po_X11_competition_e T) 0 0 37 [some (vR 111 0), some (vI mo), none] [] T1 := by
    intro nn
    induction nn using Nat.strongRecOn with
    | _ nn ih_37 =>
      intro mo f t v T1 hm_37 hf_37 a1 jr jv jt j63
      refine j_ok (fun hT1 _ => ?_)
      have hb1_57 : 0 ≤ T1 111 0 57 ∧ T1 111 0 57 ≤ 400 := bd_f hT1 111 57 (by decide +kernel : (tf_ 111)[57]? = some (0, 0, 0, 400)) 0
      refine j_blx (F := fX11) tb_X11 (by decide) bk_X11_competition_e_37 bs_X11_competition_e_37 hz (fun K hK => ?_)
      refine And.intro (fun c36 => ?_) (fun c36 => ?_)
      · refine hK 83 [some (vR 111 0), some (vI mo), none] [] T1 ?_
        refine j_drop [some (vR 111 0), none, none] (fun k v hk => ?_) rfl ?_
        · match k, hk with
          | 0, hk => exact hk
          | 1, hk => cases hk
          | 2, hk => cases hk
          | k + 3, hk => cases hk
        refine c_83 v T1 ?_ ?_ ?_ ?_ ?_
        · exact fr_t (fr_0 _ _) (fr_s hf_37 rfl)
        · omega
        · rcases jr with z | ⟨z1, z2, z3⟩ | ⟨z1, z2, z3⟩
          · exact Or.inl z
          · exact Or.inr ⟨z1, z3⟩
          · exfalso; omega
        · exact jv
        · exact j63
      · intro b37 b37b
        refine And.intro (fun c38 => ?_) (fun c38 => ?_)
        · refine hK 83 [some (vR 111 0), some (vI mo), none] [] T1 ?_
          refine j_drop [some (vR 111 0), none, none] (fun k v hk => ?_) rfl ?_
          · match k, hk with
            | 0, hk => exact hk
            | 1, hk => cases hk
            | 2, hk => cases hk
            | k + 3, hk => cases hk
          refine c_83 v T1 ?_ ?_ ?_ ?_ ?_
          · exact fr_t (fr_0 _ _) (fr_s hf_37 rfl)
          · omega
          · rcases jr with z | ⟨z1, z2, z3⟩ | ⟨z1, z2, z3⟩
            · exact Or.inl z
            · exact Or.inr ⟨z1, z3⟩
            · exfalso; omega
          · exact jv
          · exact j63
        · have hj : T1 111 0 62 = 0 ∧ mo = 1 := by omega
          have jt1 := jt hj.1 hj.2
          have ir := ((jr.resolve_left (fun z => by omega)).resolve_left (fun z => by omega)).2.2
          have j631 := j63 hj.1
          refine hK 49 [some (vR 111 0), some (vI mo), none] [vR 111 0] T1 ?_
          have e39 : T1 111 0 1 = T 111 0 1 := hf_37 111 0 1 rfl
          refine j_callV (y := yX11_take) (Yc := zX11_take) (rest := []) [] (ct_X11_take_e (T := T1) (by omega) (by omega)) cl_X11_291 (qd_c (by decide +kernel)) (by decide) rfl (by decide +kernel) (Nat.le_of_ble_eq_true rfl) (by decide) (by decide) rfl ?_
          rintro U40 _ ⟨rfl, fU40, qU40⟩
          show J_ zX11_competition T (po_X11_competition_e T) 0 0 52 [some (vR 111 0), some (vI mo), none] [] U40
          have qka := qU40
          have fb41 : fr_ [(111, [57, 58, 59, 60, 61, 62, 63]), (204, []), (269, []), (270, [])] T T1 := fr_t (fr_0 _ _) (fr_s hf_37 rfl)
          rw [show (fun j => T1 200 0 j) = fun j => T 200 0 j from funext fun j => fb41 200 0 j rfl, show T1 111 0 1 = T 111 0 1 from fb41 111 0 1 rfl] at qka
          obtain ⟨qaa, ea, ka, hka, hqa⟩ := qka
          have tra := tk9_r hka
          refine j_blx (F := fX11) tb_X11 (by decide) bk_X11_competition_e_52 bs_X11_competition_e_52 hz (fun K hK => ?_)
          intro b42 b42b
          refine And.intro (fun c43 => ?_) (fun c43 => ?_)
          · refine hK 70 [some (vR 111 0), some (vI mo), none] [] U40 ?_
            refine j_blx (F := fX11) tb_X11 (by decide) bk_X11_competition_e_70 bs_X11_competition_e_70 hz (fun K hK => ?_)
            refine And.intro (fun c44 => ?_) (fun c44 => ?_)
            · refine hK 37 [some (vR 111 0), some (vI 0), none] [] U40 ?_
              refine ih_37 _ ?_ 0 (f - 1) t v U40 (Nat.le_refl _) ?_ ?_ ?_ ?_ ?_ ?_
              · omega
              · exact fr_t (fr_t (fr_0 _ _) (fr_s hf_37 rfl)) (fr_s fU40 rfl)
              · omega
              · refine Or.inl ⟨by omega, ir.trans ((rdf9_s hka (by omega) (by omega)).trans (bn9_l (stf9_w ?_)))⟩
                rw [show U40 111 0 62 = 1 by omega, show U40 111 0 63 = U40 111 0 59 by omega]
                exact wof9_1 hka (by omega) (by omega)
              · exact fun z => absurd z (by omega)
              · exact fun z => absurd z (by omega)
              · exact fun z => absurd z (by omega)
            · exact absurd c44 (by decide)
          · intro b45 b45b
            refine And.intro (fun c46 => ?_) (fun c46 => ?_)
            · refine hK 70 [some (vR 111 0), some (vI mo), none] [] U40 ?_
              refine j_blx (F := fX11) tb_X11 (by decide) bk_X11_competition_e_70 bs_X11_competition_e_70 hz (fun K hK => ?_)
              refine And.intro (fun c47 => ?_) (fun c47 => ?_)
              · refine hK 37 [some (vR 111 0), some (vI 0), none] [] U40 ?_
                refine ih_37 _ ?_ 0 (f - 1) t v U40 (Nat.le_refl _) ?_ ?_ ?_ ?_ ?_ ?_
                · omega
                · exact fr_t (fr_t (fr_0 _ _) (fr_s hf_37 rfl)) (fr_s fU40 rfl)
                · omega
                · exact Or.inr (Or.inl ⟨by omega, rfl, ir.trans (rdf9_z hka (by omega) (by omega))⟩)
                · exact fun _ => VR9_f (jv hj.1) fU40 (fun _ => rfl)
                · exact fun _ z => absurd z (by decide)
                · omega
              · exact absurd c47 (by decide)
            · have ee : U40 111 0 60 = ea := by omega
              have ek : U40 111 0 58 = ka := by omega
              refine hK 71 [some (vR 111 0), some (vI mo), none] [vI 1] U40 ?_
              refine j_blx (F := fX11) tb_X11 (by decide) bk_X11_competition_e_71 bs_X11_competition_e_71 hz (fun K hK => ?_)
              refine And.intro (fun c48 => ?_) (fun c48 => ?_)
              · exact absurd c48 (by decide)
              · refine hK 77 [some (vR 111 0), some (vI 1), none] [vR 111 0] U40 ?_
                have e49 : U40 111 0 1 = T 111 0 1 := (fU40 111 0 1 rfl).trans (hf_37 111 0 1 rfl)
                have fb50 : fr_ [(111, [57, 58, 59, 60, 61, 62, 63]), (204, []), (269, []), (270, [])] T U40 := fr_t (fr_t (fr_0 _ _) (fr_s hf_37 rfl)) (fr_s fU40 rfl)
                refine j_callV (y := yX11_readStatement) (Yc := zX11_readStatement) (rest := []) [] (ct_X11_readStatement_e (T := U40) (a := T1 111 0 57) (t := t) (v := v) (by omega) (by rw [show (fun j => U40 200 0 j) = fun j => T 200 0 j from funext fun j => fb50 200 0 j rfl, show U40 111 0 1 = T 111 0 1 from fb50 111 0 1 rfl, ee, ek]; exact hka) (by omega) (by omega) (by exact CX_f (ws := [(111, [57, 58, 59, 60, 61, 62, 63]), (204, []), (269, []), (270, [])]) hC (fr_t (fr_t (fr_0 _ _) (fr_s hf_37 rfl)) (fr_s fU40 rfl)) ⟨fun _ => rfl, fun _ => rfl, fun _ => rfl, fun _ => rfl, fun _ => rfl, trivial⟩) (TA9_f jt1.1 fU40 (fun _ => rfl)) (VR9_f (jv hj.1) fU40 (fun _ => rfl))) cl_X11_314 (qd_c (by decide +kernel)) (by decide) rfl (by decide +kernel) (Nat.le_of_ble_eq_true rfl) (by decide) (by decide) rfl ?_
                rintro U51 _ ⟨rfl, fU51, qU51⟩
                have fb52 : fr_ [(111, [57, 58, 59, 60, 61, 62, 63]), (204, []), (269, []), (270, [])] T U40 := fr_t (fr_t (fr_0 _ _) (fr_s hf_37 rfl)) (fr_s fU40 rfl)
                rw [show (fun j => U40 200 0 j) = fun j => T 200 0 j from funext fun j => fb52 200 0 j rfl, show U40 111 0 1 = T 111 0 1 from fb52 111 0 1 rfl] at qU51
                show J_ zX11_competition T (po_X11_competition_e T) 0 0 80 [some (vR 111 0), some (vI 1), none] [] U51
                rcases qU51 with ⟨z1, z2⟩ | ⟨z1, ⟨t9, v9, z2, z3, z4⟩, z5⟩
                · refine j_blx (F := fX11) tb_X11 (by decide) bk_X11_competition_e_80 bs_X11_competition_e_80 hz (fun K hK => ?_)
                  refine hK 37 [some (vR 111 0), some (vI 1), none] [] U51 ?_
                  refine ih_37 _ ?_ 1 (f - 1) t v U51 (Nat.le_refl _) ?_ ?_ ?_ ?_ ?_ ?_
                  · omega
                  · exact fr_t (fr_t (fr_t (fr_0 _ _) (fr_s hf_37 rfl)) (fr_s fU40 rfl)) (fr_s fU51 rfl)
                  · omega
                  · exact Or.inl ⟨z1, ir.trans ((rdf9_s hka (by omega) (by omega)).trans (bn9_l z2))⟩
                  · exact fun z => absurd z (by omega)
                  · exact fun z => absurd z (by omega)
                  · exact fun z => absurd z (by omega)
                refine j_blx (F := fX11) tb_X11 (by decide) bk_X11_competition_e_80 bs_X11_competition_e_80 hz (fun K hK => ?_)
                refine hK 37 [some (vR 111 0), some (vI 1), none] [] U51 ?_
                refine ih_37 _ ?_ 1 (f - 1) t9 v9 U51 (Nat.le_refl _) ?_ ?_ ?_ ?_ ?_ ?_
                · omega
                · exact fr_t (fr_t (fr_t (fr_0 _ _) (fr_s hf_37 rfl)) (fr_s fU40 rfl)) (fr_s fU51 rfl)
                · omega
                · refine Or.inr (Or.inr ⟨z1, rfl, ?_⟩)
                  rw [show f - 1 + 1 = f by omega]
                  exact ir.trans ((rdf9_s hka (by omega) (by omega)).trans (bn9_r z2))
                · exact fun _ => z4
                · exact fun _ _ => ⟨z3, by omega, by omega⟩
                · omega
  refine j_blx (F := fX11) tb_X11 (by decide) bk_X11_competition_e_0 bs_X11_competition_e_0 hz (fun K hK => ?_)
  intro b53 b53b
  refine And.intro (fun c54 => ?_) (fun c54 => ?_)
  · refine hK 16 [some (vR 111 0), none, none] [] T ?_
    refine j_blx (F := fX11) tb_X11 (by decide) bk_X11_competition_e_16 bs_X11_competition_e_16 hz (fun K hK => ?_)
    refine bd_i (by omega) ?_
    refine x_nm (fun U55 hU55 => ?_)
    have e56 := up_f hU55
    refine bd_i (by omega) ?_
    refine x_nm (fun U57 hU57 => ?_)
    have e58 := up_f hU57
    refine bd_i (by omega) ?_
    refine x_nm (fun U59 hU59 => ?_)
    have e60 := up_f hU59
    refine hK 32 [some (vR 111 0), none, none] [vR 111 0] U59 ?_
    refine j_callV (y := yX11_layDefaults) (Yc := zX11_layDefaults) (rest := []) [] (ct_X11_layDefaults_e (T := U59)) cl_X11_311 (qd_c (by decide +kernel)) (by decide) rfl (by decide +kernel) (Nat.le_of_ble_eq_true rfl) (by decide) (by decide) rfl ?_
    rintro U61 _ ⟨rfl, fU61, qU61, tU61⟩
    show J_ zX11_competition T (po_X11_competition_e T) 0 0 35 [some (vR 111 0), none, none] [] U61
    refine j_blx (F := fX11) tb_X11 (by decide) bk_X11_competition_e_35 bs_X11_competition_e_35 hz (fun K hK => ?_)
    refine hK 37 [some (vR 111 0), some (vI 1), none] [] U61 ?_
    have e62 : U61 111 0 62 = 0 := (fU61 111 0 62 rfl).trans ((up_j hU59 (by decide) 111 0).trans (up_f hU57))
    have e63 : U61 111 0 63 = (-1) := (fU61 111 0 63 rfl).trans (up_f hU59)
    have e64 : U61 111 0 57 = 0 := (fU61 111 0 57 rfl).trans ((up_j hU59 (by decide) 111 0).trans ((up_j hU57 (by decide) 111 0).trans (up_f hU55)))
    refine c_37 _ 1 401 (fun _ => 0) dv9_ U61 (Nat.le_refl _) ?_ ?_ ?_ ?_ ?_ ?_
    · exact fr_t (fr_u (fr_u (fr_u (fr_0 _ _) hU55 rfl) hU57 rfl) hU59 rfl) (fr_s fU61 rfl)
    · omega
    · refine Or.inr (Or.inr ⟨by omega, rfl, ?_⟩)
      show _ = rdf9_ 402 (cl9_ (T 111 0 1) (fun j => T 200 0 j)) (T 111 0 1) (U61 111 0 57) (fun _ => 0) dv9_
      rw [show U61 111 0 57 = 0 by omega]
    · exact fun _ => qU61
    · exact fun _ _ => ⟨tU61, by omega, by omega⟩
    · omega
  · refine bd_i (by omega) ?_
    refine x_nm (fun U65 hU65 => ?_)
    have e66 := up_f hU65
    refine (show po_X11_competition_e T U65 (some (vI (-5))) from ?_)
    have e67 : U65 111 0 6 = T 111 0 6 := up_j hU65 (by decide) 111 0
    have e68 : U65 111 0 1 = T 111 0 1 := up_j hU65 (by decide) 111 0
    have e69 : U65 111 0 2 = (-1) := up_f hU65
    have e70 : U65 111 0 6 = T 111 0 6 := up_j hU65 (by decide) 111 0
    exact ⟨_, rfl, fr_u (fr_0 _ _) hU65 rfl, by omega, RI__f (ws := [(111, [2])]) hRI (fr_u (fr_0 _ _) hU65 rfl) ⟨fun _ => rfl, rfl, trivial⟩, RW__f (ws := [(111, [2])]) hRW (fr_u (fr_0 _ _) hU65 rfl) ⟨fun _ => rfl, rfl, trivial⟩, fun j _ => (show fr_ [(111, [2])] T U65 from fr_u (fr_0 _ _) hU65 rfl) 205 0 j rfl, Or.inl ⟨by omega, rfl, by omega, by omega, by omega⟩⟩

