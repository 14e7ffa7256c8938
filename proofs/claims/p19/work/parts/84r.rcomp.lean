-- competition of the reference
/-- what a competition's call does to the reference -/
def CR9_ (T T' : Zt) (x : Int) : Prop := (T 111 0 6 = 4 ∧ x = -5 ∧ T' 111 0 2 = -1 ∧ T' 111 0 1 = T 111 0 1 ∧ T' 111 0 6 = T 111 0 6) ∨ (T 111 0 6 < 4 ∧ T' 111 0 1 = 0 ∧ ((T' 111 0 6 = T 111 0 6 ∧ ∃ k, k ≠ 0 ∧ x = -10 - k ∧ rdf9_ 402 (cl9_ (T 111 0 1) (fun j => T 200 0 j)) (T 111 0 1) 0 (fun _ => 0) dv9_ = Sum.inl (k, T' 111 0 2)) ∨ (x = T 111 0 6 ∧ T' 111 0 6 = T 111 0 6 + 1 ∧ T' 111 0 2 = -1 ∧ ∃ v, rdf9_ 402 (cl9_ (T 111 0 1) (fun j => T 200 0 j)) (T 111 0 1) 0 (fun _ => 0) dv9_ = Sum.inr v ∧ ∀ j, 0 ≤ j → j < 23 → T' 205 0 (23 * T 111 0 6 + j) = v j)))
theorem bk_X11_competition_e_113 : ck_ fX11 (some .int) cX11_competition 113 [.iload 2, .iconst 23, .if_icmp .ge 145, .aload 0, .tableswitch 0 11 5 #[], .iconst 23, .aload 0, .tableswitch 0 11 6 #[], .imul, .iload 2, .iadd, .aload 0, .tableswitch 0 11 4 #[], .iload 2, .iaload, .iastore, .iinc 2 1, .goto 113] 145 = true := qck_r (nn_ _) (by decide +kernel)
theorem bs_X11_competition_e_113 {P : Zt → Option Zv → Prop} (K : Int → Zl → List Zv → Zt → Prop) : sx_ K P [.iload 2, .iconst 23, .if_icmp .ge 145, .aload 0, .tableswitch 0 11 5 #[], .iconst 23, .aload 0, .tableswitch 0 11 6 #[], .imul, .iload 2, .iadd, .aload 0, .tableswitch 0 11 4 #[], .iload 2, .iaload, .iastore, .iinc 2 1, .goto 113] 145 = x_iload 2 (x_iconst 23 (x_if_icmp .ge 145 K (x_aload 0 (x_g1 111 205 (x_iconst 23 (x_aload 0 (x_g0 111 6 0 4 (x_imul (x_iload 2 (x_iadd (x_aload 0 (x_g1 111 204 (x_iload 2 (x_iaload (x_iastore (x_iinc 2 1 (x_goto 113 K))))))))))))))))) := ((xe_iload 2).trans (congrArg (x_iload 2) ((xe_iconst 23).trans (congrArg (x_iconst 23) ((xe_if_icmp .ge 145).trans (congrArg (x_if_icmp .ge 145 K) ((xe_aload 0).trans (congrArg (x_aload 0) ((xe_g1 (kk := 111) rfl tl_11_5).trans (congrArg (x_g1 111 205) ((xe_iconst 23).trans (congrArg (x_iconst 23) ((xe_aload 0).trans (congrArg (x_aload 0) ((xe_g0 (kk := 111) rfl tl_11_6).trans (congrArg (x_g0 111 6 0 4) ((xe_imul).trans (congrArg (x_imul) ((xe_iload 2).trans (congrArg (x_iload 2) ((xe_iadd).trans (congrArg (x_iadd) ((xe_aload 0).trans (congrArg (x_aload 0) ((xe_g1 (kk := 111) rfl tl_11_4).trans (congrArg (x_g1 111 204) ((xe_iload 2).trans (congrArg (x_iload 2) ((xe_iaload).trans (congrArg (x_iaload) ((xe_iastore).trans (congrArg (x_iastore) ((xe_iinc 2 1).trans (congrArg (x_iinc 2 1) (xe_goto 113)))))))))))))))))))))))))))))))))))
theorem bk_X11_competition_e_145 : ck_ fX11 (some .int) cX11_competition 145 [.aload 0, .dup, .tableswitch 0 11 6 #[], .iconst 1, .iadd, .tableswitch 1 11 6 #[], .aload 0, .tableswitch 0 11 6 #[], .iconst 1, .isub, .ireturn] 162 = true := qck_r (nn_ _) (by decide +kernel)
theorem bs_X11_competition_e_145 {P : Zt → Option Zv → Prop} (K : Int → Zl → List Zv → Zt → Prop) : sx_ K P [.aload 0, .dup, .tableswitch 0 11 6 #[], .iconst 1, .iadd, .tableswitch 1 11 6 #[], .aload 0, .tableswitch 0 11 6 #[], .iconst 1, .isub, .ireturn] 162 = x_aload 0 (x_dup (x_g0 111 6 0 4 (x_iconst 1 (x_iadd (x_p 111 6 0 4 (x_aload 0 (x_g0 111 6 0 4 (x_iconst 1 (x_isub (x_ireturn P)))))))))) := ((xe_aload 0).trans (congrArg (x_aload 0) ((xe_dup).trans (congrArg (x_dup) ((xe_g0 (kk := 111) rfl tl_11_6).trans (congrArg (x_g0 111 6 0 4) ((xe_iconst 1).trans (congrArg (x_iconst 1) ((xe_iadd).trans (congrArg (x_iadd) ((xe_p (kk := 111) rfl tl_11_6).trans (congrArg (x_p 111 6 0 4) ((xe_aload 0).trans (congrArg (x_aload 0) ((xe_g0 (kk := 111) rfl tl_11_6).trans (congrArg (x_g0 111 6 0 4) ((xe_iconst 1).trans (congrArg (x_iconst 1) ((xe_isub).trans (congrArg (x_isub) (xe_ireturn)))))))))))))))))))))
theorem bk_X11_competition_e_83 : ck_ fX11 (some .int) cX11_competition 83 [.aload 0, .iconst 0, .tableswitch 1 11 1 #[], .aload 0, .aload 0, .tableswitch 0 11 63 #[], .tableswitch 1 11 2 #[], .aload 0, .tableswitch 0 11 62 #[], .ifCond .eq 111, .iconst (-10), .aload 0, .tableswitch 0 11 62 #[], .isub, .ireturn] 111 = true := qck_r (nn_ _) (by decide +kernel)
theorem bs_X11_competition_e_83 {P : Zt → Option Zv → Prop} (K : Int → Zl → List Zv → Zt → Prop) : sx_ K P [.aload 0, .iconst 0, .tableswitch 1 11 1 #[], .aload 0, .aload 0, .tableswitch 0 11 63 #[], .tableswitch 1 11 2 #[], .aload 0, .tableswitch 0 11 62 #[], .ifCond .eq 111, .iconst (-10), .aload 0, .tableswitch 0 11 62 #[], .isub, .ireturn] 111 = x_aload 0 (x_iconst 0 (x_p 111 1 0 400 (x_aload 0 (x_aload 0 (x_g0 111 63 (-1) 400 (x_p 111 2 (-1) 400 (x_aload 0 (x_g0 111 62 0 5 (x_ifCond .eq 111 K (x_iconst (-10) (x_aload 0 (x_g0 111 62 0 5 (x_isub (x_ireturn P)))))))))))))) := ((xe_aload 0).trans (congrArg (x_aload 0) ((xe_iconst 0).trans (congrArg (x_iconst 0) ((xe_p (kk := 111) rfl tl_11_1).trans (congrArg (x_p 111 1 0 400) ((xe_aload 0).trans (congrArg (x_aload 0) ((xe_aload 0).trans (congrArg (x_aload 0) ((xe_g0 (kk := 111) rfl tl_11_63).trans (congrArg (x_g0 111 63 (-1) 400) ((xe_p (kk := 111) rfl tl_11_2).trans (congrArg (x_p 111 2 (-1) 400) ((xe_aload 0).trans (congrArg (x_aload 0) ((xe_g0 (kk := 111) rfl tl_11_62).trans (congrArg (x_g0 111 62 0 5) ((xe_ifCond .eq 111).trans (congrArg (x_ifCond .eq 111 K) ((xe_iconst (-10)).trans (congrArg (x_iconst (-10)) ((xe_aload 0).trans (congrArg (x_aload 0) ((xe_g0 (kk := 111) rfl tl_11_62).trans (congrArg (x_g0 111 62 0 5) ((xe_isub).trans (congrArg (x_isub) (xe_ireturn)))))))))))))))))))))))))))))
theorem bk_X11_competition_e_111 : ck_ fX11 (some .int) cX11_competition 111 [.iconst 0, .istore 2] 113 = true := qck_r (nn_ _) (by decide +kernel)
theorem bs_X11_competition_e_111 {P : Zt → Option Zv → Prop} (K : Int → Zl → List Zv → Zt → Prop) : sx_ K P [.iconst 0, .istore 2] 113 = x_iconst 0 (x_istore 2 (K 113)) := ((xe_iconst 0).trans (congrArg (x_iconst 0) ((xe_istore 2).trans (congrArg (x_istore 2) xe_nil))))
theorem bk_X11_competition_e_37 : ck_ fX11 (some .int) cX11_competition 37 [.iload 1, .ifCond .eq 83, .aload 0, .tableswitch 0 11 62 #[], .ifCond .ne 83, .aload 0] 49 = true := qck_r (nn_ _) (by decide +kernel)
theorem bs_X11_competition_e_37 {P : Zt → Option Zv → Prop} (K : Int → Zl → List Zv → Zt → Prop) : sx_ K P [.iload 1, .ifCond .eq 83, .aload 0, .tableswitch 0 11 62 #[], .ifCond .ne 83, .aload 0] 49 = x_iload 1 (x_ifCond .eq 83 K (x_aload 0 (x_g0 111 62 0 5 (x_ifCond .ne 83 K (x_aload 0 (K 49)))))) := ((xe_iload 1).trans (congrArg (x_iload 1) ((xe_ifCond .eq 83).trans (congrArg (x_ifCond .eq 83 K) ((xe_aload 0).trans (congrArg (x_aload 0) ((xe_g0 (kk := 111) rfl tl_11_62).trans (congrArg (x_g0 111 62 0 5) ((xe_ifCond .ne 83).trans (congrArg (x_ifCond .ne 83 K) ((xe_aload 0).trans (congrArg (x_aload 0) xe_nil))))))))))))
theorem bk_X11_competition_e_52 : ck_ fX11 (some .int) cX11_competition 52 [.aload 0, .tableswitch 0 11 62 #[], .ifCond .ne 70, .aload 0, .tableswitch 0 11 58 #[], .ifCond .eq 70, .iconst 1, .goto 71] 70 = true := qck_r (nn_ _) (by decide +kernel)
theorem bs_X11_competition_e_52 {P : Zt → Option Zv → Prop} (K : Int → Zl → List Zv → Zt → Prop) : sx_ K P [.aload 0, .tableswitch 0 11 62 #[], .ifCond .ne 70, .aload 0, .tableswitch 0 11 58 #[], .ifCond .eq 70, .iconst 1, .goto 71] 70 = x_aload 0 (x_g0 111 62 0 5 (x_ifCond .ne 70 K (x_aload 0 (x_g0 111 58 0 4 (x_ifCond .eq 70 K (x_iconst 1 (x_goto 71 K))))))) := ((xe_aload 0).trans (congrArg (x_aload 0) ((xe_g0 (kk := 111) rfl tl_11_62).trans (congrArg (x_g0 111 62 0 5) ((xe_ifCond .ne 70).trans (congrArg (x_ifCond .ne 70 K) ((xe_aload 0).trans (congrArg (x_aload 0) ((xe_g0 (kk := 111) rfl tl_11_58).trans (congrArg (x_g0 111 58 0 4) ((xe_ifCond .eq 70).trans (congrArg (x_ifCond .eq 70 K) ((xe_iconst 1).trans (congrArg (x_iconst 1) (xe_goto 71)))))))))))))))
theorem bk_X11_competition_e_70 : ck_ fX11 (some .int) cX11_competition 70 [.iconst 0, .istore 1, .iload 1, .ifCond .eq 37, .aload 0] 77 = true := qck_r (nn_ _) (by decide +kernel)
theorem bs_X11_competition_e_70 {P : Zt → Option Zv → Prop} (K : Int → Zl → List Zv → Zt → Prop) : sx_ K P [.iconst 0, .istore 1, .iload 1, .ifCond .eq 37, .aload 0] 77 = x_iconst 0 (x_istore 1 (x_iload 1 (x_ifCond .eq 37 K (x_aload 0 (K 77))))) := ((xe_iconst 0).trans (congrArg (x_iconst 0) ((xe_istore 1).trans (congrArg (x_istore 1) ((xe_iload 1).trans (congrArg (x_iload 1) ((xe_ifCond .eq 37).trans (congrArg (x_ifCond .eq 37 K) ((xe_aload 0).trans (congrArg (x_aload 0) xe_nil))))))))))
theorem bk_X11_competition_e_71 : ck_ fX11 (some .int) cX11_competition 71 [.istore 1, .iload 1, .ifCond .eq 37, .aload 0] 77 = true := qck_r (nn_ _) (by decide +kernel)
theorem bs_X11_competition_e_71 {P : Zt → Option Zv → Prop} (K : Int → Zl → List Zv → Zt → Prop) : sx_ K P [.istore 1, .iload 1, .ifCond .eq 37, .aload 0] 77 = x_istore 1 (x_iload 1 (x_ifCond .eq 37 K (x_aload 0 (K 77)))) := ((xe_istore 1).trans (congrArg (x_istore 1) ((xe_iload 1).trans (congrArg (x_iload 1) ((xe_ifCond .eq 37).trans (congrArg (x_ifCond .eq 37 K) ((xe_aload 0).trans (congrArg (x_aload 0) xe_nil))))))))
theorem bk_X11_competition_e_80 : ck_ fX11 (some .int) cX11_competition 80 [.goto 37] 83 = true := qck_r (nn_ _) (by decide +kernel)
theorem bs_X11_competition_e_80 {P : Zt → Option Zv → Prop} (K : Int → Zl → List Zv → Zt → Prop) : sx_ K P [.goto 37] 83 = x_goto 37 K := (xe_goto 37)
theorem bk_X11_competition_e_0 : ck_ fX11 (some .int) cX11_competition 0 [.aload 0, .tableswitch 0 11 6 #[], .iconst 4, .if_icmp .ne 16, .aload 0, .iconst (-1), .tableswitch 1 11 2 #[], .iconst (-5), .ireturn] 16 = true := qck_r (nn_ _) (by decide +kernel)
theorem bs_X11_competition_e_0 {P : Zt → Option Zv → Prop} (K : Int → Zl → List Zv → Zt → Prop) : sx_ K P [.aload 0, .tableswitch 0 11 6 #[], .iconst 4, .if_icmp .ne 16, .aload 0, .iconst (-1), .tableswitch 1 11 2 #[], .iconst (-5), .ireturn] 16 = x_aload 0 (x_g0 111 6 0 4 (x_iconst 4 (x_if_icmp .ne 16 K (x_aload 0 (x_iconst (-1) (x_p 111 2 (-1) 400 (x_iconst (-5) (x_ireturn P)))))))) := ((xe_aload 0).trans (congrArg (x_aload 0) ((xe_g0 (kk := 111) rfl tl_11_6).trans (congrArg (x_g0 111 6 0 4) ((xe_iconst 4).trans (congrArg (x_iconst 4) ((xe_if_icmp .ne 16).trans (congrArg (x_if_icmp .ne 16 K) ((xe_aload 0).trans (congrArg (x_aload 0) ((xe_iconst (-1)).trans (congrArg (x_iconst (-1)) ((xe_p (kk := 111) rfl tl_11_2).trans (congrArg (x_p 111 2 (-1) 400) ((xe_iconst (-5)).trans (congrArg (x_iconst (-5)) (xe_ireturn)))))))))))))))))
theorem bk_X11_competition_e_16 : ck_ fX11 (some .int) cX11_competition 16 [.aload 0, .iconst 0, .tableswitch 1 11 57 #[], .aload 0, .iconst 0, .tableswitch 1 11 62 #[], .aload 0, .iconst (-1), .tableswitch 1 11 63 #[], .aload 0] 32 = true := qck_r (nn_ _) (by decide +kernel)
theorem bs_X11_competition_e_16 {P : Zt → Option Zv → Prop} (K : Int → Zl → List Zv → Zt → Prop) : sx_ K P [.aload 0, .iconst 0, .tableswitch 1 11 57 #[], .aload 0, .iconst 0, .tableswitch 1 11 62 #[], .aload 0, .iconst (-1), .tableswitch 1 11 63 #[], .aload 0] 32 = x_aload 0 (x_iconst 0 (x_p 111 57 0 400 (x_aload 0 (x_iconst 0 (x_p 111 62 0 5 (x_aload 0 (x_iconst (-1) (x_p 111 63 (-1) 400 (x_aload 0 (K 32)))))))))) := ((xe_aload 0).trans (congrArg (x_aload 0) ((xe_iconst 0).trans (congrArg (x_iconst 0) ((xe_p (kk := 111) rfl tl_11_57).trans (congrArg (x_p 111 57 0 400) ((xe_aload 0).trans (congrArg (x_aload 0) ((xe_iconst 0).trans (congrArg (x_iconst 0) ((xe_p (kk := 111) rfl tl_11_62).trans (congrArg (x_p 111 62 0 5) ((xe_aload 0).trans (congrArg (x_aload 0) ((xe_iconst (-1)).trans (congrArg (x_iconst (-1)) ((xe_p (kk := 111) rfl tl_11_63).trans (congrArg (x_p 111 63 (-1) 400) ((xe_aload 0).trans (congrArg (x_aload 0) xe_nil))))))))))))))))))))
theorem bk_X11_competition_e_35 : ck_ fX11 (some .int) cX11_competition 35 [.iconst 1, .istore 1] 37 = true := qck_r (nn_ _) (by decide +kernel)
theorem bs_X11_competition_e_35 {P : Zt → Option Zv → Prop} (K : Int → Zl → List Zv → Zt → Prop) : sx_ K P [.iconst 1, .istore 1] 37 = x_iconst 1 (x_istore 1 (K 37)) := ((xe_iconst 1).trans (congrArg (x_iconst 1) ((xe_istore 1).trans (congrArg (x_istore 1) xe_nil))))
abbrev po_X11_competition_e (T : Zt) : Zt → Option Zv → Prop := fun T' r => ∃ x : Int, r = some (vI x) ∧ fr_ [(111, [1, 2, 6, 57, 58, 59, 60, 61, 62, 63]), (204, []), (269, []), (270, []), (205, [])] T T' ∧ ((x < 0 ∧ T' 111 0 6 = T 111 0 6 ∨ x = T 111 0 6 ∧ T' 111 0 6 = x + 1) ∧ RI_ T' ∧ RW_ T' ∧ (∀ j, j < 23 * T 111 0 6 → T' 205 0 j = T 205 0 j) ∧ CR9_ T T' x)
set_option maxHeartbeats 4000000 in
theorem ct_X11_competition_e {T : Zt} (hC : CW_ T) (hRI : RI_ T) (hRW : RW_ T) : Ct_ yX11_competition zX11_competition T [vR 111 0] (po_X11_competition_e T) := by
  refine ct_of pn_11 rfl rfl (Nat.le_of_ble_eq_true rfl) (fun hT hav => ?_)
  have hz : zX11_competition.2.2.2.1 = some .boolean → ∀ (T' : Zt) (x : Int), po_X11_competition_e T T' (some (vI x)) → 0 ≤ x ∧ x ≤ 1 := fun h => by cases h
  have hb_1 : 0 ≤ T 111 0 1 ∧ T 111 0 1 ≤ 400 := bd_f hT 111 1 tl_11_1 0
  have hb_6 : 0 ≤ T 111 0 6 ∧ T 111 0 6 ≤ 4 := bd_f hT 111 6 tl_11_6 0
  show J_ zX11_competition T (po_X11_competition_e T) 0 0 0 [some (vR 111 0), none, none] [] T
  have c_83 : ∀ (v : Int → Int) (T4 : Zt), (fr_ [(111, [57, 58, 59, 60, 61, 62, 63]), (204, []), (269, []), (270, [])] T T4) → (0 ≤ T 111 0 6 ∧ T 111 0 6 < 4) → ((T4 111 0 62 ≠ 0 ∧ rdf9_ 402 (cl9_ (T 111 0 1) (fun j => T 200 0 j)) (T 111 0 1) 0 (fun _ => 0) dv9_ = Sum.inl (T4 111 0 62, T4 111 0 63)) ∨ (T4 111 0 62 = 0 ∧ rdf9_ 402 (cl9_ (T 111 0 1) (fun j => T 200 0 j)) (T 111 0 1) 0 (fun _ => 0) dv9_ = Sum.inr v)) → (T4 111 0 62 = 0 → VR9_ T4 v) → (T4 111 0 62 = 0 → T4 111 0 63 = -1) → J_ zX11_competition T (po_X11_competition_e T) 0 0 83 [some (vR 111 0), none, none] [] T4 := by
    intro v T4 hf_83 a4 jr4 jv4 j64
    have jrr : T4 111 0 62 = 0 → rdf9_ 402 (cl9_ (T 111 0 1) (fun j => T 200 0 j)) (T 111 0 1) 0 (fun _ => 0) dv9_ = Sum.inr v := fun z => (jr4.resolve_left (fun y => y.1 z)).2
    refine j_ok (fun hT4 _ => ?_)
    have hb4_62 : 0 ≤ T4 111 0 62 ∧ T4 111 0 62 ≤ 5 := bd_f hT4 111 62 tl_11_62 0
    have c_113 : ∀ (nn : Nat) (k : Int) (T2 : Zt), ((23 - k).toNat) ≤ nn → (fr_ [(111, [1, 2, 57, 58, 59, 60, 61, 62, 63]), (204, []), (269, []), (270, []), (205, [])] T T2) → (0 ≤ k ∧ k ≤ 23) → (VR9_ T2 v) → (T2 111 0 1 = 0 ∧ T2 111 0 2 = -1 ∧ T4 111 0 62 = 0) → (∀ j : Int, 0 ≤ j → j < k → T2 205 0 (23 * T 111 0 6 + j) = T2 204 0 j) → (∀ j : Int, j < 23 * T 111 0 6 → T2 205 0 j = T 205 0 j) → J_ zX11_competition T (po_X11_competition_e T) 0 0 113 [some (vR 111 0), none, some (vI k)] [] T2 := by
      intro nn
      induction nn using Nat.strongRecOn with
      | _ nn ih_113 =>
        intro k T2 hm_113 hf_113 k1 g2 w2 r1 r2
        replace hm_113 := fun (_ : Unit) => hm_113
        refine j_blx (F := fX11) tb_X11 (nn_ _) bk_X11_competition_e_113 bs_X11_competition_e_113 hz (fun K hK => ?_)
        refine And.intro (fun c1 => ?_) (fun c1 => ?_)
        · refine hK 145 _ [] T2 ?_
          refine j_blx (F := fX11) tb_X11 (nn_ _) bk_X11_competition_e_145 bs_X11_competition_e_145 hz (fun K hK => ?_)
          intro b2 b2b
          have e3 : T2 111 0 6 = T 111 0 6 := hf_113 111 0 6 rfl
          rw [e3] at b2 b2b ⊢
          refine rg_i (by omega) ?_
          refine bd_i (by omega) ?_
          refine x_nm (fun U4 hU4 => ?_)
          have e5 := up_f hU4
          intro b6 b6b
          have e7 : U4 111 0 6 = (T 111 0 6) + 1 := up_f hU4
          rw [e7] at b6 b6b ⊢
          refine rg_i (by omega) ?_
          refine (show po_X11_competition_e T U4 (some (vI (((T 111 0 6) + 1) - 1))) from ?_)
          have e8 : U4 111 0 6 = (T 111 0 6) + 1 := up_f hU4
          have e9 : U4 111 0 1 = T2 111 0 1 := up_j hU4 (by decide) 111 0
          have e10 : U4 111 0 2 = T2 111 0 2 := up_j hU4 (by decide) 111 0
          have e11 : U4 111 0 6 = (T 111 0 6) + 1 := up_f hU4
          have ec : U4 111 0 6 = T 111 0 6 + 1 := by omega
          have hw := rdf9_g 402 gb9_d (jrr (by omega))
          have ek : ∀ j, U4 205 0 j = T2 205 0 j := fun j => up_k hU4 (by exact Nat.ne_of_beq_eq_false rfl) 0 j
          have rv : ∀ j, 0 ≤ j → j < 23 → U4 205 0 (23 * T 111 0 6 + j) = v j := fun j a b => (ek _).trans ((r1 j a (by omega)).trans (g2 j a b))
          refine ⟨_, rfl, fr_u (fr_t (fr_0 _ _) (fr_s hf_113 rfl)) hU4 rfl, by omega, fun c w a b d e => ?_, fun c a b => ?_, fun j a => (ek j).trans (r2 j a), Or.inr ⟨by omega, by omega, Or.inr ⟨by omega, by omega, by omega, v, jrr (by omega), rv⟩⟩⟩
          · by_cases z : c = T 111 0 6
            · rw [z, rv w d e]; exact hw.1 w d e
            · rw [ek, r2 _ (by omega)]; exact hRI c w a (by omega) d e
          · by_cases z : c = T 111 0 6
            · rw [z, rv 1 (by omega) (by omega), rv 2 (by omega) (by omega), rv 3 (by omega) (by omega)]; exact hw.2
            · rw [ek, ek, ek, r2 _ (by omega), r2 _ (by omega), r2 _ (by omega)]; exact hRW c a (by omega)
        · intro b12 b12b
          have e13 : T2 111 0 6 = T 111 0 6 := hf_113 111 0 6 rfl
          rw [e13] at b12 b12b ⊢
          refine rg_i (by omega) ?_
          refine rg_i (by omega) ?_
          refine ix_i (by omega) ?_
          intro b14 b14b
          refine iy_i (by omega) (by omega) ?_
          refine x_nm (fun U15 hU15 => ?_)
          have e16 := up_f hU15
          refine rg_i (by omega) ?_
          refine hK 113 [some (vR 111 0), none, some (vI (k + 1))] [] U15 ?_
          have e17 : U15 111 0 1 = T2 111 0 1 := up_k hU15 (by exact Nat.ne_of_beq_eq_false rfl) 0 1
          have e18 : U15 111 0 2 = T2 111 0 2 := up_k hU15 (by exact Nat.ne_of_beq_eq_false rfl) 0 2
          refine ih_113 _ ?_ (k + 1) U15 (Nat.le_refl _) ?_ ?_ ?_ ?_ ?_ ?_
          · have hm_113 := hm_113 (); omega
          · exact fr_u (fr_t (fr_0 _ _) (fr_s hf_113 rfl)) hU15 rfl
          · omega
          · exact VR9_f g2 (show fr_ [(205, [])] T2 U15 from fr_u (fr_0 _ _) hU15 rfl) (fun _ => rfl)
          · omega
          · intro j a b
            by_cases z : j = k
            · subst z; rw [up_f hU15]; exact (up_k hU15 (by exact Nat.ne_of_beq_eq_false rfl) 0 j).symm
            · rw [up_g hU15 (by omega), up_k hU15 (by exact Nat.ne_of_beq_eq_false rfl)]; exact r1 j a (by omega)
          · intro j a
            rw [up_g hU15 (by omega)]; exact r2 j a
    refine j_blx (F := fX11) tb_X11 (nn_ _) bk_X11_competition_e_83 bs_X11_competition_e_83 hz (fun K hK => ?_)
    refine bd_i (by omega) ?_
    refine x_nm (fun U19 hU19 => ?_)
    have e20 := up_f hU19
    intro b21 b21b
    have e22 : U19 111 0 63 = T4 111 0 63 := up_j hU19 (by decide) 111 0
    rw [e22] at b21 b21b ⊢
    refine bd_i (by omega) ?_
    refine x_nm (fun U23 hU23 => ?_)
    have e24 := up_f hU23
    intro b25 b25b
    have e26 : U23 111 0 62 = T4 111 0 62 := (up_j hU23 (by decide) 111 0).trans (up_j hU19 (by decide) 111 0)
    rw [e26] at b25 b25b ⊢
    refine And.intro (fun c27 => ?_) (fun c27 => ?_)
    · refine hK 111 _ [] U23 ?_
      refine j_blx (F := fX11) tb_X11 (nn_ _) bk_X11_competition_e_111 bs_X11_competition_e_111 hz (fun K hK => ?_)
      refine hK 113 [some (vR 111 0), none, some (vI 0)] [] U23 ?_
      have e28 : U23 111 0 1 = 0 := (up_j hU23 (by decide) 111 0).trans (up_f hU19)
      have e29 : U23 111 0 2 = T4 111 0 63 := up_f hU23
      refine c_113 _ 0 U23 (Nat.le_refl _) ?_ ?_ ?_ ?_ ?_ ?_
      · exact fr_u (fr_u (fr_t (fr_0 _ _) (fr_s hf_83 rfl)) hU19 rfl) hU23 rfl
      · omega
      · exact VR9_f (jv4 (by omega)) (show fr_ [(111, [2, 1])] T4 U23 from fr_u (fr_u (fr_0 _ _) hU19 rfl) hU23 rfl) (fun _ => rfl)
      · omega
      · intro j a b; omega
      · exact fun j _ => (show fr_ [(111, [2, 1, 57, 58, 59, 60, 61, 62, 63]), (204, []), (269, []), (270, [])] T U23 from fr_u (fr_u (fr_t (fr_0 _ _) (fr_s hf_83 rfl)) hU19 rfl) hU23 rfl) 205 0 j rfl
    · intro b30 b30b
      have e31 : U23 111 0 62 = T4 111 0 62 := (up_j hU23 (by decide) 111 0).trans (up_j hU19 (by decide) 111 0)
      rw [e31] at b30 b30b ⊢
      refine rg_i (by omega) ?_
      refine (show po_X11_competition_e T U23 (some (vI ((-10) - (T4 111 0 62)))) from ?_)
      have e32 : U23 111 0 6 = T 111 0 6 := (up_j hU23 (by decide) 111 0).trans ((up_j hU19 (by decide) 111 0).trans (hf_83 111 0 6 rfl))
      have e33 : U23 111 0 1 = 0 := (up_j hU23 (by decide) 111 0).trans (up_f hU19)
      have e34 : U23 111 0 2 = T4 111 0 63 := up_f hU23
      have e35 : U23 111 0 6 = T 111 0 6 := (up_j hU23 (by decide) 111 0).trans ((up_j hU19 (by decide) 111 0).trans (hf_83 111 0 6 rfl))
      refine ⟨_, rfl, fr_u (fr_u (fr_t (fr_0 _ _) (fr_s hf_83 rfl)) hU19 rfl) hU23 rfl, by omega, RI__f (ws := [(111, [2, 1, 57, 58, 59, 60, 61, 62, 63]), (204, []), (269, []), (270, [])]) hRI (fr_u (fr_u (fr_t (fr_0 _ _) (fr_s hf_83 rfl)) hU19 rfl) hU23 rfl) ⟨fun _ => rfl, rfl, trivial⟩, RW__f (ws := [(111, [2, 1, 57, 58, 59, 60, 61, 62, 63]), (204, []), (269, []), (270, [])]) hRW (fr_u (fr_u (fr_t (fr_0 _ _) (fr_s hf_83 rfl)) hU19 rfl) hU23 rfl) ⟨fun _ => rfl, rfl, trivial⟩, fun j _ => (show fr_ [(111, [2, 1, 57, 58, 59, 60, 61, 62, 63]), (204, []), (269, []), (270, [])] T U23 from fr_u (fr_u (fr_t (fr_0 _ _) (fr_s hf_83 rfl)) hU19 rfl) hU23 rfl) 205 0 j rfl, Or.inr ⟨by omega, by omega, Or.inl ⟨by omega, T4 111 0 62, by omega, by omega, ?_⟩⟩⟩
      rw [show U23 111 0 2 = T4 111 0 63 by omega]
      exact (jr4.resolve_right (fun z => by omega)).2
  have c_37 : ∀ (nn : Nat) (mo : Int) (f : Nat) (t : Int → Int) (v : Int → Int) (T1 : Zt), f ≤ nn → (fr_ [(111, [57, 58, 59, 60, 61, 62, 63]), (204, []), (269, []), (270, [])] T T1) → (0 ≤ T 111 0 6 ∧ T 111 0 6 < 4) → ((T1 111 0 62 ≠ 0 ∧ rdf9_ 402 (cl9_ (T 111 0 1) (fun j => T 200 0 j)) (T 111 0 1) 0 (fun _ => 0) dv9_ = Sum.inl (T1 111 0 62, T1 111 0 63)) ∨ (T1 111 0 62 = 0 ∧ mo = 0 ∧ rdf9_ 402 (cl9_ (T 111 0 1) (fun j => T 200 0 j)) (T 111 0 1) 0 (fun _ => 0) dv9_ = Sum.inr v) ∨ (T1 111 0 62 = 0 ∧ mo = 1 ∧ rdf9_ 402 (cl9_ (T 111 0 1) (fun j => T 200 0 j)) (T 111 0 1) 0 (fun _ => 0) dv9_ = rdf9_ (f + 1) (cl9_ (T 111 0 1) (fun j => T 200 0 j)) (T 111 0 1) (T1 111 0 57) t v)) → (T1 111 0 62 = 0 → VR9_ T1 v) → (T1 111 0 62 = 0 → mo = 1 → TA9_ T1 t ∧ 401 ≤ (f : Int) + T1 111 0 57 ∧ T1 111 0 57 ≤ T 111 0 1) → (T1 111 0 62 = 0 → T1 111 0 63 = -1) → J_ zX11_competition T (po_X11_competition_e T) 0 0 37 [some (vR 111 0), some (vI mo), none] [] T1 := by
    intro nn
    induction nn using Nat.strongRecOn with
    | _ nn ih_37 =>
      intro mo f t v T1 hm_37 hf_37 a1 jr jv jt j63
      replace hm_37 := fun (_ : Unit) => hm_37
      refine j_ok (fun hT1 _ => ?_)
      have hb1_57 : 0 ≤ T1 111 0 57 ∧ T1 111 0 57 ≤ 400 := bd_f hT1 111 57 tl_11_57 0
      refine j_blx (F := fX11) tb_X11 (nn_ _) bk_X11_competition_e_37 bs_X11_competition_e_37 hz (fun K hK => ?_)
      refine And.intro (fun c36 => ?_) (fun c36 => ?_)
      · refine hK 83 _ [] T1 ?_
        refine j_drop [some (vR 111 0), none, none] (fun k v hk => ?_) rfl ?_
        · match k, hk with
          | 0, hk => exact hk
          | 1, hk => cases hk
          | 2, hk => cases hk
          | k + 3, hk => cases hk
        refine c_83 v T1 ?_ ?_ ?_ ?_ ?_
        · exact fr_t (fr_0 _ _) (fr_s hf_37 rfl)
        · omega
        · rcases jr with z | ⟨z1, z2, z3⟩ | ⟨z1, z2, z3⟩
          · exact Or.inl z
          · exact Or.inr ⟨z1, z3⟩
          · exfalso; omega
        · exact jv
        · exact j63
      · intro b37 b37b
        refine And.intro (fun c38 => ?_) (fun c38 => ?_)
        · refine hK 83 [some (vR 111 0), some (vI mo), none] [] T1 ?_
          refine j_drop [some (vR 111 0), none, none] (fun k v hk => ?_) rfl ?_
          · match k, hk with
            | 0, hk => exact hk
            | 1, hk => cases hk
            | 2, hk => cases hk
            | k + 3, hk => cases hk
          refine c_83 v T1 ?_ ?_ ?_ ?_ ?_
          · exact fr_t (fr_0 _ _) (fr_s hf_37 rfl)
          · omega
          · rcases jr with z | ⟨z1, z2, z3⟩ | ⟨z1, z2, z3⟩
            · exact Or.inl z
            · exact Or.inr ⟨z1, z3⟩
            · exfalso; omega
          · exact jv
          · exact j63
        · have hj : T1 111 0 62 = 0 ∧ mo = 1 := by omega
          have jt1 := jt hj.1 hj.2
          have ir := ((jr.resolve_left (fun z => by omega)).resolve_left (fun z => by omega)).2.2
          have j631 := j63 hj.1
          refine hK 49 [some (vR 111 0), some (vI mo), none] [vR 111 0] T1 ?_
          have e39 : T1 111 0 1 = T 111 0 1 := hf_37 111 0 1 rfl
          refine j_callV (y := yX11_take) (Yc := zX11_take) (rest := []) [] (ct_X11_take_e (T := T1) (by omega) (by omega)) cl_X11_291 (qd_c (by decide +kernel)) (nn_ _) rfl (rf_of rfl) (Nat.le_of_ble_eq_true rfl) (Nat.le_of_ble_eq_true rfl) (Nat.le_of_ble_eq_true rfl) rfl ?_
          rintro U40 _ ⟨rfl, fU40, qU40⟩
          show J_ zX11_competition T (po_X11_competition_e T) 0 0 52 _ [] U40
          have qka := qU40
          have fb41 : fr_ [(111, [57, 58, 59, 60, 61, 62, 63]), (204, []), (269, []), (270, [])] T T1 := fr_t (fr_0 _ _) (fr_s hf_37 rfl)
          rw [show (fun j => T1 200 0 j) = fun j => T 200 0 j from funext fun j => fb41 200 0 j rfl, show T1 111 0 1 = T 111 0 1 from fb41 111 0 1 rfl] at qka
          obtain ⟨qaa, ea, ka, hka, hqa⟩ := qka
          have tra := tk9_r hka
          refine j_blx (F := fX11) tb_X11 (nn_ _) bk_X11_competition_e_52 bs_X11_competition_e_52 hz (fun K hK => ?_)
          intro b42 b42b
          refine And.intro (fun c43 => ?_) (fun c43 => ?_)
          · refine hK 70 _ [] U40 ?_
            refine j_blx (F := fX11) tb_X11 (nn_ _) bk_X11_competition_e_70 bs_X11_competition_e_70 hz (fun K hK => ?_)
            refine And.intro (fun c44 => ?_) (fun c44 => ?_)
            · refine hK 37 [some (vR 111 0), some (vI 0), none] [] U40 ?_
              refine ih_37 _ ?_ 0 (f - 1) t v U40 (Nat.le_refl _) ?_ ?_ ?_ ?_ ?_ ?_
              · have hm_37 := hm_37 (); omega
              · exact fr_t (fr_t (fr_0 _ _) (fr_s hf_37 rfl)) (fr_s fU40 rfl)
              · omega
              · refine Or.inl ⟨by omega, ir.trans ((rdf9_s hka (by omega) (by omega)).trans (bn9_l (stf9_w ?_)))⟩
                rw [show U40 111 0 62 = 1 by omega, show U40 111 0 63 = U40 111 0 59 by omega]
                exact wof9_1 hka (by omega) (by omega)
              · exact fun z => absurd z (by omega)
              · exact fun z => absurd z (by omega)
              · exact fun z => absurd z (by omega)
            · exact absurd c44 (by decide)
          · intro b45 b45b
            refine And.intro (fun c46 => ?_) (fun c46 => ?_)
            · refine hK 70 _ [] U40 ?_
              refine j_blx (F := fX11) tb_X11 (nn_ _) bk_X11_competition_e_70 bs_X11_competition_e_70 hz (fun K hK => ?_)
              refine And.intro (fun c47 => ?_) (fun c47 => ?_)
              · refine hK 37 [some (vR 111 0), some (vI 0), none] [] U40 ?_
                refine ih_37 _ ?_ 0 (f - 1) t v U40 (Nat.le_refl _) ?_ ?_ ?_ ?_ ?_ ?_
                · have hm_37 := hm_37 (); omega
                · exact fr_t (fr_t (fr_0 _ _) (fr_s hf_37 rfl)) (fr_s fU40 rfl)
                · omega
                · exact Or.inr (Or.inl ⟨by omega, rfl, ir.trans (rdf9_z hka (by omega) (by omega))⟩)
                · exact fun _ => VR9_f (jv hj.1) fU40 (fun _ => rfl)
                · exact fun _ z => absurd z (by decide)
                · omega
              · exact absurd c47 (by decide)
            · have ee : U40 111 0 60 = ea := by omega
              have ek : U40 111 0 58 = ka := by omega
              refine hK 71 _ [vI 1] U40 ?_
              refine j_blx (F := fX11) tb_X11 (nn_ _) bk_X11_competition_e_71 bs_X11_competition_e_71 hz (fun K hK => ?_)
              refine And.intro (fun c48 => ?_) (fun c48 => ?_)
              · exact absurd c48 (by decide)
              · refine hK 77 [some (vR 111 0), some (vI 1), none] [vR 111 0] U40 ?_
                have e49 : U40 111 0 1 = T 111 0 1 := (fU40 111 0 1 rfl).trans (hf_37 111 0 1 rfl)
                have fb50 : fr_ [(111, [57, 58, 59, 60, 61, 62, 63]), (204, []), (269, []), (270, [])] T U40 := fr_t (fr_t (fr_0 _ _) (fr_s hf_37 rfl)) (fr_s fU40 rfl)
                refine j_callV (y := yX11_readStatement) (Yc := zX11_readStatement) (rest := []) [] (ct_X11_readStatement_e (T := U40) (a := T1 111 0 57) (t := t) (v := v) (by omega) (by rw [show (fun j => U40 200 0 j) = fun j => T 200 0 j from funext fun j => fb50 200 0 j rfl, show U40 111 0 1 = T 111 0 1 from fb50 111 0 1 rfl, ee, ek]; exact hka) (by omega) (by omega) (by exact CX_f (ws := [(111, [57, 58, 59, 60, 61, 62, 63]), (204, []), (269, []), (270, [])]) hC (fr_t (fr_t (fr_0 _ _) (fr_s hf_37 rfl)) (fr_s fU40 rfl)) ⟨fun _ => rfl, fun _ => rfl, fun _ => rfl, fun _ => rfl, fun _ => rfl, trivial⟩) (TA9_f jt1.1 fU40 (fun _ => rfl)) (VR9_f (jv hj.1) fU40 (fun _ => rfl))) cl_X11_314 (qd_c (by decide +kernel)) (nn_ _) rfl (rf_of rfl) (Nat.le_of_ble_eq_true rfl) (Nat.le_of_ble_eq_true rfl) (Nat.le_of_ble_eq_true rfl) rfl ?_
                rintro U51 _ ⟨rfl, fU51, qU51⟩
                have fb52 : fr_ [(111, [57, 58, 59, 60, 61, 62, 63]), (204, []), (269, []), (270, [])] T U40 := fr_t (fr_t (fr_0 _ _) (fr_s hf_37 rfl)) (fr_s fU40 rfl)
                rw [show (fun j => U40 200 0 j) = fun j => T 200 0 j from funext fun j => fb52 200 0 j rfl, show U40 111 0 1 = T 111 0 1 from fb52 111 0 1 rfl] at qU51
                show J_ zX11_competition T (po_X11_competition_e T) 0 0 80 _ [] U51
                rcases qU51 with ⟨z1, z2⟩ | ⟨z1, ⟨t9, v9, z2, z3, z4⟩, z5⟩
                · refine j_blx (F := fX11) tb_X11 (nn_ _) bk_X11_competition_e_80 bs_X11_competition_e_80 hz (fun K hK => ?_)
                  refine hK 37 _ [] U51 ?_
                  refine ih_37 _ ?_ 1 (f - 1) t v U51 (Nat.le_refl _) ?_ ?_ ?_ ?_ ?_ ?_
                  · have hm_37 := hm_37 (); omega
                  · exact fr_t (fr_t (fr_t (fr_0 _ _) (fr_s hf_37 rfl)) (fr_s fU40 rfl)) (fr_s fU51 rfl)
                  · omega
                  · exact Or.inl ⟨z1, ir.trans ((rdf9_s hka (by omega) (by omega)).trans (bn9_l z2))⟩
                  · exact fun z => absurd z (by omega)
                  · exact fun z => absurd z (by omega)
                  · exact fun z => absurd z (by omega)
                refine j_blx (F := fX11) tb_X11 (nn_ _) bk_X11_competition_e_80 bs_X11_competition_e_80 hz (fun K hK => ?_)
                refine hK 37 _ [] U51 ?_
                refine ih_37 _ ?_ 1 (f - 1) t9 v9 U51 (Nat.le_refl _) ?_ ?_ ?_ ?_ ?_ ?_
                · have hm_37 := hm_37 (); omega
                · exact fr_t (fr_t (fr_t (fr_0 _ _) (fr_s hf_37 rfl)) (fr_s fU40 rfl)) (fr_s fU51 rfl)
                · omega
                · refine Or.inr (Or.inr ⟨z1, rfl, ?_⟩)
                  rw [show f - 1 + 1 = f by omega]
                  exact ir.trans ((rdf9_s hka (by omega) (by omega)).trans (bn9_r z2))
                · exact fun _ => z4
                · exact fun _ _ => ⟨z3, by omega, by omega⟩
                · omega
  refine j_blx (F := fX11) tb_X11 (nn_ _) bk_X11_competition_e_0 bs_X11_competition_e_0 hz (fun K hK => ?_)
  intro b53 b53b
  refine And.intro (fun c54 => ?_) (fun c54 => ?_)
  · refine hK 16 _ [] T ?_
    refine j_blx (F := fX11) tb_X11 (nn_ _) bk_X11_competition_e_16 bs_X11_competition_e_16 hz (fun K hK => ?_)
    refine bd_i (by omega) ?_
    refine x_nm (fun U55 hU55 => ?_)
    have e56 := up_f hU55
    refine bd_i (by omega) ?_
    refine x_nm (fun U57 hU57 => ?_)
    have e58 := up_f hU57
    refine bd_i (by omega) ?_
    refine x_nm (fun U59 hU59 => ?_)
    have e60 := up_f hU59
    refine hK 32 _ [vR 111 0] U59 ?_
    refine j_callV (y := yX11_layDefaults) (Yc := zX11_layDefaults) (rest := []) [] (ct_X11_layDefaults_e (T := U59)) cl_X11_311 (qd_c (by decide +kernel)) (nn_ _) rfl (rf_of rfl) (Nat.le_of_ble_eq_true rfl) (Nat.le_of_ble_eq_true rfl) (Nat.le_of_ble_eq_true rfl) rfl ?_
    rintro U61 _ ⟨rfl, fU61, qU61, tU61⟩
    show J_ zX11_competition T (po_X11_competition_e T) 0 0 35 _ [] U61
    refine j_blx (F := fX11) tb_X11 (nn_ _) bk_X11_competition_e_35 bs_X11_competition_e_35 hz (fun K hK => ?_)
    refine hK 37 [some (vR 111 0), some (vI 1), none] [] U61 ?_
    have e62 : U61 111 0 62 = 0 := (fU61 111 0 62 rfl).trans ((up_j hU59 (by decide) 111 0).trans (up_f hU57))
    have e63 : U61 111 0 63 = (-1) := (fU61 111 0 63 rfl).trans (up_f hU59)
    have e64 : U61 111 0 57 = 0 := (fU61 111 0 57 rfl).trans ((up_j hU59 (by decide) 111 0).trans ((up_j hU57 (by decide) 111 0).trans (up_f hU55)))
    refine c_37 _ 1 401 (fun _ => 0) dv9_ U61 (Nat.le_refl _) ?_ ?_ ?_ ?_ ?_ ?_
    · exact fr_t (fr_u (fr_u (fr_u (fr_0 _ _) hU55 rfl) hU57 rfl) hU59 rfl) (fr_s fU61 rfl)
    · omega
    · refine Or.inr (Or.inr ⟨by omega, rfl, ?_⟩)
      show _ = rdf9_ 402 (cl9_ (T 111 0 1) (fun j => T 200 0 j)) (T 111 0 1) (U61 111 0 57) (fun _ => 0) dv9_
      rw [show U61 111 0 57 = 0 by omega]
    · exact fun _ => qU61
    · exact fun _ _ => ⟨tU61, by omega, by omega⟩
    · omega
  · refine bd_i (by omega) ?_
    refine x_nm (fun U65 hU65 => ?_)
    have e66 := up_f hU65
    refine (show po_X11_competition_e T U65 (some (vI (-5))) from ?_)
    have e67 : U65 111 0 6 = T 111 0 6 := up_j hU65 (by decide) 111 0
    have e68 : U65 111 0 1 = T 111 0 1 := up_j hU65 (by decide) 111 0
    have e69 : U65 111 0 2 = (-1) := up_f hU65
    have e70 : U65 111 0 6 = T 111 0 6 := up_j hU65 (by decide) 111 0
    exact ⟨_, rfl, fr_u (fr_0 _ _) hU65 rfl, by omega, RI__f (ws := [(111, [2])]) hRI (fr_u (fr_0 _ _) hU65 rfl) ⟨fun _ => rfl, rfl, trivial⟩, RW__f (ws := [(111, [2])]) hRW (fr_u (fr_0 _ _) hU65 rfl) ⟨fun _ => rfl, rfl, trivial⟩, fun j _ => (show fr_ [(111, [2])] T U65 from fr_u (fr_0 _ _) hU65 rfl) 205 0 j rfl, Or.inl ⟨by omega, rfl, by omega, by omega, by omega⟩⟩
-- competition of the house
/-- what a competition's call does to the house -/
def CH9_ (T T' : Zt) (x : Int) : Prop := (4 ≤ T 106 0 2 ∧ x = -5 ∧ T' 105 0 3 = -1 ∧ T' 105 0 1 = T 105 0 1 ∧ T' 106 0 2 = T 106 0 2) ∨ (T 106 0 2 < 4 ∧ T' 105 0 1 = 0 ∧ ((T' 106 0 2 = T 106 0 2 ∧ ∃ k, x = -10 - k ∧ rdf9_ 402 (cl9_ (T 105 0 1) (fun j => T 500 0 j)) (T 105 0 1) 0 (fun _ => 0) dv9_ = Sum.inl (k, T' 105 0 3)) ∨ (x = T 106 0 2 ∧ T' 106 0 2 = T 106 0 2 + 1 ∧ T' 105 0 3 = -1 ∧ (∀ i j, i ≠ T 106 0 2 → T' 402 i j = T 402 i j) ∧ (∀ j, 0 ≤ j → j < 12 → T' 404 (T 106 0 2) j = -1) ∧ ∃ v, rdf9_ 402 (cl9_ (T 105 0 1) (fun j => T 500 0 j)) (T 105 0 1) 0 (fun _ => 0) dv9_ = Sum.inr v ∧ (∀ j, 0 ≤ j → j < 16 → T' 401 (T 106 0 2) j = v j) ∧ ∀ k, 0 ≤ k → k < v 4 → T' 402 (T 106 0 2) k = v (16 + k))))
-- sign, fault, rule of both sides
/-- a sign is put at the text's end -/
def SG9_ (k : Nat) (T T' : Zt) (n c : Int) : Prop := T' k 0 n = c ∧ ∀ j, j ≠ n → T' k 0 j = T k 0 j
/-- a row stays -/
def RS9_ (k : Nat) (T T' : Zt) : Prop := ∀ j, T' k 0 j = T k 0 j
theorem bk_X10_sign_e_0 : ck_ fX10 (some .int) cX10_sign 0 [.iload 1, .iconst 10, .if_icmp .eq 21, .iload 1, .iconst 32, .if_icmp .lt 18, .iload 1, .iconst 126, .if_icmp .le 21, .iconst (-3), .ireturn] 21 = true := qck_r (nn_ _) (by decide +kernel)
theorem bs_X10_sign_e_0 {P : Zt → Option Zv → Prop} (K : Int → Zl → List Zv → Zt → Prop) : sx_ K P [.iload 1, .iconst 10, .if_icmp .eq 21, .iload 1, .iconst 32, .if_icmp .lt 18, .iload 1, .iconst 126, .if_icmp .le 21, .iconst (-3), .ireturn] 21 = x_iload 1 (x_iconst 10 (x_if_icmp .eq 21 K (x_iload 1 (x_iconst 32 (x_if_icmp .lt 18 K (x_iload 1 (x_iconst 126 (x_if_icmp .le 21 K (x_iconst (-3) (x_ireturn P)))))))))) := ((xe_iload 1).trans (congrArg (x_iload 1) ((xe_iconst 10).trans (congrArg (x_iconst 10) ((xe_if_icmp .eq 21).trans (congrArg (x_if_icmp .eq 21 K) ((xe_iload 1).trans (congrArg (x_iload 1) ((xe_iconst 32).trans (congrArg (x_iconst 32) ((xe_if_icmp .lt 18).trans (congrArg (x_if_icmp .lt 18 K) ((xe_iload 1).trans (congrArg (x_iload 1) ((xe_iconst 126).trans (congrArg (x_iconst 126) ((xe_if_icmp .le 21).trans (congrArg (x_if_icmp .le 21 K) ((xe_iconst (-3)).trans (congrArg (x_iconst (-3)) (xe_ireturn)))))))))))))))))))))
theorem bk_X10_sign_e_21 : ck_ fX10 (some .int) cX10_sign 21 [.aload 0, .tableswitch 0 10 0 #[], .tableswitch 0 5 1 #[], .iconst 400, .if_icmp .lt 37, .iconst (-5), .ireturn] 37 = true := qck_r (nn_ _) (by decide +kernel)
theorem bs_X10_sign_e_21 {P : Zt → Option Zv → Prop} (K : Int → Zl → List Zv → Zt → Prop) : sx_ K P [.aload 0, .tableswitch 0 10 0 #[], .tableswitch 0 5 1 #[], .iconst 400, .if_icmp .lt 37, .iconst (-5), .ireturn] 37 = x_aload 0 (x_g1 110 105 (x_g0 105 1 0 400 (x_iconst 400 (x_if_icmp .lt 37 K (x_iconst (-5) (x_ireturn P)))))) := ((xe_aload 0).trans (congrArg (x_aload 0) ((xe_g1 (kk := 110) rfl tl_10_0).trans (congrArg (x_g1 110 105) ((xe_g0 (kk := 105) rfl tl_5_1).trans (congrArg (x_g0 105 1 0 400) ((xe_iconst 400).trans (congrArg (x_iconst 400) ((xe_if_icmp .lt 37).trans (congrArg (x_if_icmp .lt 37 K) ((xe_iconst (-5)).trans (congrArg (x_iconst (-5)) (xe_ireturn)))))))))))))
theorem bk_X10_sign_e_37 : ck_ fX10 (some .int) cX10_sign 37 [.aload 0, .tableswitch 0 10 0 #[], .tableswitch 0 5 0 #[], .aload 0, .tableswitch 0 10 0 #[], .tableswitch 0 5 1 #[], .iload 1, .iastore, .aload 0, .tableswitch 0 10 0 #[], .dup, .tableswitch 0 5 1 #[], .iconst 1, .iadd, .tableswitch 1 5 1 #[], .aload 0, .tableswitch 0 10 0 #[], .tableswitch 0 5 1 #[], .ireturn] 74 = true := qck_r (nn_ _) (by decide +kernel)
theorem bs_X10_sign_e_37 {P : Zt → Option Zv → Prop} (K : Int → Zl → List Zv → Zt → Prop) : sx_ K P [.aload 0, .tableswitch 0 10 0 #[], .tableswitch 0 5 0 #[], .aload 0, .tableswitch 0 10 0 #[], .tableswitch 0 5 1 #[], .iload 1, .iastore, .aload 0, .tableswitch 0 10 0 #[], .dup, .tableswitch 0 5 1 #[], .iconst 1, .iadd, .tableswitch 1 5 1 #[], .aload 0, .tableswitch 0 10 0 #[], .tableswitch 0 5 1 #[], .ireturn] 74 = x_aload 0 (x_g1 110 105 (x_g1 105 500 (x_aload 0 (x_g1 110 105 (x_g0 105 1 0 400 (x_iload 1 (x_iastore (x_aload 0 (x_g1 110 105 (x_dup (x_g0 105 1 0 400 (x_iconst 1 (x_iadd (x_p 105 1 0 400 (x_aload 0 (x_g1 110 105 (x_g0 105 1 0 400 (x_ireturn P)))))))))))))))))) := ((xe_aload 0).trans (congrArg (x_aload 0) ((xe_g1 (kk := 110) rfl tl_10_0).trans (congrArg (x_g1 110 105) ((xe_g1 (kk := 105) rfl tl_5_0).trans (congrArg (x_g1 105 500) ((xe_aload 0).trans (congrArg (x_aload 0) ((xe_g1 (kk := 110) rfl tl_10_0).trans (congrArg (x_g1 110 105) ((xe_g0 (kk := 105) rfl tl_5_1).trans (congrArg (x_g0 105 1 0 400) ((xe_iload 1).trans (congrArg (x_iload 1) ((xe_iastore).trans (congrArg (x_iastore) ((xe_aload 0).trans (congrArg (x_aload 0) ((xe_g1 (kk := 110) rfl tl_10_0).trans (congrArg (x_g1 110 105) ((xe_dup).trans (congrArg (x_dup) ((xe_g0 (kk := 105) rfl tl_5_1).trans (congrArg (x_g0 105 1 0 400) ((xe_iconst 1).trans (congrArg (x_iconst 1) ((xe_iadd).trans (congrArg (x_iadd) ((xe_p (kk := 105) rfl tl_5_1).trans (congrArg (x_p 105 1 0 400) ((xe_aload 0).trans (congrArg (x_aload 0) ((xe_g1 (kk := 110) rfl tl_10_0).trans (congrArg (x_g1 110 105) ((xe_g0 (kk := 105) rfl tl_5_1).trans (congrArg (x_g0 105 1 0 400) (xe_ireturn)))))))))))))))))))))))))))))))))))))
theorem bk_X10_sign_e_18 : ck_ fX10 (some .int) cX10_sign 18 [.iconst (-3), .ireturn] 21 = true := qck_r (nn_ _) (by decide +kernel)
theorem bs_X10_sign_e_18 {P : Zt → Option Zv → Prop} (K : Int → Zl → List Zv → Zt → Prop) : sx_ K P [.iconst (-3), .ireturn] 21 = x_iconst (-3) (x_ireturn P) := ((xe_iconst (-3)).trans (congrArg (x_iconst (-3)) (xe_ireturn)))
abbrev po_X10_sign_e (T : Zt) (c : Int) : Zt → Option Zv → Prop := fun T' r => ∃ x : Int, r = some (vI x) ∧ fr_ [(105, [1]), (500, [])] T T' ∧ ((x = -3 ∧ T' 105 0 1 = T 105 0 1 ∧ ¬ (c = 10 ∨ 32 ≤ c ∧ c ≤ 126) ∧ RS9_ 500 T T') ∨ ((c = 10 ∨ 32 ≤ c ∧ c ≤ 126) ∧ T 105 0 1 = 400 ∧ x = -5 ∧ T' 105 0 1 = 400 ∧ RS9_ 500 T T') ∨ ((c = 10 ∨ 32 ≤ c ∧ c ≤ 126) ∧ T 105 0 1 < 400 ∧ x = T 105 0 1 + 1 ∧ T' 105 0 1 = x ∧ SG9_ 500 T T' (T 105 0 1) c))
set_option maxHeartbeats 4000000 in
theorem ct_X10_sign_e {T : Zt} {c : Int} : Ct_ yX10_sign zX10_sign T [vR 110 0, vI c] (po_X10_sign_e T c) := by
  refine ct_of pn_10 rfl rfl (Nat.le_of_ble_eq_true rfl) (fun hT hav => ?_)
  have hr_c : -2147483648 ≤ c ∧ c ≤ 2147483647 := hav (vI c) (List.mem_cons_of_mem _ List.mem_cons_self)
  have hz : zX10_sign.2.2.2.1 = some .boolean → ∀ (T' : Zt) (x : Int), po_X10_sign_e T c T' (some (vI x)) → 0 ≤ x ∧ x ≤ 1 := fun h => by cases h
  have hb_length : 0 ≤ T 105 0 1 ∧ T 105 0 1 ≤ 400 := bd_f hT 105 1 tl_5_1 0
  show J_ zX10_sign T (po_X10_sign_e T c) 0 0 0 [some (vR 110 0), some (vI c)] [] T
  refine j_blx (F := fX10) tb_X10 (nn_ _) bk_X10_sign_e_0 bs_X10_sign_e_0 hz (fun K hK => ?_)
  refine And.intro (fun c1 => ?_) (fun c1 => ?_)
  · refine hK 21 _ [] T ?_
    refine j_blx (F := fX10) tb_X10 (nn_ _) bk_X10_sign_e_21 bs_X10_sign_e_21 hz (fun K hK => ?_)
    intro b2 b2b
    refine And.intro (fun c3 => ?_) (fun c3 => ?_)
    · refine hK 37 _ [] T ?_
      refine j_blx (F := fX10) tb_X10 (nn_ _) bk_X10_sign_e_37 bs_X10_sign_e_37 hz (fun K hK => ?_)
      intro b4 b4b
      refine iy_i (by omega) (by omega) ?_
      refine x_nm (fun U5 hU5 => ?_)
      have e6 := up_f hU5
      intro b7 b7b
      have e8 : U5 105 0 1 = T 105 0 1 := up_k hU5 (by exact Nat.ne_of_beq_eq_false rfl) 0 1
      rw [e8] at b7 b7b ⊢
      refine rg_i (by omega) ?_
      refine bd_i (by omega) ?_
      refine x_nm (fun U9 hU9 => ?_)
      have e10 := up_f hU9
      intro b11 b11b
      have e12 : U9 105 0 1 = (T 105 0 1) + 1 := up_f hU9
      rw [e12] at b11 b11b ⊢
      refine (show po_X10_sign_e T c U9 (some (vI ((T 105 0 1) + 1))) from ?_)
      have e13 : U9 105 0 1 = (T 105 0 1) + 1 := up_f hU9
      exact ⟨_, rfl, fr_u (fr_u (fr_0 _ _) hU5 rfl) hU9 rfl, Or.inr (Or.inr ⟨by omega, by omega, by omega, by omega, (up_k hU9 (by exact Nat.ne_of_beq_eq_false rfl) 0 _).trans (up_f hU5), fun j hj => (up_k hU9 (by exact Nat.ne_of_beq_eq_false rfl) 0 j).trans (up_g hU5 (fun z => hj z.2.2))⟩)⟩
    · refine (show po_X10_sign_e T c T (some (vI (-5))) from ?_)
      exact ⟨_, rfl, fr_0 _ _, Or.inr (Or.inl ⟨by omega, by omega, rfl, by omega, fun _ => rfl⟩)⟩
  · refine And.intro (fun c14 => ?_) (fun c14 => ?_)
    · refine hK 18 _ [] T ?_
      refine j_blx (F := fX10) tb_X10 (nn_ _) bk_X10_sign_e_18 bs_X10_sign_e_18 hz (fun K hK => ?_)
      refine (show po_X10_sign_e T c T (some (vI (-3))) from ?_)
      exact ⟨_, rfl, fr_0 _ _, Or.inl ⟨rfl, rfl, by omega, fun _ => rfl⟩⟩
    · refine And.intro (fun c15 => ?_) (fun c15 => ?_)
      · refine hK 21 _ [] T ?_
        refine j_blx (F := fX10) tb_X10 (nn_ _) bk_X10_sign_e_21 bs_X10_sign_e_21 hz (fun K hK => ?_)
        intro b16 b16b
        refine And.intro (fun c17 => ?_) (fun c17 => ?_)
        · refine hK 37 _ [] T ?_
          refine j_blx (F := fX10) tb_X10 (nn_ _) bk_X10_sign_e_37 bs_X10_sign_e_37 hz (fun K hK => ?_)
          intro b18 b18b
          refine iy_i (by omega) (by omega) ?_
          refine x_nm (fun U19 hU19 => ?_)
          have e20 := up_f hU19
          intro b21 b21b
          have e22 : U19 105 0 1 = T 105 0 1 := up_k hU19 (by exact Nat.ne_of_beq_eq_false rfl) 0 1
          rw [e22] at b21 b21b ⊢
          refine rg_i (by omega) ?_
          refine bd_i (by omega) ?_
          refine x_nm (fun U23 hU23 => ?_)
          have e24 := up_f hU23
          intro b25 b25b
          have e26 : U23 105 0 1 = (T 105 0 1) + 1 := up_f hU23
          rw [e26] at b25 b25b ⊢
          refine (show po_X10_sign_e T c U23 (some (vI ((T 105 0 1) + 1))) from ?_)
          have e27 : U23 105 0 1 = (T 105 0 1) + 1 := up_f hU23
          exact ⟨_, rfl, fr_u (fr_u (fr_0 _ _) hU19 rfl) hU23 rfl, Or.inr (Or.inr ⟨by omega, by omega, by omega, by omega, (up_k hU23 (by exact Nat.ne_of_beq_eq_false rfl) 0 _).trans (up_f hU19), fun j hj => (up_k hU23 (by exact Nat.ne_of_beq_eq_false rfl) 0 j).trans (up_g hU19 (fun z => hj z.2.2))⟩)⟩
        · refine (show po_X10_sign_e T c T (some (vI (-5))) from ?_)
          exact ⟨_, rfl, fr_0 _ _, Or.inr (Or.inl ⟨by omega, by omega, rfl, by omega, fun _ => rfl⟩)⟩
      · refine (show po_X10_sign_e T c T (some (vI (-3))) from ?_)
        exact ⟨_, rfl, fr_0 _ _, Or.inl ⟨rfl, rfl, by omega, fun _ => rfl⟩⟩
theorem bk_X11_sign_e_0 : ck_ fX11 (some .int) cX11_sign 0 [.iload 1, .iconst 10, .if_icmp .eq 20, .iload 1, .iconst 32, .iconst 126] 11 = true := qck_r (nn_ _) (by decide +kernel)
theorem bs_X11_sign_e_0 {P : Zt → Option Zv → Prop} (K : Int → Zl → List Zv → Zt → Prop) : sx_ K P [.iload 1, .iconst 10, .if_icmp .eq 20, .iload 1, .iconst 32, .iconst 126] 11 = x_iload 1 (x_iconst 10 (x_if_icmp .eq 20 K (x_iload 1 (x_iconst 32 (x_iconst 126 (K 11)))))) := ((xe_iload 1).trans (congrArg (x_iload 1) ((xe_iconst 10).trans (congrArg (x_iconst 10) ((xe_if_icmp .eq 20).trans (congrArg (x_if_icmp .eq 20 K) ((xe_iload 1).trans (congrArg (x_iload 1) ((xe_iconst 32).trans (congrArg (x_iconst 32) ((xe_iconst 126).trans (congrArg (x_iconst 126) xe_nil))))))))))))
theorem bk_X11_sign_e_20 : ck_ fX11 (some .int) cX11_sign 20 [.aload 0, .tableswitch 0 11 1 #[], .iconst 400, .if_icmp .ne 33, .iconst (-5), .ireturn] 33 = true := qck_r (nn_ _) (by decide +kernel)
theorem bs_X11_sign_e_20 {P : Zt → Option Zv → Prop} (K : Int → Zl → List Zv → Zt → Prop) : sx_ K P [.aload 0, .tableswitch 0 11 1 #[], .iconst 400, .if_icmp .ne 33, .iconst (-5), .ireturn] 33 = x_aload 0 (x_g0 111 1 0 400 (x_iconst 400 (x_if_icmp .ne 33 K (x_iconst (-5) (x_ireturn P))))) := ((xe_aload 0).trans (congrArg (x_aload 0) ((xe_g0 (kk := 111) rfl tl_11_1).trans (congrArg (x_g0 111 1 0 400) ((xe_iconst 400).trans (congrArg (x_iconst 400) ((xe_if_icmp .ne 33).trans (congrArg (x_if_icmp .ne 33 K) ((xe_iconst (-5)).trans (congrArg (x_iconst (-5)) (xe_ireturn)))))))))))
theorem bk_X11_sign_e_33 : ck_ fX11 (some .int) cX11_sign 33 [.aload 0, .tableswitch 0 11 0 #[], .aload 0, .tableswitch 0 11 1 #[], .iload 1, .iastore, .aload 0, .dup, .tableswitch 0 11 1 #[], .iconst 1, .iadd, .tableswitch 1 11 1 #[], .aload 0, .tableswitch 0 11 1 #[], .ireturn] 58 = true := qck_r (nn_ _) (by decide +kernel)
theorem bs_X11_sign_e_33 {P : Zt → Option Zv → Prop} (K : Int → Zl → List Zv → Zt → Prop) : sx_ K P [.aload 0, .tableswitch 0 11 0 #[], .aload 0, .tableswitch 0 11 1 #[], .iload 1, .iastore, .aload 0, .dup, .tableswitch 0 11 1 #[], .iconst 1, .iadd, .tableswitch 1 11 1 #[], .aload 0, .tableswitch 0 11 1 #[], .ireturn] 58 = x_aload 0 (x_g1 111 200 (x_aload 0 (x_g0 111 1 0 400 (x_iload 1 (x_iastore (x_aload 0 (x_dup (x_g0 111 1 0 400 (x_iconst 1 (x_iadd (x_p 111 1 0 400 (x_aload 0 (x_g0 111 1 0 400 (x_ireturn P)))))))))))))) := ((xe_aload 0).trans (congrArg (x_aload 0) ((xe_g1 (kk := 111) rfl tl_11_0).trans (congrArg (x_g1 111 200) ((xe_aload 0).trans (congrArg (x_aload 0) ((xe_g0 (kk := 111) rfl tl_11_1).trans (congrArg (x_g0 111 1 0 400) ((xe_iload 1).trans (congrArg (x_iload 1) ((xe_iastore).trans (congrArg (x_iastore) ((xe_aload 0).trans (congrArg (x_aload 0) ((xe_dup).trans (congrArg (x_dup) ((xe_g0 (kk := 111) rfl tl_11_1).trans (congrArg (x_g0 111 1 0 400) ((xe_iconst 1).trans (congrArg (x_iconst 1) ((xe_iadd).trans (congrArg (x_iadd) ((xe_p (kk := 111) rfl tl_11_1).trans (congrArg (x_p 111 1 0 400) ((xe_aload 0).trans (congrArg (x_aload 0) ((xe_g0 (kk := 111) rfl tl_11_1).trans (congrArg (x_g0 111 1 0 400) (xe_ireturn)))))))))))))))))))))))))))))
theorem bk_X11_sign_e_14 : ck_ fX11 (some .int) cX11_sign 14 [.ifCond .ne 20, .iconst (-3), .ireturn] 20 = true := qck_r (nn_ _) (by decide +kernel)
theorem bs_X11_sign_e_14 {P : Zt → Option Zv → Prop} (K : Int → Zl → List Zv → Zt → Prop) : sx_ K P [.ifCond .ne 20, .iconst (-3), .ireturn] 20 = x_ifCond .ne 20 K (x_iconst (-3) (x_ireturn P)) := ((xe_ifCond .ne 20).trans (congrArg (x_ifCond .ne 20 K) ((xe_iconst (-3)).trans (congrArg (x_iconst (-3)) (xe_ireturn)))))
abbrev po_X11_sign_e (T : Zt) (c : Int) : Zt → Option Zv → Prop := fun T' r => ∃ x : Int, r = some (vI x) ∧ fr_ [(111, [1]), (200, [])] T T' ∧ ((x = -3 ∧ T' 111 0 1 = T 111 0 1 ∧ ¬ (c = 10 ∨ 32 ≤ c ∧ c ≤ 126) ∧ RS9_ 200 T T') ∨ ((c = 10 ∨ 32 ≤ c ∧ c ≤ 126) ∧ T 111 0 1 = 400 ∧ x = -5 ∧ T' 111 0 1 = 400 ∧ RS9_ 200 T T') ∨ ((c = 10 ∨ 32 ≤ c ∧ c ≤ 126) ∧ T 111 0 1 < 400 ∧ x = T 111 0 1 + 1 ∧ T' 111 0 1 = x ∧ SG9_ 200 T T' (T 111 0 1) c))
set_option maxHeartbeats 4000000 in
theorem ct_X11_sign_e {T : Zt} {c : Int} : Ct_ yX11_sign zX11_sign T [vR 111 0, vI c] (po_X11_sign_e T c) := by
  refine ct_of pn_11 rfl rfl (Nat.le_of_ble_eq_true rfl) (fun hT hav => ?_)
  have hr_c : -2147483648 ≤ c ∧ c ≤ 2147483647 := hav (vI c) (List.mem_cons_of_mem _ List.mem_cons_self)
  have hz : zX11_sign.2.2.2.1 = some .boolean → ∀ (T' : Zt) (x : Int), po_X11_sign_e T c T' (some (vI x)) → 0 ≤ x ∧ x ≤ 1 := fun h => by cases h
  have hb_1 : 0 ≤ T 111 0 1 ∧ T 111 0 1 ≤ 400 := bd_f hT 111 1 tl_11_1 0
  show J_ zX11_sign T (po_X11_sign_e T c) 0 0 0 [some (vR 111 0), some (vI c)] [] T
  refine j_blx (F := fX11) tb_X11 (nn_ _) bk_X11_sign_e_0 bs_X11_sign_e_0 hz (fun K hK => ?_)
  refine And.intro (fun c1 => ?_) (fun c1 => ?_)
  · refine hK 20 _ [] T ?_
    refine j_blx (F := fX11) tb_X11 (nn_ _) bk_X11_sign_e_20 bs_X11_sign_e_20 hz (fun K hK => ?_)
    intro b2 b2b
    refine And.intro (fun c3 => ?_) (fun c3 => ?_)
    · refine hK 33 _ [] T ?_
      refine j_blx (F := fX11) tb_X11 (nn_ _) bk_X11_sign_e_33 bs_X11_sign_e_33 hz (fun K hK => ?_)
      intro b4 b4b
      refine iy_i (by omega) (by omega) ?_
      refine x_nm (fun U5 hU5 => ?_)
      have e6 := up_f hU5
      intro b7 b7b
      have e8 : U5 111 0 1 = T 111 0 1 := up_k hU5 (by exact Nat.ne_of_beq_eq_false rfl) 0 1
      rw [e8] at b7 b7b ⊢
      refine rg_i (by omega) ?_
      refine bd_i (by omega) ?_
      refine x_nm (fun U9 hU9 => ?_)
      have e10 := up_f hU9
      intro b11 b11b
      have e12 : U9 111 0 1 = (T 111 0 1) + 1 := up_f hU9
      rw [e12] at b11 b11b ⊢
      refine (show po_X11_sign_e T c U9 (some (vI ((T 111 0 1) + 1))) from ?_)
      have e13 : U9 111 0 1 = (T 111 0 1) + 1 := up_f hU9
      exact ⟨_, rfl, fr_u (fr_u (fr_0 _ _) hU5 rfl) hU9 rfl, Or.inr (Or.inr ⟨by omega, by omega, by omega, by omega, (up_k hU9 (by exact Nat.ne_of_beq_eq_false rfl) 0 _).trans (up_f hU5), fun j hj => (up_k hU9 (by exact Nat.ne_of_beq_eq_false rfl) 0 j).trans (up_g hU5 (fun z => hj z.2.2))⟩)⟩
    · refine (show po_X11_sign_e T c T (some (vI (-5))) from ?_)
      exact ⟨_, rfl, fr_0 _ _, Or.inr (Or.inl ⟨by omega, by omega, rfl, by omega, fun _ => rfl⟩)⟩
  · refine hK 11 _ [vI 126, vI 32, vI c] T ?_
    refine j_callS (y := yX11_in) (Yc := zX11_in) (rest := []) [vI c, vI 32, vI 126] (ct_X11_in (T := T)) cl_X11_255 (qd_c (by decide +kernel)) (nn_ _) rfl (rf_of rfl) (Nat.le_of_ble_eq_true rfl) (Nat.le_of_ble_eq_true rfl) (Nat.le_of_ble_eq_true rfl) rfl ?_
    rintro _ _ ⟨rfl, x14, rfl, hx14⟩
    show J_ zX11_sign T (po_X11_sign_e T c) 0 0 14 _ [vI x14] T
    refine j_blx (F := fX11) tb_X11 (nn_ _) bk_X11_sign_e_14 bs_X11_sign_e_14 hz (fun K hK => ?_)
    refine And.intro (fun c15 => ?_) (fun c15 => ?_)
    · replace hx14 := hx14.resolve_right (fun z => c15 z.1)
      clear c15
      refine hK 20 _ [] T ?_
      refine j_blx (F := fX11) tb_X11 (nn_ _) bk_X11_sign_e_20 bs_X11_sign_e_20 hz (fun K hK => ?_)
      intro b16 b16b
      refine And.intro (fun c17 => ?_) (fun c17 => ?_)
      · refine hK 33 _ [] T ?_
        refine j_blx (F := fX11) tb_X11 (nn_ _) bk_X11_sign_e_33 bs_X11_sign_e_33 hz (fun K hK => ?_)
        intro b18 b18b
        refine iy_i (by omega) (by omega) ?_
        refine x_nm (fun U19 hU19 => ?_)
        have e20 := up_f hU19
        intro b21 b21b
        have e22 : U19 111 0 1 = T 111 0 1 := up_k hU19 (by exact Nat.ne_of_beq_eq_false rfl) 0 1
        rw [e22] at b21 b21b ⊢
        refine rg_i (by omega) ?_
        refine bd_i (by omega) ?_
        refine x_nm (fun U23 hU23 => ?_)
        have e24 := up_f hU23
        intro b25 b25b
        have e26 : U23 111 0 1 = (T 111 0 1) + 1 := up_f hU23
        rw [e26] at b25 b25b ⊢
        refine (show po_X11_sign_e T c U23 (some (vI ((T 111 0 1) + 1))) from ?_)
        have e27 : U23 111 0 1 = (T 111 0 1) + 1 := up_f hU23
        exact ⟨_, rfl, fr_u (fr_u (fr_0 _ _) hU19 rfl) hU23 rfl, Or.inr (Or.inr ⟨by omega, by omega, by omega, by omega, (up_k hU23 (by exact Nat.ne_of_beq_eq_false rfl) 0 _).trans (up_f hU19), fun j hj => (up_k hU23 (by exact Nat.ne_of_beq_eq_false rfl) 0 j).trans (up_g hU19 (fun z => hj z.2.2))⟩)⟩
      · refine (show po_X11_sign_e T c T (some (vI (-5))) from ?_)
        exact ⟨_, rfl, fr_0 _ _, Or.inr (Or.inl ⟨by omega, by omega, rfl, by omega, fun _ => rfl⟩)⟩
    · replace hx14 := hx14.resolve_left (fun z => absurd (c15.symm.trans z.1) (by decide))
      clear c15
      refine (show po_X11_sign_e T c T (some (vI (-3))) from ?_)
      exact ⟨_, rfl, fr_0 _ _, Or.inl ⟨rfl, rfl, by omega, fun _ => rfl⟩⟩
theorem bk_X10_fault_e_0 : ck_ fX10 (some .int) cX10_fault 0 [.aload 0, .tableswitch 0 10 0 #[], .tableswitch 0 5 3 #[], .ireturn] 8 = true := qck_r (nn_ _) (by decide +kernel)
theorem bs_X10_fault_e_0 {P : Zt → Option Zv → Prop} (K : Int → Zl → List Zv → Zt → Prop) : sx_ K P [.aload 0, .tableswitch 0 10 0 #[], .tableswitch 0 5 3 #[], .ireturn] 8 = x_aload 0 (x_g1 110 105 (x_g0 105 3 (-1) 400 (x_ireturn P))) := ((xe_aload 0).trans (congrArg (x_aload 0) ((xe_g1 (kk := 110) rfl tl_10_0).trans (congrArg (x_g1 110 105) ((xe_g0 (kk := 105) rfl tl_5_3).trans (congrArg (x_g0 105 3 (-1) 400) (xe_ireturn)))))))
abbrev po_X10_fault_e (T : Zt) : Zt → Option Zv → Prop := fun T' r => T = T' ∧ ∃ x : Int, r = some (vI x) ∧ (x = T 105 0 3)
set_option maxHeartbeats 4000000 in
theorem ct_X10_fault_e {T : Zt} : Ct_ yX10_fault zX10_fault T [vR 110 0] (po_X10_fault_e T) := by
  refine ct_of pn_10 rfl rfl (Nat.le_of_ble_eq_true rfl) (fun hT hav => ?_)
  have hz : zX10_fault.2.2.2.1 = some .boolean → ∀ (T' : Zt) (x : Int), po_X10_fault_e T T' (some (vI x)) → 0 ≤ x ∧ x ≤ 1 := fun h => by cases h
  show J_ zX10_fault T (po_X10_fault_e T) 0 0 0 [some (vR 110 0)] [] T
  refine j_blx (F := fX10) tb_X10 (nn_ _) bk_X10_fault_e_0 bs_X10_fault_e_0 hz (fun K hK => ?_)
  intro b1 b1b
  refine (show po_X10_fault_e T T (some (vI (T 105 0 3))) from ?_)
  exact ⟨rfl, _, rfl, by omega⟩
theorem bk_X11_fault_e_0 : ck_ fX11 (some .int) cX11_fault 0 [.aload 0, .tableswitch 0 11 2 #[], .ireturn] 5 = true := qck_r (nn_ _) (by decide +kernel)
theorem bs_X11_fault_e_0 {P : Zt → Option Zv → Prop} (K : Int → Zl → List Zv → Zt → Prop) : sx_ K P [.aload 0, .tableswitch 0 11 2 #[], .ireturn] 5 = x_aload 0 (x_g0 111 2 (-1) 400 (x_ireturn P)) := ((xe_aload 0).trans (congrArg (x_aload 0) ((xe_g0 (kk := 111) rfl tl_11_2).trans (congrArg (x_g0 111 2 (-1) 400) (xe_ireturn)))))
abbrev po_X11_fault_e (T : Zt) : Zt → Option Zv → Prop := fun T' r => T = T' ∧ ∃ x : Int, r = some (vI x) ∧ (x = T 111 0 2)
set_option maxHeartbeats 4000000 in
theorem ct_X11_fault_e {T : Zt} : Ct_ yX11_fault zX11_fault T [vR 111 0] (po_X11_fault_e T) := by
  refine ct_of pn_11 rfl rfl (Nat.le_of_ble_eq_true rfl) (fun hT hav => ?_)
  have hz : zX11_fault.2.2.2.1 = some .boolean → ∀ (T' : Zt) (x : Int), po_X11_fault_e T T' (some (vI x)) → 0 ≤ x ∧ x ≤ 1 := fun h => by cases h
  show J_ zX11_fault T (po_X11_fault_e T) 0 0 0 [some (vR 111 0)] [] T
  refine j_blx (F := fX11) tb_X11 (nn_ _) bk_X11_fault_e_0 bs_X11_fault_e_0 hz (fun K hK => ?_)
  intro b1 b1b
  refine (show po_X11_fault_e T T (some (vI (T 111 0 2))) from ?_)
  exact ⟨rfl, _, rfl, by omega⟩
theorem bk_X10_rule_e_0 : ck_ fX10 (some .int) cX10_rule 0 [.aload 0, .iload 1] 2 = true := qck_r (nn_ _) (by decide +kernel)
theorem bs_X10_rule_e_0 {P : Zt → Option Zv → Prop} (K : Int → Zl → List Zv → Zt → Prop) : sx_ K P [.aload 0, .iload 1] 2 = x_aload 0 (x_iload 1 (K 2)) := ((xe_aload 0).trans (congrArg (x_aload 0) ((xe_iload 1).trans (congrArg (x_iload 1) xe_nil))))
theorem bk_X10_rule_e_5 : ck_ fX10 (some .int) cX10_rule 5 [.ifCond .ne 11, .iconst (-2), .ireturn] 11 = true := qck_r (nn_ _) (by decide +kernel)
theorem bs_X10_rule_e_5 {P : Zt → Option Zv → Prop} (K : Int → Zl → List Zv → Zt → Prop) : sx_ K P [.ifCond .ne 11, .iconst (-2), .ireturn] 11 = x_ifCond .ne 11 K (x_iconst (-2) (x_ireturn P)) := ((xe_ifCond .ne 11).trans (congrArg (x_ifCond .ne 11 K) ((xe_iconst (-2)).trans (congrArg (x_iconst (-2)) (xe_ireturn)))))
theorem bk_X10_rule_e_11 : ck_ fX10 (some .int) cX10_rule 11 [.iload 2, .ifCond .lt 21, .iload 2, .iconst 23, .if_icmp .lt 24, .iconst (-3), .ireturn] 24 = true := qck_r (nn_ _) (by decide +kernel)
theorem bs_X10_rule_e_11 {P : Zt → Option Zv → Prop} (K : Int → Zl → List Zv → Zt → Prop) : sx_ K P [.iload 2, .ifCond .lt 21, .iload 2, .iconst 23, .if_icmp .lt 24, .iconst (-3), .ireturn] 24 = x_iload 2 (x_ifCond .lt 21 K (x_iload 2 (x_iconst 23 (x_if_icmp .lt 24 K (x_iconst (-3) (x_ireturn P)))))) := ((xe_iload 2).trans (congrArg (x_iload 2) ((xe_ifCond .lt 21).trans (congrArg (x_ifCond .lt 21 K) ((xe_iload 2).trans (congrArg (x_iload 2) ((xe_iconst 23).trans (congrArg (x_iconst 23) ((xe_if_icmp .lt 24).trans (congrArg (x_if_icmp .lt 24 K) ((xe_iconst (-3)).trans (congrArg (x_iconst (-3)) (xe_ireturn)))))))))))))
theorem bk_X10_rule_e_21 : ck_ fX10 (some .int) cX10_rule 21 [.iconst (-3), .ireturn] 24 = true := qck_r (nn_ _) (by decide +kernel)
theorem bs_X10_rule_e_21 {P : Zt → Option Zv → Prop} (K : Int → Zl → List Zv → Zt → Prop) : sx_ K P [.iconst (-3), .ireturn] 24 = x_iconst (-3) (x_ireturn P) := ((xe_iconst (-3)).trans (congrArg (x_iconst (-3)) (xe_ireturn)))
theorem bk_X10_rule_e_24 : ck_ fX10 (some .int) cX10_rule 24 [.aload 0, .tableswitch 0 10 2 #[], .tableswitch 0 6 1 #[], .iload 1, .aaload, .astore 3, .iload 2, .iconst 16, .if_icmp .ge 47, .aload 3, .tableswitch 0 0 1 #[], .iload 2, .iaload, .ireturn] 47 = true := qck_r (nn_ _) (by decide +kernel)
theorem bs_X10_rule_e_24 {P : Zt → Option Zv → Prop} (K : Int → Zl → List Zv → Zt → Prop) : sx_ K P [.aload 0, .tableswitch 0 10 2 #[], .tableswitch 0 6 1 #[], .iload 1, .aaload, .astore 3, .iload 2, .iconst 16, .if_icmp .ge 47, .aload 3, .tableswitch 0 0 1 #[], .iload 2, .iaload, .ireturn] 47 = x_aload 0 (x_g1 110 106 (x_g1 106 521 (x_iload 1 (x_aaload (x_astore 3 (x_iload 2 (x_iconst 16 (x_if_icmp .ge 47 K (x_aload 3 (x_g2 100 401 (x_iload 2 (x_iaload (x_ireturn P))))))))))))) := ((xe_aload 0).trans (congrArg (x_aload 0) ((xe_g1 (kk := 110) rfl tl_10_2).trans (congrArg (x_g1 110 106) ((xe_g1 (kk := 106) rfl tl_6_1).trans (congrArg (x_g1 106 521) ((xe_iload 1).trans (congrArg (x_iload 1) ((xe_aaload).trans (congrArg (x_aaload) ((xe_astore 3).trans (congrArg (x_astore 3) ((xe_iload 2).trans (congrArg (x_iload 2) ((xe_iconst 16).trans (congrArg (x_iconst 16) ((xe_if_icmp .ge 47).trans (congrArg (x_if_icmp .ge 47 K) ((xe_aload 3).trans (congrArg (x_aload 3) ((xe_g2 (kk := 100) rfl tl_0_1).trans (congrArg (x_g2 100 401) ((xe_iload 2).trans (congrArg (x_iload 2) ((xe_iaload).trans (congrArg (x_iaload) (xe_ireturn)))))))))))))))))))))))))))
theorem bk_X10_rule_e_47 : ck_ fX10 (some .int) cX10_rule 47 [.iload 2, .iconst 16, .isub, .istore 4, .iload 4, .aload 3, .tableswitch 0 0 1 #[], .iconst 4, .iaload, .if_icmp .ge 74, .aload 3, .tableswitch 0 0 2 #[], .iload 4, .iaload, .goto 75] 74 = true := qck_r (nn_ _) (by decide +kernel)
theorem bs_X10_rule_e_47 {P : Zt → Option Zv → Prop} (K : Int → Zl → List Zv → Zt → Prop) : sx_ K P [.iload 2, .iconst 16, .isub, .istore 4, .iload 4, .aload 3, .tableswitch 0 0 1 #[], .iconst 4, .iaload, .if_icmp .ge 74, .aload 3, .tableswitch 0 0 2 #[], .iload 4, .iaload, .goto 75] 74 = x_iload 2 (x_iconst 16 (x_isub (x_istore 4 (x_iload 4 (x_aload 3 (x_g2 100 401 (x_iconst 4 (x_iaload (x_if_icmp .ge 74 K (x_aload 3 (x_g2 100 402 (x_iload 4 (x_iaload (x_goto 75 K)))))))))))))) := ((xe_iload 2).trans (congrArg (x_iload 2) ((xe_iconst 16).trans (congrArg (x_iconst 16) ((xe_isub).trans (congrArg (x_isub) ((xe_istore 4).trans (congrArg (x_istore 4) ((xe_iload 4).trans (congrArg (x_iload 4) ((xe_aload 3).trans (congrArg (x_aload 3) ((xe_g2 (kk := 100) rfl tl_0_1).trans (congrArg (x_g2 100 401) ((xe_iconst 4).trans (congrArg (x_iconst 4) ((xe_iaload).trans (congrArg (x_iaload) ((xe_if_icmp .ge 74).trans (congrArg (x_if_icmp .ge 74 K) ((xe_aload 3).trans (congrArg (x_aload 3) ((xe_g2 (kk := 100) rfl tl_0_2).trans (congrArg (x_g2 100 402) ((xe_iload 4).trans (congrArg (x_iload 4) ((xe_iaload).trans (congrArg (x_iaload) (xe_goto 75)))))))))))))))))))))))))))))
theorem bk_X10_rule_e_74 : ck_ fX10 (some .int) cX10_rule 74 [.iconst (-1), .ireturn] 76 = true := qck_r (nn_ _) (by decide +kernel)
theorem bs_X10_rule_e_74 {P : Zt → Option Zv → Prop} (K : Int → Zl → List Zv → Zt → Prop) : sx_ K P [.iconst (-1), .ireturn] 76 = x_iconst (-1) (x_ireturn P) := ((xe_iconst (-1)).trans (congrArg (x_iconst (-1)) (xe_ireturn)))
theorem bk_X10_rule_e_75 : ck_ fX10 (some .int) cX10_rule 75 [.ireturn] 76 = true := qck_r (nn_ _) (by decide +kernel)
theorem bs_X10_rule_e_75 {P : Zt → Option Zv → Prop} (K : Int → Zl → List Zv → Zt → Prop) : sx_ K P [.ireturn] 76 = x_ireturn P := (xe_ireturn)
abbrev po_X10_rule_e (T : Zt) (c w : Int) : Zt → Option Zv → Prop := fun T' r => T = T' ∧ ∃ x : Int, r = some (vI x) ∧ ((x = -2 ∧ ¬ (0 ≤ c ∧ c < T 106 0 2)) ∨ ((0 ≤ c ∧ c < T 106 0 2) ∧ x = -3 ∧ ¬ (0 ≤ w ∧ w < 23)) ∨ ((0 ≤ c ∧ c < T 106 0 2) ∧ (0 ≤ w ∧ w < 16) ∧ x = T 401 c w) ∨ ((0 ≤ c ∧ c < T 106 0 2) ∧ (16 ≤ w ∧ w < 23) ∧ w - 16 < T 401 c 4 ∧ x = T 402 c (w - 16)) ∨ ((0 ≤ c ∧ c < T 106 0 2) ∧ (16 ≤ w ∧ w < 23) ∧ ¬ w - 16 < T 401 c 4 ∧ x = -1))
set_option maxHeartbeats 4000000 in
theorem ct_X10_rule_e {T : Zt} {c w : Int} (hka : KA_ T) : Ct_ yX10_rule zX10_rule T [vR 110 0, vI c, vI w] (po_X10_rule_e T c w) := by
  refine ct_of pn_10 rfl rfl (Nat.le_of_ble_eq_true rfl) (fun hT hav => ?_)
  have hr_c : -2147483648 ≤ c ∧ c ≤ 2147483647 := hav (vI c) (List.mem_cons_of_mem _ List.mem_cons_self)
  have hr_w : -2147483648 ≤ w ∧ w ≤ 2147483647 := hav (vI w) (List.mem_cons_of_mem _ (List.mem_cons_of_mem _ List.mem_cons_self))
  have hz : zX10_rule.2.2.2.1 = some .boolean → ∀ (T' : Zt) (x : Int), po_X10_rule_e T c w T' (some (vI x)) → 0 ≤ x ∧ x ≤ 1 := fun h => by cases h
  have hb_competitionCount : 0 ≤ T 106 0 2 ∧ T 106 0 2 ≤ 4 := bd_f hT 106 2 tl_6_2 0
  show J_ zX10_rule T (po_X10_rule_e T c w) 0 0 0 [some (vR 110 0), some (vI c), some (vI w), none, none] [] T
  refine j_blx (F := fX10) tb_X10 (nn_ _) bk_X10_rule_e_0 bs_X10_rule_e_0 hz (fun K hK => ?_)
  refine hK 2 _ [vI c, vR 110 0] T ?_
  refine j_callV (y := yX10_isCompetition) (Yc := zX10_isCompetition) (rest := []) [vI c] (ct_X10_isCompetition (T := T)) cl_X10_107 (qd_c (by decide +kernel)) (nn_ _) rfl (rf_of rfl) (Nat.le_of_ble_eq_true rfl) (Nat.le_of_ble_eq_true rfl) (Nat.le_of_ble_eq_true rfl) rfl ?_
  rintro _ _ ⟨rfl, x1, rfl, hx1⟩
  show J_ zX10_rule T (po_X10_rule_e T c w) 0 0 5 _ [vI x1] T
  refine j_blx (F := fX10) tb_X10 (nn_ _) bk_X10_rule_e_5 bs_X10_rule_e_5 hz (fun K hK => ?_)
  refine And.intro (fun c2 => ?_) (fun c2 => ?_)
  · replace hx1 := hx1.resolve_right (fun z => c2 z.1)
    clear c2
    refine hK 11 _ [] T ?_
    refine j_blx (F := fX10) tb_X10 (nn_ _) bk_X10_rule_e_11 bs_X10_rule_e_11 hz (fun K hK => ?_)
    refine And.intro (fun c3 => ?_) (fun c3 => ?_)
    · refine hK 21 _ [] T ?_
      refine j_blx (F := fX10) tb_X10 (nn_ _) bk_X10_rule_e_21 bs_X10_rule_e_21 hz (fun K hK => ?_)
      refine (show po_X10_rule_e T c w T (some (vI (-3))) from ?_)
      exact ⟨rfl, _, rfl, by omega⟩
    · refine And.intro (fun c4 => ?_) (fun c4 => ?_)
      · refine hK 24 _ [] T ?_
        refine j_blx (F := fX10) tb_X10 (nn_ _) bk_X10_rule_e_24 bs_X10_rule_e_24 hz (fun K hK => ?_)
        refine ix_i (by omega) ?_
        refine And.intro (fun c5 => ?_) (fun c5 => ?_)
        · exact absurd c5 (hka.1 c (by omega) (by omega))
        · refine And.intro (fun c6 => ?_) (fun c6 => ?_)
          · refine hK 47 [some (vR 110 0), some (vI c), some (vI w), some (vR 100 c), none] [] T ?_
            refine j_blx (F := fX10) tb_X10 (nn_ _) bk_X10_rule_e_47 bs_X10_rule_e_47 hz (fun K hK => ?_)
            refine rg_i (by omega) ?_
            refine ix_i (by omega) ?_
            intro b7 b7b
            refine And.intro (fun c8 => ?_) (fun c8 => ?_)
            · refine hK 74 [some (vR 110 0), some (vI c), some (vI w), some (vR 100 c), some (vI (w - 16))] [] T ?_
              refine j_blx (F := fX10) tb_X10 (nn_ _) bk_X10_rule_e_74 bs_X10_rule_e_74 hz (fun K hK => ?_)
              refine (show po_X10_rule_e T c w T (some (vI (-1))) from ?_)
              exact ⟨rfl, _, rfl, by omega⟩
            · refine ix_i (by omega) ?_
              intro b9 b9b
              refine hK 75 _ [vI (T 402 c (w - 16))] T ?_
              refine j_blx (F := fX10) tb_X10 (nn_ _) bk_X10_rule_e_75 bs_X10_rule_e_75 hz (fun K hK => ?_)
              refine (show po_X10_rule_e T c w T (some (vI (T 402 c (w - 16)))) from ?_)
              exact ⟨rfl, _, rfl, by omega⟩
          · refine ix_i (by omega) ?_
            intro b10 b10b
            refine (show po_X10_rule_e T c w T (some (vI (T 401 c w))) from ?_)
            exact ⟨rfl, _, rfl, by omega⟩
      · refine (show po_X10_rule_e T c w T (some (vI (-3))) from ?_)
        exact ⟨rfl, _, rfl, by omega⟩
  · replace hx1 := hx1.resolve_left (fun z => absurd (c2.symm.trans z.1) (by decide))
    clear c2
    refine (show po_X10_rule_e T c w T (some (vI (-2))) from ?_)
    exact ⟨rfl, _, rfl, by omega⟩
theorem bk_X11_rule_e_0 : ck_ fX11 (some .int) cX11_rule 0 [.iload 1, .aload 0, .tableswitch 0 11 6 #[]] 5 = true := qck_r (nn_ _) (by decide +kernel)
theorem bs_X11_rule_e_0 {P : Zt → Option Zv → Prop} (K : Int → Zl → List Zv → Zt → Prop) : sx_ K P [.iload 1, .aload 0, .tableswitch 0 11 6 #[]] 5 = x_iload 1 (x_aload 0 (x_g0 111 6 0 4 (K 5))) := ((xe_iload 1).trans (congrArg (x_iload 1) ((xe_aload 0).trans (congrArg (x_aload 0) ((xe_g0 (kk := 111) rfl tl_11_6).trans (congrArg (x_g0 111 6 0 4) xe_nil))))))
theorem bk_X11_rule_e_8 : ck_ fX11 (some .int) cX11_rule 8 [.ifCond .ne 14, .iconst (-2), .ireturn] 14 = true := qck_r (nn_ _) (by decide +kernel)
theorem bs_X11_rule_e_8 {P : Zt → Option Zv → Prop} (K : Int → Zl → List Zv → Zt → Prop) : sx_ K P [.ifCond .ne 14, .iconst (-2), .ireturn] 14 = x_ifCond .ne 14 K (x_iconst (-2) (x_ireturn P)) := ((xe_ifCond .ne 14).trans (congrArg (x_ifCond .ne 14 K) ((xe_iconst (-2)).trans (congrArg (x_iconst (-2)) (xe_ireturn)))))
theorem bk_X11_rule_e_14 : ck_ fX11 (some .int) cX11_rule 14 [.iload 2, .iconst 0, .iconst 22] 18 = true := qck_r (nn_ _) (by decide +kernel)
theorem bs_X11_rule_e_14 {P : Zt → Option Zv → Prop} (K : Int → Zl → List Zv → Zt → Prop) : sx_ K P [.iload 2, .iconst 0, .iconst 22] 18 = x_iload 2 (x_iconst 0 (x_iconst 22 (K 18))) := ((xe_iload 2).trans (congrArg (x_iload 2) ((xe_iconst 0).trans (congrArg (x_iconst 0) ((xe_iconst 22).trans (congrArg (x_iconst 22) xe_nil))))))
theorem bk_X11_rule_e_21 : ck_ fX11 (some .int) cX11_rule 21 [.ifCond .eq 33, .aload 0, .iload 1, .iload 2] 27 = true := qck_r (nn_ _) (by decide +kernel)
theorem bs_X11_rule_e_21 {P : Zt → Option Zv → Prop} (K : Int → Zl → List Zv → Zt → Prop) : sx_ K P [.ifCond .eq 33, .aload 0, .iload 1, .iload 2] 27 = x_ifCond .eq 33 K (x_aload 0 (x_iload 1 (x_iload 2 (K 27)))) := ((xe_ifCond .eq 33).trans (congrArg (x_ifCond .eq 33 K) ((xe_aload 0).trans (congrArg (x_aload 0) ((xe_iload 1).trans (congrArg (x_iload 1) ((xe_iload 2).trans (congrArg (x_iload 2) xe_nil))))))))
theorem bk_X11_rule_e_33 : ck_ fX11 (some .int) cX11_rule 33 [.iconst (-3), .ireturn] 36 = true := qck_r (nn_ _) (by decide +kernel)
theorem bs_X11_rule_e_33 {P : Zt → Option Zv → Prop} (K : Int → Zl → List Zv → Zt → Prop) : sx_ K P [.iconst (-3), .ireturn] 36 = x_iconst (-3) (x_ireturn P) := ((xe_iconst (-3)).trans (congrArg (x_iconst (-3)) (xe_ireturn)))
theorem bk_X11_rule_e_30 : ck_ fX11 (some .int) cX11_rule 30 [.goto 35] 33 = true := qck_r (nn_ _) (by decide +kernel)
theorem bs_X11_rule_e_30 {P : Zt → Option Zv → Prop} (K : Int → Zl → List Zv → Zt → Prop) : sx_ K P [.goto 35] 33 = x_goto 35 K := (xe_goto 35)
theorem bk_X11_rule_e_35 : ck_ fX11 (some .int) cX11_rule 35 [.ireturn] 36 = true := qck_r (nn_ _) (by decide +kernel)
theorem bs_X11_rule_e_35 {P : Zt → Option Zv → Prop} (K : Int → Zl → List Zv → Zt → Prop) : sx_ K P [.ireturn] 36 = x_ireturn P := (xe_ireturn)
abbrev po_X11_rule_e (T : Zt) (c w : Int) : Zt → Option Zv → Prop := fun T' r => T = T' ∧ ∃ x : Int, r = some (vI x) ∧ ((x = -2 ∧ ¬ (0 ≤ c ∧ c < T 111 0 6)) ∨ ((0 ≤ c ∧ c < T 111 0 6) ∧ x = -3 ∧ ¬ (0 ≤ w ∧ w < 23)) ∨ ((0 ≤ c ∧ c < T 111 0 6) ∧ (0 ≤ w ∧ w < 23) ∧ x = T 205 0 (23 * c + w)))
set_option maxHeartbeats 4000000 in
theorem ct_X11_rule_e {T : Zt} {c w : Int} : Ct_ yX11_rule zX11_rule T [vR 111 0, vI c, vI w] (po_X11_rule_e T c w) := by
  refine ct_of pn_11 rfl rfl (Nat.le_of_ble_eq_true rfl) (fun hT hav => ?_)
  have hr_c : -2147483648 ≤ c ∧ c ≤ 2147483647 := hav (vI c) (List.mem_cons_of_mem _ List.mem_cons_self)
  have hr_w : -2147483648 ≤ w ∧ w ≤ 2147483647 := hav (vI w) (List.mem_cons_of_mem _ (List.mem_cons_of_mem _ List.mem_cons_self))
  have hz : zX11_rule.2.2.2.1 = some .boolean → ∀ (T' : Zt) (x : Int), po_X11_rule_e T c w T' (some (vI x)) → 0 ≤ x ∧ x ≤ 1 := fun h => by cases h
  have hb_6 : 0 ≤ T 111 0 6 ∧ T 111 0 6 ≤ 4 := bd_f hT 111 6 tl_11_6 0
  show J_ zX11_rule T (po_X11_rule_e T c w) 0 0 0 [some (vR 111 0), some (vI c), some (vI w)] [] T
  refine j_blx (F := fX11) tb_X11 (nn_ _) bk_X11_rule_e_0 bs_X11_rule_e_0 hz (fun K hK => ?_)
  intro b1 b1b
  refine hK 5 _ [vI (T 111 0 6), vI c] T ?_
  refine j_callS (y := yX11_isOf) (Yc := zX11_isOf) (rest := []) [vI c, vI (T 111 0 6)] (ct_X11_isOf (T := T) (by omega)) cl_X11_317 (qd_c (by decide +kernel)) (nn_ _) rfl (rf_of rfl) (Nat.le_of_ble_eq_true rfl) (Nat.le_of_ble_eq_true rfl) (Nat.le_of_ble_eq_true rfl) rfl ?_
  rintro _ _ ⟨rfl, x2, rfl, hx2⟩
  show J_ zX11_rule T (po_X11_rule_e T c w) 0 0 8 _ [vI x2] T
  refine j_blx (F := fX11) tb_X11 (nn_ _) bk_X11_rule_e_8 bs_X11_rule_e_8 hz (fun K hK => ?_)
  refine And.intro (fun c3 => ?_) (fun c3 => ?_)
  · replace hx2 := hx2.resolve_right (fun z => c3 z.1)
    clear c3
    refine hK 14 _ [] T ?_
    refine j_blx (F := fX11) tb_X11 (nn_ _) bk_X11_rule_e_14 bs_X11_rule_e_14 hz (fun K hK => ?_)
    refine hK 18 _ [vI 22, vI 0, vI w] T ?_
    refine j_callS (y := yX11_in) (Yc := zX11_in) (rest := []) [vI w, vI 0, vI 22] (ct_X11_in (T := T)) cl_X11_255 (qd_c (by decide +kernel)) (nn_ _) rfl (rf_of rfl) (Nat.le_of_ble_eq_true rfl) (Nat.le_of_ble_eq_true rfl) (Nat.le_of_ble_eq_true rfl) rfl ?_
    rintro _ _ ⟨rfl, x4, rfl, hx4⟩
    show J_ zX11_rule T (po_X11_rule_e T c w) 0 0 21 _ [vI x4] T
    refine j_blx (F := fX11) tb_X11 (nn_ _) bk_X11_rule_e_21 bs_X11_rule_e_21 hz (fun K hK => ?_)
    refine And.intro (fun c5 => ?_) (fun c5 => ?_)
    · replace hx4 := hx4.resolve_left (fun z => absurd (c5.symm.trans z.1) (by decide))
      clear c5
      refine hK 33 _ [] T ?_
      refine j_blx (F := fX11) tb_X11 (nn_ _) bk_X11_rule_e_33 bs_X11_rule_e_33 hz (fun K hK => ?_)
      refine (show po_X11_rule_e T c w T (some (vI (-3))) from ?_)
      exact ⟨rfl, _, rfl, by omega⟩
    · replace hx4 := hx4.resolve_right (fun z => c5 z.1)
      clear c5
      refine hK 27 _ [vI w, vI c, vR 111 0] T ?_
      refine j_callV (y := yX11_rule0) (Yc := zX11_rule0) (rest := []) [vI c, vI w] (ct_X11_rule0 (T := T) (by omega) (by omega)) cl_X11_321 (qd_c (by decide +kernel)) (nn_ _) rfl (rf_of rfl) (Nat.le_of_ble_eq_true rfl) (Nat.le_of_ble_eq_true rfl) (Nat.le_of_ble_eq_true rfl) rfl ?_
      rintro _ _ ⟨rfl, rfl⟩
      show J_ zX11_rule T (po_X11_rule_e T c w) 0 0 30 _ [vI (T 205 0 (23 * c + w))] T
      refine j_blx (F := fX11) tb_X11 (nn_ _) bk_X11_rule_e_30 bs_X11_rule_e_30 hz (fun K hK => ?_)
      refine hK 35 _ [vI (T 205 0 (23 * c + w))] T ?_
      refine j_blx (F := fX11) tb_X11 (nn_ _) bk_X11_rule_e_35 bs_X11_rule_e_35 hz (fun K hK => ?_)
      refine (show po_X11_rule_e T c w T (some (vI (T 205 0 (23 * c + w)))) from ?_)
      exact ⟨rfl, _, rfl, by omega⟩
  · replace hx2 := hx2.resolve_left (fun z => absurd (c3.symm.trans z.1) (by decide))
    clear c3
    refine (show po_X11_rule_e T c w T (some (vI (-2))) from ?_)
    exact ⟨rfl, _, rfl, by omega⟩
-- texts, competitions, rules: alike on both sides
def TXR_ (T : Zt) : Prop := T 105 0 1 = T 111 0 1 ∧ T 105 0 3 = T 111 0 2 ∧ T 106 0 2 = T 111 0 6 ∧ (∀ j, 0 ≤ j → j < 400 → T 500 0 j = T 200 0 j) ∧ ∀ c, 0 ≤ c → c < T 106 0 2 → (∀ w, 0 ≤ w → w < 16 → T 401 c w = T 205 0 (23 * c + w)) ∧ ∀ k, 0 ≤ k → k < 7 → (k < T 401 c 4 → T 402 c k = T 205 0 (23 * c + (16 + k))) ∧ (¬ k < T 401 c 4 → T 205 0 (23 * c + (16 + k)) = -1)
/-- the house's side of it stays -/
def kth_ (T T' : Zt) : Prop := T' 105 0 1 = T 105 0 1 ∧ T' 105 0 3 = T 105 0 3 ∧ T' 106 0 2 = T 106 0 2 ∧ (∀ j, T' 500 0 j = T 500 0 j) ∧ (∀ c j, T' 401 c j = T 401 c j) ∧ ∀ c j, T' 402 c j = T 402 c j
/-- the reference's side of it stays -/
def ktr_ (T T' : Zt) : Prop := T' 111 0 1 = T 111 0 1 ∧ T' 111 0 2 = T 111 0 2 ∧ T' 111 0 6 = T 111 0 6 ∧ (∀ j, T' 200 0 j = T 200 0 j) ∧ ∀ j, T' 205 0 j = T 205 0 j
theorem txr_k {T T' : Zt} (h : TXR_ T) (k : kth_ T T') (r : ktr_ T T') : TXR_ T' := by
  obtain ⟨h1, h2, h3, h4, h5⟩ := h
  obtain ⟨k1, k2, k3, k4, k5, k6⟩ := k
  obtain ⟨r1, r2, r3, r4, r5⟩ := r
  refine ⟨by omega, by omega, by omega, fun j a b => by rw [k4, r4]; exact h4 j a b, fun c a b => ⟨fun w d e => by rw [k5, r5]; exact (h5 c a (by omega)).1 w d e, fun q d e => ?_⟩⟩
  rw [k5, k6, r5]
  exact (h5 c a (by omega)).2 q d e
/-- a sign on both sides -/
theorem txr_s {T T1 T2 : Zt} {c x1 x2 : Int} (h : TXR_ T) (hl : 0 ≤ T 105 0 1) (ho : T1 105 0 3 = T 105 0 3 ∧ T1 106 0 2 = T 106 0 2 ∧ (∀ c j, T1 401 c j = T 401 c j) ∧ ∀ c j, T1 402 c j = T 402 c j) (d1 : (x1 = -3 ∧ T1 105 0 1 = T 105 0 1 ∧ ¬ (c = 10 ∨ 32 ≤ c ∧ c ≤ 126) ∧ RS9_ 500 T T1) ∨ ((c = 10 ∨ 32 ≤ c ∧ c ≤ 126) ∧ T 105 0 1 = 400 ∧ x1 = -5 ∧ T1 105 0 1 = 400 ∧ RS9_ 500 T T1) ∨ ((c = 10 ∨ 32 ≤ c ∧ c ≤ 126) ∧ T 105 0 1 < 400 ∧ x1 = T 105 0 1 + 1 ∧ T1 105 0 1 = x1 ∧ SG9_ 500 T T1 (T 105 0 1) c)) (r : ktr_ T T1)
  (hp : T2 111 0 2 = T1 111 0 2 ∧ T2 111 0 6 = T1 111 0 6 ∧ ∀ j, T2 205 0 j = T1 205 0 j) (d2 : (x2 = -3 ∧ T2 111 0 1 = T1 111 0 1 ∧ ¬ (c = 10 ∨ 32 ≤ c ∧ c ≤ 126) ∧ RS9_ 200 T1 T2) ∨ ((c = 10 ∨ 32 ≤ c ∧ c ≤ 126) ∧ T1 111 0 1 = 400 ∧ x2 = -5 ∧ T2 111 0 1 = 400 ∧ RS9_ 200 T1 T2) ∨ ((c = 10 ∨ 32 ≤ c ∧ c ≤ 126) ∧ T1 111 0 1 < 400 ∧ x2 = T1 111 0 1 + 1 ∧ T2 111 0 1 = x2 ∧ SG9_ 200 T1 T2 (T1 111 0 1) c)) (k : kth_ T1 T2) : x1 = x2 ∧ TXR_ T2 := by
  obtain ⟨h1, h2, h3, h4, h5⟩ := h
  obtain ⟨o1, o2, o3, o4⟩ := ho
  obtain ⟨r1, r2, r3, r4, r5⟩ := r
  obtain ⟨p1, p2, p3⟩ := hp
  obtain ⟨k1, k2, k3, k4, k5, k6⟩ := k
  have hr : ∀ c, 0 ≤ c → c < T2 106 0 2 → (∀ w, 0 ≤ w → w < 16 → T2 401 c w = T2 205 0 (23 * c + w)) ∧ ∀ k, 0 ≤ k → k < 7 → (k < T2 401 c 4 → T2 402 c k = T2 205 0 (23 * c + (16 + k))) ∧ (¬ k < T2 401 c 4 → T2 205 0 (23 * c + (16 + k)) = -1) := fun c a b => by
    refine ⟨fun w d e => by rw [k5, o3, p3, r5]; exact (h5 c a (by omega)).1 w d e, fun q d e => ?_⟩
    rw [k5, o3, k6, o4, p3, r5]
    exact (h5 c a (by omega)).2 q d e
  have hs : RS9_ 500 T T1 → RS9_ 200 T1 T2 → ∀ j, 0 ≤ j → j < 400 → T2 500 0 j = T2 200 0 j := fun a b j c d => by
    rw [k4, a j, b j, r4]
    exact h4 j c d
  rcases d1 with ⟨a1, a2, a3, a4⟩ | ⟨a0, a1, a2, a3, a4⟩ | ⟨a0, a1, a2, a3, a4⟩
  · rcases d2 with ⟨b1, b2, b3, b4⟩ | ⟨b0, b1, b2, b3, b4⟩ | ⟨b0, b1, b2, b3, b4⟩
    · exact ⟨by omega, by omega, by omega, by omega, hs a4 b4, hr⟩
    · exact absurd b0 a3
    · exact absurd b0 a3
  · rcases d2 with ⟨b1, b2, b3, b4⟩ | ⟨b0, b1, b2, b3, b4⟩ | ⟨b0, b1, b2, b3, b4⟩
    · exact absurd a0 b3
    · exact ⟨by omega, by omega, by omega, by omega, hs a4 b4, hr⟩
    · omega
  · rcases d2 with ⟨b1, b2, b3, b4⟩ | ⟨b0, b1, b2, b3, b4⟩ | ⟨b0, b1, b2, b3, b4⟩
    · exact absurd a0 b3
    · omega
    · refine ⟨by omega, by omega, by omega, by omega, fun j c d => ?_, hr⟩
      have e1 : T1 111 0 1 = T 105 0 1 := by omega
      rw [e1] at b4
      rw [k4]
      by_cases z : j = T 105 0 1
      · rw [z, a4.1, b4.1]
      · rw [a4.2 j z, b4.2 j z, r4]
        exact h4 j c d
/-- a wiped text on both sides -/
theorem txr_w {T T1 T2 : Zt} {x1 x2 : Int} (h : TXR_ T) (ho : T1 105 0 3 = T 105 0 3 ∧ T1 106 0 2 = T 106 0 2 ∧ (∀ j, T1 500 0 j = T 500 0 j) ∧ (∀ c j, T1 401 c j = T 401 c j) ∧ ∀ c j, T1 402 c j = T 402 c j) (d1 : T1 105 0 1 = 0 ∧ x1 = T 105 0 1) (r : ktr_ T T1) (hp : T2 111 0 2 = T1 111 0 2 ∧ T2 111 0 6 = T1 111 0 6 ∧ (∀ j, T2 200 0 j = T1 200 0 j) ∧ ∀ j, T2 205 0 j = T1 205 0 j) (d2 : T2 111 0 1 = 0 ∧ x2 = T1 111 0 1) (k : kth_ T1 T2) : x1 = x2 ∧ TXR_ T2 := by
  obtain ⟨h1, h2, h3, h4, h5⟩ := h
  obtain ⟨o1, o2, o5, o3, o4⟩ := ho
  obtain ⟨r1, r2, r3, r4, r5⟩ := r
  obtain ⟨p1, p2, p4, p3⟩ := hp
  obtain ⟨k1, k2, k3, k4, k5, k6⟩ := k
  refine ⟨by omega, by omega, by omega, by omega, fun j a b => by rw [k4, o5, p4, r4]; exact h4 j a b, fun c a b => ⟨fun w d e => by rw [k5, o3, p3, r5]; exact (h5 c a (by omega)).1 w d e, fun q d e => ?_⟩⟩
  rw [k5, o3, k6, o4, p3, r5]
  exact (h5 c a (by omega)).2 q d e
/-- a rule is told alike -/
theorem txr_r {T : Zt} {c w x1 x2 : Int} (h : TXR_ T) (d1 : (x1 = -2 ∧ ¬ (0 ≤ c ∧ c < T 106 0 2)) ∨ ((0 ≤ c ∧ c < T 106 0 2) ∧ x1 = -3 ∧ ¬ (0 ≤ w ∧ w < 23)) ∨ ((0 ≤ c ∧ c < T 106 0 2) ∧ (0 ≤ w ∧ w < 16) ∧ x1 = T 401 c w) ∨ ((0 ≤ c ∧ c < T 106 0 2) ∧ (16 ≤ w ∧ w < 23) ∧ w - 16 < T 401 c 4 ∧ x1 = T 402 c (w - 16)) ∨ ((0 ≤ c ∧ c < T 106 0 2) ∧ (16 ≤ w ∧ w < 23) ∧ ¬ w - 16 < T 401 c 4 ∧ x1 = -1)) (d2 : (x2 = -2 ∧ ¬ (0 ≤ c ∧ c < T 111 0 6)) ∨ ((0 ≤ c ∧ c < T 111 0 6) ∧ x2 = -3 ∧ ¬ (0 ≤ w ∧ w < 23)) ∨ ((0 ≤ c ∧ c < T 111 0 6) ∧ (0 ≤ w ∧ w < 23) ∧ x2 = T 205 0 (23 * c + w))) : x1 = x2 := by
  obtain ⟨h1, h2, h3, h4, h5⟩ := h
  by_cases hc : 0 ≤ c ∧ c < T 106 0 2
  · obtain ⟨g1, g2⟩ := h5 c hc.1 hc.2
    by_cases hw : 0 ≤ w ∧ w < 16
    · have g := g1 w hw.1 hw.2
      omega
    · by_cases hv : 16 ≤ w ∧ w < 23
      · have g := g2 (w - 16) (by omega) (by omega)
        rw [show 16 + (w - 16) = w by omega] at g
        omega
      · omega
  · omega
/-- a competition on both sides -/
theorem txr_c {T T1 T2 : Zt} {x1 x2 : Int} (h : TXR_ T) (hl : T 105 0 1 ≤ 400) (hn : 0 ≤ T 106 0 2) (ho : (∀ j, T1 500 0 j = T 500 0 j) ∧ (∀ i j, i ≠ T 106 0 2 → T1 401 i j = T 401 i j) ∧ (T1 106 0 2 = T 106 0 2 → ∀ i j, T1 402 i j = T 402 i j)) (d1 : CH9_ T T1 x1) (r : ktr_ T T1) (hp : (∀ j, T2 200 0 j = T1 200 0 j) ∧ ∀ j, j < 23 * T1 111 0 6 → T2 205 0 j = T1 205 0 j) (d2 : CR9_ T1 T2 x2) (k : kth_ T1 T2) : x1 = x2 ∧ TXR_ T2 := by
  obtain ⟨h1, h2, h3, h4, h5⟩ := h
  obtain ⟨o1, o2, o3⟩ := ho
  obtain ⟨r1, r2, r3, r4, r5⟩ := r
  obtain ⟨p1, p2⟩ := hp
  obtain ⟨k1, k2, k3, k4, k5, k6⟩ := k
  have et : ∀ j, 0 ≤ j → j < 400 → T2 500 0 j = T2 200 0 j := fun j a b => by
    rw [k4, o1, p1, r4]
    exact h4 j a b
  have er : rdf9_ 402 (cl9_ (T1 111 0 1) (fun j => T1 200 0 j)) (T1 111 0 1) 0 (fun _ => 0) dv9_ = rdf9_ 402 (cl9_ (T 105 0 1) (fun j => T 500 0 j)) (T 105 0 1) 0 (fun _ => 0) dv9_ := by
    rw [r1, ← h1, show cl9_ (T 105 0 1) (fun j => T1 200 0 j) = cl9_ (T 105 0 1) (fun j => T 500 0 j) from cl9_e (fun j a b => (r4 j).trans (h4 j a (by omega)).symm)]
  -- the competitions that stood before
  have hr : ∀ c, 0 ≤ c → c < T 106 0 2 → (∀ i j, i ≠ T 106 0 2 → T1 402 i j = T 402 i j) → (∀ w, 0 ≤ w → w < 16 → T2 401 c w = T2 205 0 (23 * c + w)) ∧ ∀ k, 0 ≤ k → k < 7 → (k < T2 401 c 4 → T2 402 c k = T2 205 0 (23 * c + (16 + k))) ∧ (¬ k < T2 401 c 4 → T2 205 0 (23 * c + (16 + k)) = -1) := fun c a b g => by
    have zc : c ≠ T 106 0 2 := by omega
    have hc := h5 c a b
    refine ⟨fun w d e => by rw [k5, o2 c w zc, p2 _ (by omega), r5]; exact hc.1 w d e, fun q d e => ?_⟩
    rw [k5, o2 c 4 zc, k6, g c q zc, p2 _ (by omega), r5]
    exact hc.2 q d e
  unfold CR9_ at d2
  rw [er] at d2
  rcases d1 with ⟨a1, a2, a3, a4, a5⟩ | ⟨a1, a2, ⟨a3, kk, a4, a5⟩ | ⟨a3, a4, a5, a6, a10, v, a7, a8, a9⟩⟩
  · rcases d2 with ⟨b1, b2, b3, b4, b5⟩ | ⟨b1, _⟩
    · exact ⟨by omega, by omega, by omega, by omega, et, fun c y z => hr c y (by omega) (fun i j _ => o3 a5 i j)⟩
    · omega
  · rcases d2 with ⟨b1, _⟩ | ⟨b1, b2, ⟨b3, k9, b4, b5, b6⟩ | ⟨b3, b4, b5, v, b6, _⟩⟩
    · omega
    · rw [a5] at b6
      have e := Prod.mk.inj (Sum.inl.inj b6)
      exact ⟨by omega, by omega, by omega, by omega, et, fun c y z => hr c y (by omega) (fun i j _ => o3 a3 i j)⟩
    · rw [a5] at b6
      cases b6
  · rcases d2 with ⟨b1, _⟩ | ⟨b1, b2, ⟨b3, k9, b4, b5, b6⟩ | ⟨b3, b4, b5, v9, b6, b7⟩⟩
    · omega
    · rw [a7] at b6
      cases b6
    · rw [a7] at b6
      have e : v = v9 := Sum.inr.inj b6
      subst e
      have kv := rdf9_v 402 kv9_d a7
      have e6 : T1 111 0 6 = T 106 0 2 := by omega
      rw [e6] at b7
      refine ⟨by omega, by omega, by omega, by omega, et, fun c y z => ?_⟩
      by_cases zc : c = T 106 0 2
      · subst zc
        have gb := rdf9_g 402 gb9_d a7
        have g4 := gb.1 4 (by omega) (by omega)
        rw [rb9_0.2.2.2.2.1] at g4
        have e4 : T2 401 (T 106 0 2) 4 = v 4 := (k5 _ _).trans (a8 4 (by omega) (by omega))
        refine ⟨fun w d e => by rw [k5, a8 w d e, b7 w d (by omega)], fun q d e => ⟨fun f => ?_, fun f => ?_⟩⟩
        · rw [e4] at f
          rw [k6, a9 q d f, b7 (16 + q) (by omega) (by omega)]
        · rw [e4] at f
          rw [b7 (16 + q) (by omega) (by omega)]
          exact kv q d e f
      · exact hr c y (by omega) a6
