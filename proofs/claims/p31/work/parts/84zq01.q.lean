/-- a run of rows, as the reference ends it -/
def RNR_ (r : Int → Int) (m x : Int) (T T' : Zt) (l : List Rw_) : Prop := ∃ b : Sg_, BGR_ m r (rp9_ T m) b ∧ rp9_ T' m = (rnR_ r m b l).1 ∧ rw9_ T' m = (rnR_ r m b l).2.1 ∧ x = (rnR_ r m b l).2.2 ∧ T' 256 0 m = T 256 0 m + x
/-- what holds of the other matches -/
def OMR_ (T T' : Zt) (m : Int) : Prop := ro9_ T T' m ∧ ∀ j, j ≠ m → 0 ≤ j → j < T 111 0 29 → rw9_ T' j = rw9_ T j ∧ T' 254 0 j = T 254 0 j ∧ T' 256 0 j = T 256 0 j
theorem om_r {T : Zt} {m : Int} : OMR_ T T m := ⟨ro_r, fun _ _ _ _ => ⟨rfl, rfl, rfl⟩⟩
theorem rp_xo {T T1 : Zt} {m : Int} (h : ∀ K j, K = 246 ∨ K = 244 ∨ K = 239 ∨ K = 245 ∨ K = 240 ∨ K = 241 ∨ K = 242 ∨ K = 243 ∨ K = 235 ∨ K = 236 ∨ K = 237 → T1 K 0 j = T K 0 j) : ro9_ T T1 m := fun _ _ => rp_x h
theorem bk_X11_putBehind_e_0 : ck_ fX11 none cX11_putBehind 0 [.iload 3, .ifCond .eq 13, .aload 0, .tableswitch 0 11 56 #[], .iload 1, .iaload, .goto 19] 13 = true := qck_r (nn_ _) (by decide +kernel)
theorem bs_X11_putBehind_e_0 {P : Zt → Option Zv → Prop} (K : Int → Zl → List Zv → Zt → Prop) : sx_ K P [.iload 3, .ifCond .eq 13, .aload 0, .tableswitch 0 11 56 #[], .iload 1, .iaload, .goto 19] 13 = x_iload 3 (x_ifCond .eq 13 K (x_aload 0 (x_g1 111 256 (x_iload 1 (x_iaload (x_goto 19 K)))))) := ((xe_iload 3).trans (congrArg (x_iload 3) ((xe_ifCond .eq 13).trans (congrArg (x_ifCond .eq 13 K) ((xe_aload 0).trans (congrArg (x_aload 0) ((xe_g1 (kk := 111) rfl tl_11_56).trans (congrArg (x_g1 111 256) ((xe_iload 1).trans (congrArg (x_iload 1) ((xe_iaload).trans (congrArg (x_iaload) (xe_goto 19)))))))))))))
theorem bk_X11_putBehind_e_13 : ck_ fX11 none cX11_putBehind 13 [.aload 0, .tableswitch 0 11 54 #[], .iload 1, .iaload, .istore 4, .aload 0, .tableswitch 0 11 52 #[], .iload 2, .iconst (-1), .iastore, .iload 4, .ifCond .le 69, .aload 0, .tableswitch 0 11 52 #[], .aload 0, .iload 3, .ifCond .eq 51, .aload 0, .tableswitch 0 11 55 #[], .iload 1, .iaload, .goto 57] 51 = true := qck_r (nn_ _) (by decide +kernel)
theorem bs_X11_putBehind_e_13 {P : Zt → Option Zv → Prop} (K : Int → Zl → List Zv → Zt → Prop) : sx_ K P [.aload 0, .tableswitch 0 11 54 #[], .iload 1, .iaload, .istore 4, .aload 0, .tableswitch 0 11 52 #[], .iload 2, .iconst (-1), .iastore, .iload 4, .ifCond .le 69, .aload 0, .tableswitch 0 11 52 #[], .aload 0, .iload 3, .ifCond .eq 51, .aload 0, .tableswitch 0 11 55 #[], .iload 1, .iaload, .goto 57] 51 = x_aload 0 (x_g1 111 254 (x_iload 1 (x_iaload (x_istore 4 (x_aload 0 (x_g1 111 252 (x_iload 2 (x_iconst (-1) (x_iastore (x_iload 4 (x_ifCond .le 69 K (x_aload 0 (x_g1 111 252 (x_aload 0 (x_iload 3 (x_ifCond .eq 51 K (x_aload 0 (x_g1 111 255 (x_iload 1 (x_iaload (x_goto 57 K))))))))))))))))))))) := ((xe_aload 0).trans (congrArg (x_aload 0) ((xe_g1 (kk := 111) rfl tl_11_54).trans (congrArg (x_g1 111 254) ((xe_iload 1).trans (congrArg (x_iload 1) ((xe_iaload).trans (congrArg (x_iaload) ((xe_istore 4).trans (congrArg (x_istore 4) ((xe_aload 0).trans (congrArg (x_aload 0) ((xe_g1 (kk := 111) rfl tl_11_52).trans (congrArg (x_g1 111 252) ((xe_iload 2).trans (congrArg (x_iload 2) ((xe_iconst (-1)).trans (congrArg (x_iconst (-1)) ((xe_iastore).trans (congrArg (x_iastore) ((xe_iload 4).trans (congrArg (x_iload 4) ((xe_ifCond .le 69).trans (congrArg (x_ifCond .le 69 K) ((xe_aload 0).trans (congrArg (x_aload 0) ((xe_g1 (kk := 111) rfl tl_11_52).trans (congrArg (x_g1 111 252) ((xe_aload 0).trans (congrArg (x_aload 0) ((xe_iload 3).trans (congrArg (x_iload 3) ((xe_ifCond .eq 51).trans (congrArg (x_ifCond .eq 51 K) ((xe_aload 0).trans (congrArg (x_aload 0) ((xe_g1 (kk := 111) rfl tl_11_55).trans (congrArg (x_g1 111 255) ((xe_iload 1).trans (congrArg (x_iload 1) ((xe_iaload).trans (congrArg (x_iaload) (xe_goto 57)))))))))))))))))))))))))))))))))))))))))))
theorem bk_X11_putBehind_e_69 : ck_ fX11 none cX11_putBehind 69 [.iload 3, .ifCond .eq 83, .aload 0, .tableswitch 0 11 55 #[], .iload 1, .iload 2, .iastore, .goto 90] 83 = true := qck_r (nn_ _) (by decide +kernel)
theorem bs_X11_putBehind_e_69 {P : Zt → Option Zv → Prop} (K : Int → Zl → List Zv → Zt → Prop) : sx_ K P [.iload 3, .ifCond .eq 83, .aload 0, .tableswitch 0 11 55 #[], .iload 1, .iload 2, .iastore, .goto 90] 83 = x_iload 3 (x_ifCond .eq 83 K (x_aload 0 (x_g1 111 255 (x_iload 1 (x_iload 2 (x_iastore (x_goto 90 K))))))) := ((xe_iload 3).trans (congrArg (x_iload 3) ((xe_ifCond .eq 83).trans (congrArg (x_ifCond .eq 83 K) ((xe_aload 0).trans (congrArg (x_aload 0) ((xe_g1 (kk := 111) rfl tl_11_55).trans (congrArg (x_g1 111 255) ((xe_iload 1).trans (congrArg (x_iload 1) ((xe_iload 2).trans (congrArg (x_iload 2) ((xe_iastore).trans (congrArg (x_iastore) (xe_goto 90)))))))))))))))
theorem bk_X11_putBehind_e_83 : ck_ fX11 none cX11_putBehind 83 [.aload 0, .tableswitch 0 11 53 #[], .iload 1, .iload 2, .iastore, .aload 0, .tableswitch 0 11 56 #[], .iload 1, .dup2, .iaload, .iload 3, .ifCond .eq 105, .iconst 1, .goto 106] 105 = true := qck_r (nn_ _) (by decide +kernel)
theorem bs_X11_putBehind_e_83 {P : Zt → Option Zv → Prop} (K : Int → Zl → List Zv → Zt → Prop) : sx_ K P [.aload 0, .tableswitch 0 11 53 #[], .iload 1, .iload 2, .iastore, .aload 0, .tableswitch 0 11 56 #[], .iload 1, .dup2, .iaload, .iload 3, .ifCond .eq 105, .iconst 1, .goto 106] 105 = x_aload 0 (x_g1 111 253 (x_iload 1 (x_iload 2 (x_iastore (x_aload 0 (x_g1 111 256 (x_iload 1 (x_dup2 (x_iaload (x_iload 3 (x_ifCond .eq 105 K (x_iconst 1 (x_goto 106 K))))))))))))) := ((xe_aload 0).trans (congrArg (x_aload 0) ((xe_g1 (kk := 111) rfl tl_11_53).trans (congrArg (x_g1 111 253) ((xe_iload 1).trans (congrArg (x_iload 1) ((xe_iload 2).trans (congrArg (x_iload 2) ((xe_iastore).trans (congrArg (x_iastore) ((xe_aload 0).trans (congrArg (x_aload 0) ((xe_g1 (kk := 111) rfl tl_11_56).trans (congrArg (x_g1 111 256) ((xe_iload 1).trans (congrArg (x_iload 1) ((xe_dup2).trans (congrArg (x_dup2) ((xe_iaload).trans (congrArg (x_iaload) ((xe_iload 3).trans (congrArg (x_iload 3) ((xe_ifCond .eq 105).trans (congrArg (x_ifCond .eq 105 K) ((xe_iconst 1).trans (congrArg (x_iconst 1) (xe_goto 106)))))))))))))))))))))))))))
theorem bk_X11_putBehind_e_105 : ck_ fX11 none cX11_putBehind 105 [.iconst 0, .iadd, .iastore, .aload 0, .tableswitch 0 11 54 #[], .iload 1, .dup2, .iaload, .iload 3, .ifCond .eq 123, .iconst 0, .goto 124] 123 = true := qck_r (nn_ _) (by decide +kernel)
theorem bs_X11_putBehind_e_105 {P : Zt → Option Zv → Prop} (K : Int → Zl → List Zv → Zt → Prop) : sx_ K P [.iconst 0, .iadd, .iastore, .aload 0, .tableswitch 0 11 54 #[], .iload 1, .dup2, .iaload, .iload 3, .ifCond .eq 123, .iconst 0, .goto 124] 123 = x_iconst 0 (x_iadd (x_iastore (x_aload 0 (x_g1 111 254 (x_iload 1 (x_dup2 (x_iaload (x_iload 3 (x_ifCond .eq 123 K (x_iconst 0 (x_goto 124 K))))))))))) := ((xe_iconst 0).trans (congrArg (x_iconst 0) ((xe_iadd).trans (congrArg (x_iadd) ((xe_iastore).trans (congrArg (x_iastore) ((xe_aload 0).trans (congrArg (x_aload 0) ((xe_g1 (kk := 111) rfl tl_11_54).trans (congrArg (x_g1 111 254) ((xe_iload 1).trans (congrArg (x_iload 1) ((xe_dup2).trans (congrArg (x_dup2) ((xe_iaload).trans (congrArg (x_iaload) ((xe_iload 3).trans (congrArg (x_iload 3) ((xe_ifCond .eq 123).trans (congrArg (x_ifCond .eq 123 K) ((xe_iconst 0).trans (congrArg (x_iconst 0) (xe_goto 124)))))))))))))))))))))))
theorem bk_X11_putBehind_e_123 : ck_ fX11 none cX11_putBehind 123 [.iconst 1, .iadd, .iastore, .return_] 127 = true := qck_r (nn_ _) (by decide +kernel)
theorem bs_X11_putBehind_e_123 {P : Zt → Option Zv → Prop} (K : Int → Zl → List Zv → Zt → Prop) : sx_ K P [.iconst 1, .iadd, .iastore, .return_] 127 = x_iconst 1 (x_iadd (x_iastore (x_return_ P))) := ((xe_iconst 1).trans (congrArg (x_iconst 1) ((xe_iadd).trans (congrArg (x_iadd) ((xe_iastore).trans (congrArg (x_iastore) (xe_return_)))))))
theorem bk_X11_putBehind_e_51 : ck_ fX11 none cX11_putBehind 51 [.aload 0, .tableswitch 0 11 53 #[], .iload 1, .iaload, .iload 4, .iconst 1, .isub] 61 = true := qck_r (nn_ _) (by decide +kernel)
theorem bs_X11_putBehind_e_51 {P : Zt → Option Zv → Prop} (K : Int → Zl → List Zv → Zt → Prop) : sx_ K P [.aload 0, .tableswitch 0 11 53 #[], .iload 1, .iaload, .iload 4, .iconst 1, .isub] 61 = x_aload 0 (x_g1 111 253 (x_iload 1 (x_iaload (x_iload 4 (x_iconst 1 (x_isub (K 61))))))) := ((xe_aload 0).trans (congrArg (x_aload 0) ((xe_g1 (kk := 111) rfl tl_11_53).trans (congrArg (x_g1 111 253) ((xe_iload 1).trans (congrArg (x_iload 1) ((xe_iaload).trans (congrArg (x_iaload) ((xe_iload 4).trans (congrArg (x_iload 4) ((xe_iconst 1).trans (congrArg (x_iconst 1) ((xe_isub).trans (congrArg (x_isub) xe_nil))))))))))))))
theorem bk_X11_putBehind_e_64 : ck_ fX11 none cX11_putBehind 64 [.iload 2, .iastore, .goto 90] 69 = true := qck_r (nn_ _) (by decide +kernel)
theorem bs_X11_putBehind_e_64 {P : Zt → Option Zv → Prop} (K : Int → Zl → List Zv → Zt → Prop) : sx_ K P [.iload 2, .iastore, .goto 90] 69 = x_iload 2 (x_iastore (x_goto 90 K)) := ((xe_iload 2).trans (congrArg (x_iload 2) ((xe_iastore).trans (congrArg (x_iastore) (xe_goto 90)))))
theorem bk_X11_putBehind_e_90 : ck_ fX11 none cX11_putBehind 90 [.aload 0, .tableswitch 0 11 56 #[], .iload 1, .dup2, .iaload, .iload 3, .ifCond .eq 105, .iconst 1, .goto 106] 105 = true := qck_r (nn_ _) (by decide +kernel)
theorem bs_X11_putBehind_e_90 {P : Zt → Option Zv → Prop} (K : Int → Zl → List Zv → Zt → Prop) : sx_ K P [.aload 0, .tableswitch 0 11 56 #[], .iload 1, .dup2, .iaload, .iload 3, .ifCond .eq 105, .iconst 1, .goto 106] 105 = x_aload 0 (x_g1 111 256 (x_iload 1 (x_dup2 (x_iaload (x_iload 3 (x_ifCond .eq 105 K (x_iconst 1 (x_goto 106 K)))))))) := ((xe_aload 0).trans (congrArg (x_aload 0) ((xe_g1 (kk := 111) rfl tl_11_56).trans (congrArg (x_g1 111 256) ((xe_iload 1).trans (congrArg (x_iload 1) ((xe_dup2).trans (congrArg (x_dup2) ((xe_iaload).trans (congrArg (x_iaload) ((xe_iload 3).trans (congrArg (x_iload 3) ((xe_ifCond .eq 105).trans (congrArg (x_ifCond .eq 105 K) ((xe_iconst 1).trans (congrArg (x_iconst 1) (xe_goto 106)))))))))))))))))
abbrev po_X11_putBehind_0_e (T : Zt) (rest : List Int) (m x : Int) : Zt → Option Zv → Prop := fun T' r => r = none ∧ fr_ [(252, []), (253, []), (254, []), (256, [])] T T' ∧ (RX_ T' rest ∧ (∀ z ∈ rest, T' 252 0 z = T 252 0 z) ∧ T' 254 0 m = T 254 0 m + 1 ∧ (∀ j, j ≠ m → T' 254 0 j = T 254 0 j) ∧ T' 254 0 m ≤ 3000 ∧ (∀ j, j ≠ m → T' 256 0 j = T 256 0 j) ∧ T' 256 0 m = T 256 0 m + 0 ∧ rw9_ T' m = rw9_ T m ++ [rwc_ T x] ∧ ∀ j, j ≠ m → 0 ≤ j → j < T 111 0 29 → rw9_ T' j = rw9_ T j)
set_option maxHeartbeats 4000000 in
theorem ct_X11_putBehind_0_e {T : Zt} {rest : List Int} {m x : Int} (h1 : 0 ≤ m ∧ m < T 111 0 29) (hx : RX_ T (x :: rest)) : Ct_ yX11_putBehind zX11_putBehind T [vR 111 0, vI m, vI x, vI 0] (po_X11_putBehind_0_e T rest m x) := by
  refine ct_of pn_11 rfl rfl (Nat.le_of_ble_eq_true rfl) (fun hT hav => ?_)
  have hr_m : -2147483648 ≤ m ∧ m ≤ 2147483647 := hav (vI m) (List.mem_cons_of_mem _ List.mem_cons_self)
  have hr_x : -2147483648 ≤ x ∧ x ≤ 2147483647 := hav (vI x) (List.mem_cons_of_mem _ (List.mem_cons_of_mem _ List.mem_cons_self))
  have hz : zX11_putBehind.2.2.2.1 = some .boolean → ∀ (T' : Zt) (x9 : Int), po_X11_putBehind_0_e T rest m x T' (some (vI x9)) → 0 ≤ x9 ∧ x9 ≤ 1 := fun h => by cases h
  have hb_29 : 0 ≤ T 111 0 29 ∧ T 111 0 29 ≤ 400 := bd_f hT 111 29 tl_11_29 0
  have hb_47 : 0 ≤ T 111 0 47 ∧ T 111 0 47 ≤ 3000 := bd_f hT 111 47 tl_11_47 0
  obtain ⟨L, hB, hR⟩ := hx
  have hlm : lk_ T (T 253 0 m) (L m 0) ∧ T 254 0 m = ((L m 0).length : Int) := hB.1 m 0 (by omega) (by omega) (by decide) (by decide)
  have hxx := hR.1 x List.mem_cons_self
  have hxn : x ∉ L m 0 := hR.2.2 m 0 x List.mem_cons_self
  have hln := nd_len (l := x :: L m 0) (by omega) (List.forall_mem_cons.mpr ⟨hxx, hB.2.1 m 0⟩) (List.nodup_cons.mpr ⟨hxn, hB.2.2.1 m 0⟩)
  rw [List.length_cons] at hln
  show J_ zX11_putBehind T (po_X11_putBehind_0_e T rest m x) 0 0 0 [some (vR 111 0), some (vI m), some (vI x), some (vI 0), none] [] T
  refine j_blx (F := fX11) tb_X11 (nn_ _) bk_X11_putBehind_e_0 bs_X11_putBehind_e_0 hz (fun K hK => ?_)
  refine And.intro (fun c1 => ?_) (fun c1 => ?_)
  · refine hK 13 _ [] T ?_
    refine j_blx (F := fX11) tb_X11 (nn_ _) bk_X11_putBehind_e_13 bs_X11_putBehind_e_13 hz (fun K hK => ?_)
    refine ix_i (by omega) ?_
    intro b2 b2b
    refine iy_i (by omega) (by omega) ?_
    refine x_nm (fun U3 hU3 => ?_)
    have e4 := up_f hU3
    refine And.intro (fun c5 => ?_) (fun c5 => ?_)
    · refine hK 69 [some (vR 111 0), some (vI m), some (vI x), some (vI 0), some (vI (T 254 0 m))] [] U3 ?_
      refine j_blx (F := fX11) tb_X11 (nn_ _) bk_X11_putBehind_e_69 bs_X11_putBehind_e_69 hz (fun K hK => ?_)
      refine And.intro (fun c6 => ?_) (fun c6 => ?_)
      · refine hK 83 _ [] U3 ?_
        refine j_blx (F := fX11) tb_X11 (nn_ _) bk_X11_putBehind_e_83 bs_X11_putBehind_e_83 hz (fun K hK => ?_)
        refine iy_i (by omega) (by omega) ?_
        refine x_nm (fun U7 hU7 => ?_)
        have e8 := up_f hU7
        refine ix_i (by omega) ?_
        intro b9 b9b
        have e10 : U7 256 0 m = T 256 0 m := (up_k hU7 (by exact Nat.ne_of_beq_eq_false rfl) 0 m).trans (up_k hU3 (by exact Nat.ne_of_beq_eq_false rfl) 0 m)
        rw [e10] at b9 b9b ⊢
        refine And.intro (fun c11 => ?_) (fun c11 => ?_)
        · refine hK 105 _ [vI (T 256 0 m), vI m, vR 256 0] U7 ?_
          refine j_blx (F := fX11) tb_X11 (nn_ _) bk_X11_putBehind_e_105 bs_X11_putBehind_e_105 hz (fun K hK => ?_)
          refine rg_i (by omega) ?_
          refine iy_i (by omega) (by omega) ?_
          refine x_nm (fun U12 hU12 => ?_)
          have e13 := up_f hU12
          refine ix_i (by omega) ?_
          intro b14 b14b
          have e15 : U12 254 0 m = T 254 0 m := (up_k hU12 (by exact Nat.ne_of_beq_eq_false rfl) 0 m).trans ((up_k hU7 (by exact Nat.ne_of_beq_eq_false rfl) 0 m).trans (up_k hU3 (by exact Nat.ne_of_beq_eq_false rfl) 0 m))
          rw [e15] at b14 b14b ⊢
          refine And.intro (fun c16 => ?_) (fun c16 => ?_)
          · refine hK 123 _ [vI (T 254 0 m), vI m, vR 254 0] U12 ?_
            refine j_blx (F := fX11) tb_X11 (nn_ _) bk_X11_putBehind_e_123 bs_X11_putBehind_e_123 hz (fun K hK => ?_)
            refine rg_i (by omega) ?_
            refine iy_i (by omega) (by omega) ?_
            refine x_nm (fun U17 hU17 => ?_)
            have e18 := up_f hU17
            refine (show po_X11_putBehind_0_e T rest m x U17 (none) from ?_)
            have e19 : U17 254 0 m = (T 254 0 m) + 1 := up_f hU17
            have e20 : U17 256 0 m = (T 256 0 m) + 0 := (up_k hU17 (by exact Nat.ne_of_beq_eq_false rfl) 0 m).trans (up_f hU12)
            have fz : fr_ [(254, []), (256, []), (253, []), (252, [])] T U17 := fr_u (fr_u (fr_u (fr_u (fr_0 _ _) hU3 rfl) hU7 rfl) hU12 rfl) hU17 rfl
            have eo : ∀ j, U17 256 0 j = T 256 0 j := fun j => by
              by_cases z : j = m
              · rw [z, up_k hU17 (by exact Nat.ne_of_beq_eq_false rfl) 0 m, up_f hU12]; omega
              · exact (up_k hU17 (by exact Nat.ne_of_beq_eq_false rfl) 0 j).trans ((up_g hU12 (fun q => z q.2.2)).trans ((up_k hU7 (by exact Nat.ne_of_beq_eq_false rfl) 0 j).trans (up_k hU3 (by exact Nat.ne_of_beq_eq_false rfl) 0 j)))
            have ek : U17 254 0 m = T 254 0 m + 1 := by
              rw [up_f hU17]
            have e3 : U17 252 0 x = -1 := ((up_k hU17 (by exact Nat.ne_of_beq_eq_false rfl) 0 x).trans ((up_k hU12 (by exact Nat.ne_of_beq_eq_false rfl) 0 x).trans (up_k hU7 (by exact Nat.ne_of_beq_eq_false rfl) 0 x))).trans (up_f hU3)
            have ef : ∀ m' b', 0 ≤ b' → b' ≤ 1 → ¬ (m' = m ∧ b' = 0) → U17 (kf_ b') 0 m' = T (kf_ b') 0 m' ∧ U17 (km_ b') 0 m' = T (km_ b') 0 m' := by
              intro m' b' a c n
              rcases (by omega : b' = 0 ∨ b' = 1) with z | z
              · subst z; exact ⟨(up_k hU17 (by exact Nat.ne_of_beq_eq_false rfl) 0 (m')).trans ((up_k hU12 (by exact Nat.ne_of_beq_eq_false rfl) 0 (m')).trans ((up_g hU7 (fun q => n ⟨q.2.2, rfl⟩)).trans (up_k hU3 (by exact Nat.ne_of_beq_eq_false rfl) 0 (m')))), (up_g hU17 (fun q => n ⟨q.2.2, rfl⟩)).trans ((up_k hU12 (by exact Nat.ne_of_beq_eq_false rfl) 0 (m')).trans ((up_k hU7 (by exact Nat.ne_of_beq_eq_false rfl) 0 (m')).trans (up_k hU3 (by exact Nat.ne_of_beq_eq_false rfl) 0 (m'))))⟩
              · subst z; exact ⟨(up_k hU17 (by exact Nat.ne_of_beq_eq_false rfl) 0 (m')).trans ((up_k hU12 (by exact Nat.ne_of_beq_eq_false rfl) 0 (m')).trans ((up_k hU7 (by exact Nat.ne_of_beq_eq_false rfl) 0 (m')).trans (up_k hU3 (by exact Nat.ne_of_beq_eq_false rfl) 0 (m')))), eo m'⟩
            have hrp := rb_put (b := 0) (by decide) h1 hb_47.2 hB hR (fz 111 0 29 rfl) (fz 111 0 47 rfl) ef ek e3 (Or.inl ⟨List.eq_nil_of_length_eq_zero (by omega), ((up_k hU17 (by exact Nat.ne_of_beq_eq_false rfl) 0 m).trans (up_k hU12 (by exact Nat.ne_of_beq_eq_false rfl) 0 m)).trans (up_f hU7), fun z a => (up_k hU17 (by exact Nat.ne_of_beq_eq_false rfl) 0 z).trans ((up_k hU12 (by exact Nat.ne_of_beq_eq_false rfl) 0 z).trans ((up_k hU7 (by exact Nat.ne_of_beq_eq_false rfl) 0 z).trans (up_g hU3 (fun q => a q.2.2))))⟩)
            have rwp := rw_p hB hrp.1 (fz 111 0 29 rfl) (cl_k (fun k j h => fz k 0 j (by rcases h with rfl | rfl | rfl | rfl <;> rfl))) h1.1 h1.2
            exact ⟨rfl, fr_s fz rfl, ⟨_, hrp.1, hrp.2.1⟩, hrp.2.2, ek, fun j hj => (up_g hU17 (fun q => hj q.2.2)).trans ((up_k hU12 (by exact Nat.ne_of_beq_eq_false rfl) 0 j).trans ((up_k hU7 (by exact Nat.ne_of_beq_eq_false rfl) 0 j).trans (up_k hU3 (by exact Nat.ne_of_beq_eq_false rfl) 0 j))), by omega, fun j _ => eo j, by rw [eo m]; omega, rwp.1, rwp.2⟩
          · exact absurd c16 (by decide)
        · exact absurd c11 (by decide)
      · exact absurd c6 (by decide)
    · refine And.intro (fun c21 => ?_) (fun c21 => ?_)
      · refine hK 51 _ [vR 111 0, vR 252 0] U3 ?_
        refine j_blx (F := fX11) tb_X11 (nn_ _) bk_X11_putBehind_e_51 bs_X11_putBehind_e_51 hz (fun K hK => ?_)
        refine ix_i (by omega) ?_
        intro b22 b22b
        have e23 : U3 253 0 m = T 253 0 m := up_k hU3 (by exact Nat.ne_of_beq_eq_false rfl) 0 m
        rw [e23] at b22 b22b ⊢
        refine rg_i (by omega) ?_
        refine hK 61 _ [vI ((T 254 0 m) - 1), vI (T 253 0 m), vR 111 0, vR 252 0] U3 ?_
        refine j_callV (y := yX11_rowAt) (Yc := zX11_rowAt) (rest := [vR 252 0]) [vI (T 253 0 m), vI ((T 254 0 m) - 1)] (ct_X11_rowAt (T := U3) (l := L m 0) (by exact lk_e hlm.1 (fun z hz => up_g hU3 (fun q => hxn (q.2.2 ▸ hz)))) (by omega)) cl_X11_456 (qd_c (by decide +kernel)) (nn_ _) rfl (rf_of rfl) (Nat.le_of_ble_eq_true rfl) (Nat.le_of_ble_eq_true rfl) (Nat.le_of_ble_eq_true rfl) rfl ?_
        rintro _ _ ⟨rfl, x24, rfl, hx24⟩
        show J_ zX11_putBehind T (po_X11_putBehind_0_e T rest m x) 0 0 64 _ [vI x24, vR 252 0] U3
        have hyl : (L m 0).getLast? = some x24 := by
          rw [List.getLast?_eq_getElem?, show (L m 0).length - 1 = (T 254 0 m - 1).toNat by omega]; exact hx24.1
        have hyn : x ≠ x24 := fun e => hxn (by rw [e]; exact List.mem_of_getLast? hyl)
        refine j_blx (F := fX11) tb_X11 (nn_ _) bk_X11_putBehind_e_64 bs_X11_putBehind_e_64 hz (fun K hK => ?_)
        refine iy_i (by omega) (by omega) ?_
        refine x_nm (fun U25 hU25 => ?_)
        have e26 := up_f hU25
        refine hK 90 _ [] U25 ?_
        refine j_blx (F := fX11) tb_X11 (nn_ _) bk_X11_putBehind_e_90 bs_X11_putBehind_e_90 hz (fun K hK => ?_)
        refine ix_i (by omega) ?_
        intro b27 b27b
        have e28 : U25 256 0 m = T 256 0 m := (up_k hU25 (by exact Nat.ne_of_beq_eq_false rfl) 0 m).trans (up_k hU3 (by exact Nat.ne_of_beq_eq_false rfl) 0 m)
        rw [e28] at b27 b27b ⊢
        refine And.intro (fun c29 => ?_) (fun c29 => ?_)
        · refine hK 105 _ [vI (T 256 0 m), vI m, vR 256 0] U25 ?_
          refine j_blx (F := fX11) tb_X11 (nn_ _) bk_X11_putBehind_e_105 bs_X11_putBehind_e_105 hz (fun K hK => ?_)
          refine rg_i (by omega) ?_
          refine iy_i (by omega) (by omega) ?_
          refine x_nm (fun U30 hU30 => ?_)
          have e31 := up_f hU30
          refine ix_i (by omega) ?_
          intro b32 b32b
          have e33 : U30 254 0 m = T 254 0 m := (up_k hU30 (by exact Nat.ne_of_beq_eq_false rfl) 0 m).trans ((up_k hU25 (by exact Nat.ne_of_beq_eq_false rfl) 0 m).trans (up_k hU3 (by exact Nat.ne_of_beq_eq_false rfl) 0 m))
          rw [e33] at b32 b32b ⊢
          refine And.intro (fun c34 => ?_) (fun c34 => ?_)
          · refine hK 123 _ [vI (T 254 0 m), vI m, vR 254 0] U30 ?_
            refine j_blx (F := fX11) tb_X11 (nn_ _) bk_X11_putBehind_e_123 bs_X11_putBehind_e_123 hz (fun K hK => ?_)
            refine rg_i (by omega) ?_
            refine iy_i (by omega) (by omega) ?_
            refine x_nm (fun U35 hU35 => ?_)
            have e36 := up_f hU35
            refine (show po_X11_putBehind_0_e T rest m x U35 (none) from ?_)
            have e37 : U35 254 0 m = (T 254 0 m) + 1 := up_f hU35
            have e38 : U35 256 0 m = (T 256 0 m) + 0 := (up_k hU35 (by exact Nat.ne_of_beq_eq_false rfl) 0 m).trans (up_f hU30)
            have fz : fr_ [(254, []), (256, []), (252, [])] T U35 := fr_u (fr_u (fr_u (fr_u (fr_0 _ _) hU3 rfl) hU25 rfl) hU30 rfl) hU35 rfl
            have eo : ∀ j, U35 256 0 j = T 256 0 j := fun j => by
              by_cases z : j = m
              · rw [z, up_k hU35 (by exact Nat.ne_of_beq_eq_false rfl) 0 m, up_f hU30]; omega
              · exact (up_k hU35 (by exact Nat.ne_of_beq_eq_false rfl) 0 j).trans ((up_g hU30 (fun q => z q.2.2)).trans ((up_k hU25 (by exact Nat.ne_of_beq_eq_false rfl) 0 j).trans (up_k hU3 (by exact Nat.ne_of_beq_eq_false rfl) 0 j)))
            have ek : U35 254 0 m = T 254 0 m + 1 := by
              rw [up_f hU35]
            have e3 : U35 252 0 x = -1 := ((up_k hU35 (by exact Nat.ne_of_beq_eq_false rfl) 0 x).trans ((up_k hU30 (by exact Nat.ne_of_beq_eq_false rfl) 0 x).trans (up_g hU25 (fun q => hyn q.2.2)))).trans (up_f hU3)
            have ef : ∀ m' b', 0 ≤ b' → b' ≤ 1 → ¬ (m' = m ∧ b' = 0) → U35 (kf_ b') 0 m' = T (kf_ b') 0 m' ∧ U35 (km_ b') 0 m' = T (km_ b') 0 m' := by
              intro m' b' a c n
              rcases (by omega : b' = 0 ∨ b' = 1) with z | z
              · subst z; exact ⟨(up_k hU35 (by exact Nat.ne_of_beq_eq_false rfl) 0 (m')).trans ((up_k hU30 (by exact Nat.ne_of_beq_eq_false rfl) 0 (m')).trans ((up_k hU25 (by exact Nat.ne_of_beq_eq_false rfl) 0 (m')).trans (up_k hU3 (by exact Nat.ne_of_beq_eq_false rfl) 0 (m')))), (up_g hU35 (fun q => n ⟨q.2.2, rfl⟩)).trans ((up_k hU30 (by exact Nat.ne_of_beq_eq_false rfl) 0 (m')).trans ((up_k hU25 (by exact Nat.ne_of_beq_eq_false rfl) 0 (m')).trans (up_k hU3 (by exact Nat.ne_of_beq_eq_false rfl) 0 (m'))))⟩
              · subst z; exact ⟨(up_k hU35 (by exact Nat.ne_of_beq_eq_false rfl) 0 (m')).trans ((up_k hU30 (by exact Nat.ne_of_beq_eq_false rfl) 0 (m')).trans ((up_k hU25 (by exact Nat.ne_of_beq_eq_false rfl) 0 (m')).trans (up_k hU3 (by exact Nat.ne_of_beq_eq_false rfl) 0 (m')))), eo m'⟩
            have hrp := rb_put (b := 0) (by decide) h1 hb_47.2 hB hR (fz 111 0 29 rfl) (fz 111 0 47 rfl) ef ek e3 (Or.inr ⟨fz 253 0 m rfl, x24, hyl, ((up_k hU35 (by exact Nat.ne_of_beq_eq_false rfl) 0 x24).trans (up_k hU30 (by exact Nat.ne_of_beq_eq_false rfl) 0 x24)).trans (up_f hU25), fun z a b => (up_k hU35 (by exact Nat.ne_of_beq_eq_false rfl) 0 z).trans ((up_k hU30 (by exact Nat.ne_of_beq_eq_false rfl) 0 z).trans ((up_g hU25 (fun q => b q.2.2)).trans (up_g hU3 (fun q => a q.2.2))))⟩)
            have rwp := rw_p hB hrp.1 (fz 111 0 29 rfl) (cl_k (fun k j h => fz k 0 j (by rcases h with rfl | rfl | rfl | rfl <;> rfl))) h1.1 h1.2
            exact ⟨rfl, fr_s fz rfl, ⟨_, hrp.1, hrp.2.1⟩, hrp.2.2, ek, fun j hj => (up_g hU35 (fun q => hj q.2.2)).trans ((up_k hU30 (by exact Nat.ne_of_beq_eq_false rfl) 0 j).trans ((up_k hU25 (by exact Nat.ne_of_beq_eq_false rfl) 0 j).trans (up_k hU3 (by exact Nat.ne_of_beq_eq_false rfl) 0 j))), by omega, fun j _ => eo j, by rw [eo m]; omega, rwp.1, rwp.2⟩
          · exact absurd c34 (by decide)
        · exact absurd c29 (by decide)
      · exact absurd c21 (by decide)
  · exact absurd c1 (by decide)
theorem bk_X11_putBehind_e_19 : ck_ fX11 none cX11_putBehind 19 [.istore 4, .aload 0, .tableswitch 0 11 52 #[], .iload 2, .iconst (-1), .iastore, .iload 4, .ifCond .le 69, .aload 0, .tableswitch 0 11 52 #[], .aload 0, .iload 3, .ifCond .eq 51, .aload 0, .tableswitch 0 11 55 #[], .iload 1, .iaload, .goto 57] 51 = true := qck_r (nn_ _) (by decide +kernel)
theorem bs_X11_putBehind_e_19 {P : Zt → Option Zv → Prop} (K : Int → Zl → List Zv → Zt → Prop) : sx_ K P [.istore 4, .aload 0, .tableswitch 0 11 52 #[], .iload 2, .iconst (-1), .iastore, .iload 4, .ifCond .le 69, .aload 0, .tableswitch 0 11 52 #[], .aload 0, .iload 3, .ifCond .eq 51, .aload 0, .tableswitch 0 11 55 #[], .iload 1, .iaload, .goto 57] 51 = x_istore 4 (x_aload 0 (x_g1 111 252 (x_iload 2 (x_iconst (-1) (x_iastore (x_iload 4 (x_ifCond .le 69 K (x_aload 0 (x_g1 111 252 (x_aload 0 (x_iload 3 (x_ifCond .eq 51 K (x_aload 0 (x_g1 111 255 (x_iload 1 (x_iaload (x_goto 57 K))))))))))))))))) := ((xe_istore 4).trans (congrArg (x_istore 4) ((xe_aload 0).trans (congrArg (x_aload 0) ((xe_g1 (kk := 111) rfl tl_11_52).trans (congrArg (x_g1 111 252) ((xe_iload 2).trans (congrArg (x_iload 2) ((xe_iconst (-1)).trans (congrArg (x_iconst (-1)) ((xe_iastore).trans (congrArg (x_iastore) ((xe_iload 4).trans (congrArg (x_iload 4) ((xe_ifCond .le 69).trans (congrArg (x_ifCond .le 69 K) ((xe_aload 0).trans (congrArg (x_aload 0) ((xe_g1 (kk := 111) rfl tl_11_52).trans (congrArg (x_g1 111 252) ((xe_aload 0).trans (congrArg (x_aload 0) ((xe_iload 3).trans (congrArg (x_iload 3) ((xe_ifCond .eq 51).trans (congrArg (x_ifCond .eq 51 K) ((xe_aload 0).trans (congrArg (x_aload 0) ((xe_g1 (kk := 111) rfl tl_11_55).trans (congrArg (x_g1 111 255) ((xe_iload 1).trans (congrArg (x_iload 1) ((xe_iaload).trans (congrArg (x_iaload) (xe_goto 57)))))))))))))))))))))))))))))))))))
theorem bk_X11_putBehind_e_106 : ck_ fX11 none cX11_putBehind 106 [.iadd, .iastore, .aload 0, .tableswitch 0 11 54 #[], .iload 1, .dup2, .iaload, .iload 3, .ifCond .eq 123, .iconst 0, .goto 124] 123 = true := qck_r (nn_ _) (by decide +kernel)
theorem bs_X11_putBehind_e_106 {P : Zt → Option Zv → Prop} (K : Int → Zl → List Zv → Zt → Prop) : sx_ K P [.iadd, .iastore, .aload 0, .tableswitch 0 11 54 #[], .iload 1, .dup2, .iaload, .iload 3, .ifCond .eq 123, .iconst 0, .goto 124] 123 = x_iadd (x_iastore (x_aload 0 (x_g1 111 254 (x_iload 1 (x_dup2 (x_iaload (x_iload 3 (x_ifCond .eq 123 K (x_iconst 0 (x_goto 124 K)))))))))) := ((xe_iadd).trans (congrArg (x_iadd) ((xe_iastore).trans (congrArg (x_iastore) ((xe_aload 0).trans (congrArg (x_aload 0) ((xe_g1 (kk := 111) rfl tl_11_54).trans (congrArg (x_g1 111 254) ((xe_iload 1).trans (congrArg (x_iload 1) ((xe_dup2).trans (congrArg (x_dup2) ((xe_iaload).trans (congrArg (x_iaload) ((xe_iload 3).trans (congrArg (x_iload 3) ((xe_ifCond .eq 123).trans (congrArg (x_ifCond .eq 123 K) ((xe_iconst 0).trans (congrArg (x_iconst 0) (xe_goto 124)))))))))))))))))))))
theorem bk_X11_putBehind_e_124 : ck_ fX11 none cX11_putBehind 124 [.iadd, .iastore, .return_] 127 = true := qck_r (nn_ _) (by decide +kernel)
theorem bs_X11_putBehind_e_124 {P : Zt → Option Zv → Prop} (K : Int → Zl → List Zv → Zt → Prop) : sx_ K P [.iadd, .iastore, .return_] 127 = x_iadd (x_iastore (x_return_ P)) := ((xe_iadd).trans (congrArg (x_iadd) ((xe_iastore).trans (congrArg (x_iastore) (xe_return_)))))
theorem bk_X11_putBehind_e_57 : ck_ fX11 none cX11_putBehind 57 [.iload 4, .iconst 1, .isub] 61 = true := qck_r (nn_ _) (by decide +kernel)
theorem bs_X11_putBehind_e_57 {P : Zt → Option Zv → Prop} (K : Int → Zl → List Zv → Zt → Prop) : sx_ K P [.iload 4, .iconst 1, .isub] 61 = x_iload 4 (x_iconst 1 (x_isub (K 61))) := ((xe_iload 4).trans (congrArg (x_iload 4) ((xe_iconst 1).trans (congrArg (x_iconst 1) ((xe_isub).trans (congrArg (x_isub) xe_nil))))))
abbrev po_X11_putBehind_1_e (T : Zt) (rest : List Int) (m x : Int) : Zt → Option Zv → Prop := fun T' r => r = none ∧ fr_ [(252, []), (255, []), (254, []), (256, [])] T T' ∧ (RX_ T' rest ∧ (∀ z ∈ rest, T' 252 0 z = T 252 0 z) ∧ T' 254 0 m = T 254 0 m + 0 ∧ (∀ j, j ≠ m → T' 254 0 j = T 254 0 j) ∧ T' 254 0 m ≤ 3000 ∧ (∀ j, j ≠ m → T' 256 0 j = T 256 0 j) ∧ T' 256 0 m = T 256 0 m + 1 ∧ rw9_ T' m = rw9_ T m ∧ ∀ j, j ≠ m → 0 ≤ j → j < T 111 0 29 → rw9_ T' j = rw9_ T j)
set_option maxHeartbeats 4000000 in
theorem ct_X11_putBehind_1_e {T : Zt} {rest : List Int} {m x : Int} (h1 : 0 ≤ m ∧ m < T 111 0 29) (hx : RX_ T (x :: rest)) : Ct_ yX11_putBehind zX11_putBehind T [vR 111 0, vI m, vI x, vI 1] (po_X11_putBehind_1_e T rest m x) := by
  refine ct_of pn_11 rfl rfl (Nat.le_of_ble_eq_true rfl) (fun hT hav => ?_)
  have hr_m : -2147483648 ≤ m ∧ m ≤ 2147483647 := hav (vI m) (List.mem_cons_of_mem _ List.mem_cons_self)
  have hr_x : -2147483648 ≤ x ∧ x ≤ 2147483647 := hav (vI x) (List.mem_cons_of_mem _ (List.mem_cons_of_mem _ List.mem_cons_self))
  have hz : zX11_putBehind.2.2.2.1 = some .boolean → ∀ (T' : Zt) (x9 : Int), po_X11_putBehind_1_e T rest m x T' (some (vI x9)) → 0 ≤ x9 ∧ x9 ≤ 1 := fun h => by cases h
  have hb_29 : 0 ≤ T 111 0 29 ∧ T 111 0 29 ≤ 400 := bd_f hT 111 29 tl_11_29 0
  have hb_47 : 0 ≤ T 111 0 47 ∧ T 111 0 47 ≤ 3000 := bd_f hT 111 47 tl_11_47 0
  obtain ⟨L, hB, hR⟩ := hx
  have hlm : lk_ T (T 255 0 m) (L m 1) ∧ T 256 0 m = ((L m 1).length : Int) := hB.1 m 1 (by omega) (by omega) (by decide) (by decide)
  have hxx := hR.1 x List.mem_cons_self
  have hxn : x ∉ L m 1 := hR.2.2 m 1 x List.mem_cons_self
  have hln := nd_len (l := x :: L m 1) (by omega) (List.forall_mem_cons.mpr ⟨hxx, hB.2.1 m 1⟩) (List.nodup_cons.mpr ⟨hxn, hB.2.2.1 m 1⟩)
  rw [List.length_cons] at hln
  show J_ zX11_putBehind T (po_X11_putBehind_1_e T rest m x) 0 0 0 [some (vR 111 0), some (vI m), some (vI x), some (vI 1), none] [] T
  refine j_blx (F := fX11) tb_X11 (nn_ _) bk_X11_putBehind_e_0 bs_X11_putBehind_e_0 hz (fun K hK => ?_)
  refine And.intro (fun c1 => ?_) (fun c1 => ?_)
  · exact absurd c1 (by decide)
  · refine ix_i (by omega) ?_
    intro b2 b2b
    refine hK 19 _ [vI (T 256 0 m)] T ?_
    refine j_blx (F := fX11) tb_X11 (nn_ _) bk_X11_putBehind_e_19 bs_X11_putBehind_e_19 hz (fun K hK => ?_)
    refine iy_i (by omega) (by omega) ?_
    refine x_nm (fun U3 hU3 => ?_)
    have e4 := up_f hU3
    refine And.intro (fun c5 => ?_) (fun c5 => ?_)
    · refine hK 69 [some (vR 111 0), some (vI m), some (vI x), some (vI 1), some (vI (T 256 0 m))] [] U3 ?_
      refine j_blx (F := fX11) tb_X11 (nn_ _) bk_X11_putBehind_e_69 bs_X11_putBehind_e_69 hz (fun K hK => ?_)
      refine And.intro (fun c6 => ?_) (fun c6 => ?_)
      · exact absurd c6 (by decide)
      · refine iy_i (by omega) (by omega) ?_
        refine x_nm (fun U7 hU7 => ?_)
        have e8 := up_f hU7
        refine hK 90 _ [] U7 ?_
        refine j_blx (F := fX11) tb_X11 (nn_ _) bk_X11_putBehind_e_90 bs_X11_putBehind_e_90 hz (fun K hK => ?_)
        refine ix_i (by omega) ?_
        intro b9 b9b
        have e10 : U7 256 0 m = T 256 0 m := (up_k hU7 (by exact Nat.ne_of_beq_eq_false rfl) 0 m).trans (up_k hU3 (by exact Nat.ne_of_beq_eq_false rfl) 0 m)
        rw [e10] at b9 b9b ⊢
        refine And.intro (fun c11 => ?_) (fun c11 => ?_)
        · exact absurd c11 (by decide)
        · refine hK 106 _ [vI 1, vI (T 256 0 m), vI m, vR 256 0] U7 ?_
          refine j_blx (F := fX11) tb_X11 (nn_ _) bk_X11_putBehind_e_106 bs_X11_putBehind_e_106 hz (fun K hK => ?_)
          refine rg_i (by omega) ?_
          refine iy_i (by omega) (by omega) ?_
          refine x_nm (fun U12 hU12 => ?_)
          have e13 := up_f hU12
          refine ix_i (by omega) ?_
          intro b14 b14b
          have e15 : U12 254 0 m = T 254 0 m := (up_k hU12 (by exact Nat.ne_of_beq_eq_false rfl) 0 m).trans ((up_k hU7 (by exact Nat.ne_of_beq_eq_false rfl) 0 m).trans (up_k hU3 (by exact Nat.ne_of_beq_eq_false rfl) 0 m))
          rw [e15] at b14 b14b ⊢
          refine And.intro (fun c16 => ?_) (fun c16 => ?_)
          · exact absurd c16 (by decide)
          · refine hK 124 _ [vI 0, vI (T 254 0 m), vI m, vR 254 0] U12 ?_
            refine j_blx (F := fX11) tb_X11 (nn_ _) bk_X11_putBehind_e_124 bs_X11_putBehind_e_124 hz (fun K hK => ?_)
            refine rg_i (by omega) ?_
            refine iy_i (by omega) (by omega) ?_
            refine x_nm (fun U17 hU17 => ?_)
            have e18 := up_f hU17
            refine (show po_X11_putBehind_1_e T rest m x U17 (none) from ?_)
            have e19 : U17 254 0 m = (T 254 0 m) + 0 := up_f hU17
            have e20 : U17 256 0 m = (T 256 0 m) + 1 := (up_k hU17 (by exact Nat.ne_of_beq_eq_false rfl) 0 m).trans (up_f hU12)
            have fz : fr_ [(254, []), (256, []), (255, []), (252, [])] T U17 := fr_u (fr_u (fr_u (fr_u (fr_0 _ _) hU3 rfl) hU7 rfl) hU12 rfl) hU17 rfl
            have eo : ∀ j, U17 254 0 j = T 254 0 j := fun j => by
              by_cases z : j = m
              · rw [z, up_f hU17]; omega
              · exact (up_g hU17 (fun q => z q.2.2)).trans ((up_k hU12 (by exact Nat.ne_of_beq_eq_false rfl) 0 j).trans ((up_k hU7 (by exact Nat.ne_of_beq_eq_false rfl) 0 j).trans (up_k hU3 (by exact Nat.ne_of_beq_eq_false rfl) 0 j)))
            have ek : U17 256 0 m = T 256 0 m + 1 := by
              rw [up_k hU17 (by exact Nat.ne_of_beq_eq_false rfl) 0 m, up_f hU12]
            have e3 : U17 252 0 x = -1 := ((up_k hU17 (by exact Nat.ne_of_beq_eq_false rfl) 0 x).trans ((up_k hU12 (by exact Nat.ne_of_beq_eq_false rfl) 0 x).trans (up_k hU7 (by exact Nat.ne_of_beq_eq_false rfl) 0 x))).trans (up_f hU3)
            have ef : ∀ m' b', 0 ≤ b' → b' ≤ 1 → ¬ (m' = m ∧ b' = 1) → U17 (kf_ b') 0 m' = T (kf_ b') 0 m' ∧ U17 (km_ b') 0 m' = T (km_ b') 0 m' := by
              intro m' b' a c n
              rcases (by omega : b' = 0 ∨ b' = 1) with z | z
              · subst z; exact ⟨(up_k hU17 (by exact Nat.ne_of_beq_eq_false rfl) 0 (m')).trans ((up_k hU12 (by exact Nat.ne_of_beq_eq_false rfl) 0 (m')).trans ((up_k hU7 (by exact Nat.ne_of_beq_eq_false rfl) 0 (m')).trans (up_k hU3 (by exact Nat.ne_of_beq_eq_false rfl) 0 (m')))), eo m'⟩
              · subst z; exact ⟨(up_k hU17 (by exact Nat.ne_of_beq_eq_false rfl) 0 (m')).trans ((up_k hU12 (by exact Nat.ne_of_beq_eq_false rfl) 0 (m')).trans ((up_g hU7 (fun q => n ⟨q.2.2, rfl⟩)).trans (up_k hU3 (by exact Nat.ne_of_beq_eq_false rfl) 0 (m')))), (up_k hU17 (by exact Nat.ne_of_beq_eq_false rfl) 0 (m')).trans ((up_g hU12 (fun q => n ⟨q.2.2, rfl⟩)).trans ((up_k hU7 (by exact Nat.ne_of_beq_eq_false rfl) 0 (m')).trans (up_k hU3 (by exact Nat.ne_of_beq_eq_false rfl) 0 (m'))))⟩
            have hrp := rb_put (b := 1) (by decide) h1 hb_47.2 hB hR (fz 111 0 29 rfl) (fz 111 0 47 rfl) ef ek e3 (Or.inl ⟨List.eq_nil_of_length_eq_zero (by omega), ((up_k hU17 (by exact Nat.ne_of_beq_eq_false rfl) 0 m).trans (up_k hU12 (by exact Nat.ne_of_beq_eq_false rfl) 0 m)).trans (up_f hU7), fun z a => (up_k hU17 (by exact Nat.ne_of_beq_eq_false rfl) 0 z).trans ((up_k hU12 (by exact Nat.ne_of_beq_eq_false rfl) 0 z).trans ((up_k hU7 (by exact Nat.ne_of_beq_eq_false rfl) 0 z).trans (up_g hU3 (fun q => a q.2.2))))⟩)
            have hrn : 0 ≤ T 254 0 m ∧ T 254 0 m ≤ 3000 := bd_a hT 254 (by decide +kernel : ta_ 254 = some (1, some 400, 0, 3000)) 0 (by omega)
            have rwa := rw_a hB hrp.1 (fz 111 0 29 rfl) (cl_k (fun k j h => fz k 0 j (by rcases h with rfl | rfl | rfl | rfl <;> rfl)))
            exact ⟨rfl, fr_s fz rfl, ⟨_, hrp.1, hrp.2.1⟩, hrp.2.2, by rw [eo m]; omega, fun j _ => eo j, by rw [eo m]; omega, fun j hj => (up_k hU17 (by exact Nat.ne_of_beq_eq_false rfl) 0 j).trans ((up_g hU12 (fun q => hj q.2.2)).trans ((up_k hU7 (by exact Nat.ne_of_beq_eq_false rfl) 0 j).trans (up_k hU3 (by exact Nat.ne_of_beq_eq_false rfl) 0 j))), ek, rwa m h1.1 h1.2, fun j _ j0 j1 => rwa j j0 j1⟩
    · refine And.intro (fun c21 => ?_) (fun c21 => ?_)
      · exact absurd c21 (by decide)
      · refine ix_i (by omega) ?_
        intro b22 b22b
        have e23 : U3 255 0 m = T 255 0 m := up_k hU3 (by exact Nat.ne_of_beq_eq_false rfl) 0 m
        rw [e23] at b22 b22b ⊢
        refine hK 57 _ [vI (T 255 0 m), vR 111 0, vR 252 0] U3 ?_
        refine j_blx (F := fX11) tb_X11 (nn_ _) bk_X11_putBehind_e_57 bs_X11_putBehind_e_57 hz (fun K hK => ?_)
        refine rg_i (by omega) ?_
        refine hK 61 _ [vI ((T 256 0 m) - 1), vI (T 255 0 m), vR 111 0, vR 252 0] U3 ?_
        refine j_callV (y := yX11_rowAt) (Yc := zX11_rowAt) (rest := [vR 252 0]) [vI (T 255 0 m), vI ((T 256 0 m) - 1)] (ct_X11_rowAt (T := U3) (l := L m 1) (by exact lk_e hlm.1 (fun z hz => up_g hU3 (fun q => hxn (q.2.2 ▸ hz)))) (by omega)) cl_X11_456 (qd_c (by decide +kernel)) (nn_ _) rfl (rf_of rfl) (Nat.le_of_ble_eq_true rfl) (Nat.le_of_ble_eq_true rfl) (Nat.le_of_ble_eq_true rfl) rfl ?_
        rintro _ _ ⟨rfl, x24, rfl, hx24⟩
        show J_ zX11_putBehind T (po_X11_putBehind_1_e T rest m x) 0 0 64 _ [vI x24, vR 252 0] U3
        have hyl : (L m 1).getLast? = some x24 := by
          rw [List.getLast?_eq_getElem?, show (L m 1).length - 1 = (T 256 0 m - 1).toNat by omega]; exact hx24.1
        have hyn : x ≠ x24 := fun e => hxn (by rw [e]; exact List.mem_of_getLast? hyl)
        refine j_blx (F := fX11) tb_X11 (nn_ _) bk_X11_putBehind_e_64 bs_X11_putBehind_e_64 hz (fun K hK => ?_)
        refine iy_i (by omega) (by omega) ?_
        refine x_nm (fun U25 hU25 => ?_)
        have e26 := up_f hU25
        refine hK 90 _ [] U25 ?_
        refine j_blx (F := fX11) tb_X11 (nn_ _) bk_X11_putBehind_e_90 bs_X11_putBehind_e_90 hz (fun K hK => ?_)
        refine ix_i (by omega) ?_
        intro b27 b27b
        have e28 : U25 256 0 m = T 256 0 m := (up_k hU25 (by exact Nat.ne_of_beq_eq_false rfl) 0 m).trans (up_k hU3 (by exact Nat.ne_of_beq_eq_false rfl) 0 m)
        rw [e28] at b27 b27b ⊢
        refine And.intro (fun c29 => ?_) (fun c29 => ?_)
        · exact absurd c29 (by decide)
        · refine hK 106 _ [vI 1, vI (T 256 0 m), vI m, vR 256 0] U25 ?_
          refine j_blx (F := fX11) tb_X11 (nn_ _) bk_X11_putBehind_e_106 bs_X11_putBehind_e_106 hz (fun K hK => ?_)
          refine rg_i (by omega) ?_
          refine iy_i (by omega) (by omega) ?_
          refine x_nm (fun U30 hU30 => ?_)
          have e31 := up_f hU30
          refine ix_i (by omega) ?_
          intro b32 b32b
          have e33 : U30 254 0 m = T 254 0 m := (up_k hU30 (by exact Nat.ne_of_beq_eq_false rfl) 0 m).trans ((up_k hU25 (by exact Nat.ne_of_beq_eq_false rfl) 0 m).trans (up_k hU3 (by exact Nat.ne_of_beq_eq_false rfl) 0 m))
          rw [e33] at b32 b32b ⊢
          refine And.intro (fun c34 => ?_) (fun c34 => ?_)
          · exact absurd c34 (by decide)
          · refine hK 124 _ [vI 0, vI (T 254 0 m), vI m, vR 254 0] U30 ?_
            refine j_blx (F := fX11) tb_X11 (nn_ _) bk_X11_putBehind_e_124 bs_X11_putBehind_e_124 hz (fun K hK => ?_)
            refine rg_i (by omega) ?_
            refine iy_i (by omega) (by omega) ?_
            refine x_nm (fun U35 hU35 => ?_)
            have e36 := up_f hU35
            refine (show po_X11_putBehind_1_e T rest m x U35 (none) from ?_)
            have e37 : U35 254 0 m = (T 254 0 m) + 0 := up_f hU35
            have e38 : U35 256 0 m = (T 256 0 m) + 1 := (up_k hU35 (by exact Nat.ne_of_beq_eq_false rfl) 0 m).trans (up_f hU30)
            have fz : fr_ [(254, []), (256, []), (252, [])] T U35 := fr_u (fr_u (fr_u (fr_u (fr_0 _ _) hU3 rfl) hU25 rfl) hU30 rfl) hU35 rfl
            have eo : ∀ j, U35 254 0 j = T 254 0 j := fun j => by
              by_cases z : j = m
              · rw [z, up_f hU35]; omega
              · exact (up_g hU35 (fun q => z q.2.2)).trans ((up_k hU30 (by exact Nat.ne_of_beq_eq_false rfl) 0 j).trans ((up_k hU25 (by exact Nat.ne_of_beq_eq_false rfl) 0 j).trans (up_k hU3 (by exact Nat.ne_of_beq_eq_false rfl) 0 j)))
            have ek : U35 256 0 m = T 256 0 m + 1 := by
              rw [up_k hU35 (by exact Nat.ne_of_beq_eq_false rfl) 0 m, up_f hU30]
            have e3 : U35 252 0 x = -1 := ((up_k hU35 (by exact Nat.ne_of_beq_eq_false rfl) 0 x).trans ((up_k hU30 (by exact Nat.ne_of_beq_eq_false rfl) 0 x).trans (up_g hU25 (fun q => hyn q.2.2)))).trans (up_f hU3)
            have ef : ∀ m' b', 0 ≤ b' → b' ≤ 1 → ¬ (m' = m ∧ b' = 1) → U35 (kf_ b') 0 m' = T (kf_ b') 0 m' ∧ U35 (km_ b') 0 m' = T (km_ b') 0 m' := by
              intro m' b' a c n
              rcases (by omega : b' = 0 ∨ b' = 1) with z | z
              · subst z; exact ⟨(up_k hU35 (by exact Nat.ne_of_beq_eq_false rfl) 0 (m')).trans ((up_k hU30 (by exact Nat.ne_of_beq_eq_false rfl) 0 (m')).trans ((up_k hU25 (by exact Nat.ne_of_beq_eq_false rfl) 0 (m')).trans (up_k hU3 (by exact Nat.ne_of_beq_eq_false rfl) 0 (m')))), eo m'⟩
              · subst z; exact ⟨(up_k hU35 (by exact Nat.ne_of_beq_eq_false rfl) 0 (m')).trans ((up_k hU30 (by exact Nat.ne_of_beq_eq_false rfl) 0 (m')).trans ((up_k hU25 (by exact Nat.ne_of_beq_eq_false rfl) 0 (m')).trans (up_k hU3 (by exact Nat.ne_of_beq_eq_false rfl) 0 (m')))), (up_k hU35 (by exact Nat.ne_of_beq_eq_false rfl) 0 (m')).trans ((up_g hU30 (fun q => n ⟨q.2.2, rfl⟩)).trans ((up_k hU25 (by exact Nat.ne_of_beq_eq_false rfl) 0 (m')).trans (up_k hU3 (by exact Nat.ne_of_beq_eq_false rfl) 0 (m'))))⟩
            have hrp := rb_put (b := 1) (by decide) h1 hb_47.2 hB hR (fz 111 0 29 rfl) (fz 111 0 47 rfl) ef ek e3 (Or.inr ⟨fz 255 0 m rfl, x24, hyl, ((up_k hU35 (by exact Nat.ne_of_beq_eq_false rfl) 0 x24).trans (up_k hU30 (by exact Nat.ne_of_beq_eq_false rfl) 0 x24)).trans (up_f hU25), fun z a b => (up_k hU35 (by exact Nat.ne_of_beq_eq_false rfl) 0 z).trans ((up_k hU30 (by exact Nat.ne_of_beq_eq_false rfl) 0 z).trans ((up_g hU25 (fun q => b q.2.2)).trans (up_g hU3 (fun q => a q.2.2))))⟩)
            have hrn : 0 ≤ T 254 0 m ∧ T 254 0 m ≤ 3000 := bd_a hT 254 (by decide +kernel : ta_ 254 = some (1, some 400, 0, 3000)) 0 (by omega)
            have rwa := rw_a hB hrp.1 (fz 111 0 29 rfl) (cl_k (fun k j h => fz k 0 j (by rcases h with rfl | rfl | rfl | rfl <;> rfl)))
            exact ⟨rfl, fr_s fz rfl, ⟨_, hrp.1, hrp.2.1⟩, hrp.2.2, by rw [eo m]; omega, fun j _ => eo j, by rw [eo m]; omega, fun j hj => (up_k hU35 (by exact Nat.ne_of_beq_eq_false rfl) 0 j).trans ((up_g hU30 (fun q => hj q.2.2)).trans ((up_k hU25 (by exact Nat.ne_of_beq_eq_false rfl) 0 j).trans (up_k hU3 (by exact Nat.ne_of_beq_eq_false rfl) 0 j))), ek, rwa m h1.1 h1.2, fun j _ j0 j1 => rwa j j0 j1⟩
theorem bk_X11_event_e_0 : ck_ fX11 (some .int) cX11_event 0 [.iload 1, .aload 0, .tableswitch 0 11 29 #[]] 5 = true := qck_r (nn_ _) (by decide +kernel)
theorem bs_X11_event_e_0 {P : Zt → Option Zv → Prop} (K : Int → Zl → List Zv → Zt → Prop) : sx_ K P [.iload 1, .aload 0, .tableswitch 0 11 29 #[]] 5 = x_iload 1 (x_aload 0 (x_g0 111 29 0 400 (K 5))) := ((xe_iload 1).trans (congrArg (x_iload 1) ((xe_aload 0).trans (congrArg (x_aload 0) ((xe_g0 (kk := 111) rfl tl_11_29).trans (congrArg (x_g0 111 29 0 400) xe_nil))))))
theorem bk_X11_event_e_8 : ck_ fX11 (some .int) cX11_event 8 [.ifCond .ne 14, .iconst (-2), .ireturn] 14 = true := qck_r (nn_ _) (by decide +kernel)
theorem bs_X11_event_e_8 {P : Zt → Option Zv → Prop} (K : Int → Zl → List Zv → Zt → Prop) : sx_ K P [.ifCond .ne 14, .iconst (-2), .ireturn] 14 = x_ifCond .ne 14 K (x_iconst (-2) (x_ireturn P)) := ((xe_ifCond .ne 14).trans (congrArg (x_ifCond .ne 14 K) ((xe_iconst (-2)).trans (congrArg (x_iconst (-2)) (xe_ireturn)))))
theorem bk_X11_event_e_14 : ck_ fX11 (some .int) cX11_event 14 [.aload 0, .iload 1, .iload 2, .iload 3, .iload 4, .iload 5] 22 = true := qck_r (nn_ _) (by decide +kernel)
theorem bs_X11_event_e_14 {P : Zt → Option Zv → Prop} (K : Int → Zl → List Zv → Zt → Prop) : sx_ K P [.aload 0, .iload 1, .iload 2, .iload 3, .iload 4, .iload 5] 22 = x_aload 0 (x_iload 1 (x_iload 2 (x_iload 3 (x_iload 4 (x_iload 5 (K 22)))))) := ((xe_aload 0).trans (congrArg (x_aload 0) ((xe_iload 1).trans (congrArg (x_iload 1) ((xe_iload 2).trans (congrArg (x_iload 2) ((xe_iload 3).trans (congrArg (x_iload 3) ((xe_iload 4).trans (congrArg (x_iload 4) ((xe_iload 5).trans (congrArg (x_iload 5) xe_nil))))))))))))
theorem bk_X11_event_e_25 : ck_ fX11 (some .int) cX11_event 25 [.istore 6, .iload 6, .ifCond .eq 38, .iconst (-10), .iload 6, .isub, .ireturn] 38 = true := qck_r (nn_ _) (by decide +kernel)
theorem bs_X11_event_e_25 {P : Zt → Option Zv → Prop} (K : Int → Zl → List Zv → Zt → Prop) : sx_ K P [.istore 6, .iload 6, .ifCond .eq 38, .iconst (-10), .iload 6, .isub, .ireturn] 38 = x_istore 6 (x_iload 6 (x_ifCond .eq 38 K (x_iconst (-10) (x_iload 6 (x_isub (x_ireturn P)))))) := ((xe_istore 6).trans (congrArg (x_istore 6) ((xe_iload 6).trans (congrArg (x_iload 6) ((xe_ifCond .eq 38).trans (congrArg (x_ifCond .eq 38 K) ((xe_iconst (-10)).trans (congrArg (x_iconst (-10)) ((xe_iload 6).trans (congrArg (x_iload 6) ((xe_isub).trans (congrArg (x_isub) (xe_ireturn)))))))))))))
theorem bk_X11_event_e_38 : ck_ fX11 (some .int) cX11_event 38 [.aload 0, .tableswitch 0 11 47 #[], .iconst 3000, .if_icmp .ne 51, .iconst (-5), .ireturn] 51 = true := qck_r (nn_ _) (by decide +kernel)
theorem bs_X11_event_e_38 {P : Zt → Option Zv → Prop} (K : Int → Zl → List Zv → Zt → Prop) : sx_ K P [.aload 0, .tableswitch 0 11 47 #[], .iconst 3000, .if_icmp .ne 51, .iconst (-5), .ireturn] 51 = x_aload 0 (x_g0 111 47 0 3000 (x_iconst 3000 (x_if_icmp .ne 51 K (x_iconst (-5) (x_ireturn P))))) := ((xe_aload 0).trans (congrArg (x_aload 0) ((xe_g0 (kk := 111) rfl tl_11_47).trans (congrArg (x_g0 111 47 0 3000) ((xe_iconst 3000).trans (congrArg (x_iconst 3000) ((xe_if_icmp .ne 51).trans (congrArg (x_if_icmp .ne 51 K) ((xe_iconst (-5)).trans (congrArg (x_iconst (-5)) (xe_ireturn)))))))))))
theorem bk_X11_event_e_51 : ck_ fX11 (some .int) cX11_event 51 [.aload 0, .tableswitch 0 11 47 #[], .istore 7, .aload 0, .dup, .tableswitch 0 11 47 #[], .iconst 1, .iadd, .tableswitch 1 11 47 #[], .aload 0, .tableswitch 0 11 48 #[], .iload 7, .iload 2, .iastore, .aload 0, .tableswitch 0 11 49 #[], .iload 7, .iload 3, .iastore, .aload 0, .tableswitch 0 11 50 #[], .iload 7, .iload 4, .iastore, .aload 0, .tableswitch 0 11 51 #[], .iload 7, .iload 5, .iastore, .aload 0, .iload 1, .iload 7, .iconst 0] 106 = true := qck_r (nn_ _) (by decide +kernel)
theorem bs_X11_event_e_51 {P : Zt → Option Zv → Prop} (K : Int → Zl → List Zv → Zt → Prop) : sx_ K P [.aload 0, .tableswitch 0 11 47 #[], .istore 7, .aload 0, .dup, .tableswitch 0 11 47 #[], .iconst 1, .iadd, .tableswitch 1 11 47 #[], .aload 0, .tableswitch 0 11 48 #[], .iload 7, .iload 2, .iastore, .aload 0, .tableswitch 0 11 49 #[], .iload 7, .iload 3, .iastore, .aload 0, .tableswitch 0 11 50 #[], .iload 7, .iload 4, .iastore, .aload 0, .tableswitch 0 11 51 #[], .iload 7, .iload 5, .iastore, .aload 0, .iload 1, .iload 7, .iconst 0] 106 = x_aload 0 (x_g0 111 47 0 3000 (x_istore 7 (x_aload 0 (x_dup (x_g0 111 47 0 3000 (x_iconst 1 (x_iadd (x_p 111 47 0 3000 (x_aload 0 (x_g1 111 248 (x_iload 7 (x_iload 2 (x_iastore (x_aload 0 (x_g1 111 249 (x_iload 7 (x_iload 3 (x_iastore (x_aload 0 (x_g1 111 250 (x_iload 7 (x_iload 4 (x_iastore (x_aload 0 (x_g1 111 251 (x_iload 7 (x_iload 5 (x_iastore (x_aload 0 (x_iload 1 (x_iload 7 (x_iconst 0 (K 106))))))))))))))))))))))))))))))))) := ((xe_aload 0).trans (congrArg (x_aload 0) ((xe_g0 (kk := 111) rfl tl_11_47).trans (congrArg (x_g0 111 47 0 3000) ((xe_istore 7).trans (congrArg (x_istore 7) ((xe_aload 0).trans (congrArg (x_aload 0) ((xe_dup).trans (congrArg (x_dup) ((xe_g0 (kk := 111) rfl tl_11_47).trans (congrArg (x_g0 111 47 0 3000) ((xe_iconst 1).trans (congrArg (x_iconst 1) ((xe_iadd).trans (congrArg (x_iadd) ((xe_p (kk := 111) rfl tl_11_47).trans (congrArg (x_p 111 47 0 3000) ((xe_aload 0).trans (congrArg (x_aload 0) ((xe_g1 (kk := 111) rfl tl_11_48).trans (congrArg (x_g1 111 248) ((xe_iload 7).trans (congrArg (x_iload 7) ((xe_iload 2).trans (congrArg (x_iload 2) ((xe_iastore).trans (congrArg (x_iastore) ((xe_aload 0).trans (congrArg (x_aload 0) ((xe_g1 (kk := 111) rfl tl_11_49).trans (congrArg (x_g1 111 249) ((xe_iload 7).trans (congrArg (x_iload 7) ((xe_iload 3).trans (congrArg (x_iload 3) ((xe_iastore).trans (congrArg (x_iastore) ((xe_aload 0).trans (congrArg (x_aload 0) ((xe_g1 (kk := 111) rfl tl_11_50).trans (congrArg (x_g1 111 250) ((xe_iload 7).trans (congrArg (x_iload 7) ((xe_iload 4).trans (congrArg (x_iload 4) ((xe_iastore).trans (congrArg (x_iastore) ((xe_aload 0).trans (congrArg (x_aload 0) ((xe_g1 (kk := 111) rfl tl_11_51).trans (congrArg (x_g1 111 251) ((xe_iload 7).trans (congrArg (x_iload 7) ((xe_iload 5).trans (congrArg (x_iload 5) ((xe_iastore).trans (congrArg (x_iastore) ((xe_aload 0).trans (congrArg (x_aload 0) ((xe_iload 1).trans (congrArg (x_iload 1) ((xe_iload 7).trans (congrArg (x_iload 7) ((xe_iconst 0).trans (congrArg (x_iconst 0) xe_nil))))))))))))))))))))))))))))))))))))))))))))))))))))))))))))))))))
theorem bk_X11_event_e_109 : ck_ fX11 (some .int) cX11_event 109 [.aload 0, .iload 1, .iload 2, .iload 3, .iload 4, .iload 5] 117 = true := qck_r (nn_ _) (by decide +kernel)
theorem bs_X11_event_e_109 {P : Zt → Option Zv → Prop} (K : Int → Zl → List Zv → Zt → Prop) : sx_ K P [.aload 0, .iload 1, .iload 2, .iload 3, .iload 4, .iload 5] 117 = x_aload 0 (x_iload 1 (x_iload 2 (x_iload 3 (x_iload 4 (x_iload 5 (K 117)))))) := ((xe_aload 0).trans (congrArg (x_aload 0) ((xe_iload 1).trans (congrArg (x_iload 1) ((xe_iload 2).trans (congrArg (x_iload 2) ((xe_iload 3).trans (congrArg (x_iload 3) ((xe_iload 4).trans (congrArg (x_iload 4) ((xe_iload 5).trans (congrArg (x_iload 5) xe_nil))))))))))))
theorem bk_X11_event_e_120 : ck_ fX11 (some .int) cX11_event 120 [.aload 0, .tableswitch 0 11 54 #[], .iload 1, .iaload, .ireturn] 127 = true := qck_r (nn_ _) (by decide +kernel)
theorem bs_X11_event_e_120 {P : Zt → Option Zv → Prop} (K : Int → Zl → List Zv → Zt → Prop) : sx_ K P [.aload 0, .tableswitch 0 11 54 #[], .iload 1, .iaload, .ireturn] 127 = x_aload 0 (x_g1 111 254 (x_iload 1 (x_iaload (x_ireturn P)))) := ((xe_aload 0).trans (congrArg (x_aload 0) ((xe_g1 (kk := 111) rfl tl_11_54).trans (congrArg (x_g1 111 254) ((xe_iload 1).trans (congrArg (x_iload 1) ((xe_iaload).trans (congrArg (x_iaload) (xe_ireturn)))))))))
abbrev po_X11_event_e (T : Zt) (ru : Int → Int) (m k s p q : Int) : Zt → Option Zv → Prop := fun T' r => ∃ x : Int, r = some (vI x) ∧ fr_ [(111, [47]), (248, []), (249, []), (250, []), (251, []), (252, []), (253, []), (254, []), (256, []), (244, []), (241, []), (242, []), (243, []), (245, []), (246, []), (236, []), (237, []), (235, [])] T T' ∧ (FM_ T' ∧ RX_ T' [] ∧ ZS_ T' ∧ GX_ T' (-1) ∧ (∀ j, j ≠ m ∨ T 111 0 29 ≤ j → T' 254 0 j = T 254 0 j ∧ T' 256 0 j = T 256 0 j) ∧ ((x = -2 ∧ ¬ (0 ≤ m ∧ m < T 111 0 29) ∧ T = T') ∨ ((0 ≤ m ∧ m < T 111 0 29) ∧ ((lwR_ ru (rp9_ T m) k s p q ≠ 0 ∧ x = -10 - lwR_ ru (rp9_ T m) k s p q ∧ T = T') ∨ (lwR_ ru (rp9_ T m) k s p q = 0 ∧ T 111 0 47 = 3000 ∧ x = -5 ∧ T = T') ∨ (lwR_ ru (rp9_ T m) k s p q = 0 ∧ T 111 0 47 ≠ 3000 ∧ T' 111 0 47 = T 111 0 47 + 1 ∧ rp9_ T' m = plR_ ru (rp9_ T m) m k s p q ∧ rw9_ T' m = rw9_ T m ++ [(k, s, p, q)] ∧ x = T' 254 0 m ∧ T' 256 0 m = T 256 0 m ∧ OMR_ T T' m)))))
set_option maxHeartbeats 4000000 in
theorem ct_X11_event_e {T : Zt} {ru : Int → Int} {m k s p q : Int} (hmc : MC_ T) (hri : RI_ T) (hfm : FM_ T) (hrx : RX_ T []) (hzs : ZS_ T) (hgs : GX_ T (-1)) (hrl : RLR_ T m ru) : Ct_ yX11_event zX11_event T [vR 111 0, vI m, vI k, vI s, vI p, vI q] (po_X11_event_e T ru m k s p q) := by
  refine ct_of pn_11 rfl rfl (Nat.le_of_ble_eq_true rfl) (fun hT hav => ?_)
  have hr_m : -2147483648 ≤ m ∧ m ≤ 2147483647 := hav (vI m) (List.mem_cons_of_mem _ List.mem_cons_self)
  have hr_k : -2147483648 ≤ k ∧ k ≤ 2147483647 := hav (vI k) (List.mem_cons_of_mem _ (List.mem_cons_of_mem _ List.mem_cons_self))
  have hr_s : -2147483648 ≤ s ∧ s ≤ 2147483647 := hav (vI s) (List.mem_cons_of_mem _ (List.mem_cons_of_mem _ (List.mem_cons_of_mem _ List.mem_cons_self)))
  have hr_p : -2147483648 ≤ p ∧ p ≤ 2147483647 := hav (vI p) (List.mem_cons_of_mem _ (List.mem_cons_of_mem _ (List.mem_cons_of_mem _ (List.mem_cons_of_mem _ List.mem_cons_self))))
  have hr_q : -2147483648 ≤ q ∧ q ≤ 2147483647 := hav (vI q) (List.mem_cons_of_mem _ (List.mem_cons_of_mem _ (List.mem_cons_of_mem _ (List.mem_cons_of_mem _ (List.mem_cons_of_mem _ List.mem_cons_self)))))
  have hz : zX11_event.2.2.2.1 = some .boolean → ∀ (T' : Zt) (x : Int), po_X11_event_e T ru m k s p q T' (some (vI x)) → 0 ≤ x ∧ x ≤ 1 := fun h => by cases h
  have hb_29 : 0 ≤ T 111 0 29 ∧ T 111 0 29 ≤ 400 := bd_f hT 111 29 tl_11_29 0
  have hb_6 : 0 ≤ T 111 0 6 ∧ T 111 0 6 ≤ 4 := bd_f hT 111 6 tl_11_6 0
  have hb_47 : 0 ≤ T 111 0 47 ∧ T 111 0 47 ≤ 3000 := bd_f hT 111 47 tl_11_47 0
  show J_ zX11_event T (po_X11_event_e T ru m k s p q) 0 0 0 [some (vR 111 0), some (vI m), some (vI k), some (vI s), some (vI p), some (vI q), none, none] [] T
  refine j_blx (F := fX11) tb_X11 (nn_ _) bk_X11_event_e_0 bs_X11_event_e_0 hz (fun K hK => ?_)
  intro b1 b1b
  refine hK 5 _ [vI (T 111 0 29), vI m] T ?_
  refine j_callS (y := yX11_isOf) (Yc := zX11_isOf) (rest := []) [vI m, vI (T 111 0 29)] (ct_X11_isOf (T := T) (by omega)) cl_X11_317 (qd_c (by decide +kernel)) (nn_ _) rfl (rf_of rfl) (Nat.le_of_ble_eq_true rfl) (Nat.le_of_ble_eq_true rfl) (Nat.le_of_ble_eq_true rfl) rfl ?_
  rintro _ _ ⟨rfl, x2, rfl, hx2⟩
  show J_ zX11_event T (po_X11_event_e T ru m k s p q) 0 0 8 _ [vI x2] T
  refine j_blx (F := fX11) tb_X11 (nn_ _) bk_X11_event_e_8 bs_X11_event_e_8 hz (fun K hK => ?_)
  refine And.intro (fun c3 => ?_) (fun c3 => ?_)
  · replace hx2 := hx2.resolve_right (fun z => c3 z.1)
    clear c3
    refine hK 14 _ [] T ?_
    refine j_blx (F := fX11) tb_X11 (nn_ _) bk_X11_event_e_14 bs_X11_event_e_14 hz (fun K hK => ?_)
    refine hK 22 _ [vI q, vI p, vI s, vI k, vI m, vR 111 0] T ?_
    refine j_callV (y := yX11_lawOf) (Yc := zX11_lawOf) (rest := []) [vI m, vI k, vI s, vI p, vI q] (ct_X11_lawOf_e (T := T) (ru := ru) (by omega) (hrl)) cl_X11_459 (qd_c (by decide +kernel)) (nn_ _) rfl (rf_of rfl) (Nat.le_of_ble_eq_true rfl) (Nat.le_of_ble_eq_true rfl) (Nat.le_of_ble_eq_true rfl) rfl ?_
    rintro _ _ ⟨rfl, x4, rfl, hx4b, hx4, hx4e⟩
    show J_ zX11_event T (po_X11_event_e T ru m k s p q) 0 0 25 _ [vI x4] T
    refine j_blx (F := fX11) tb_X11 (nn_ _) bk_X11_event_e_25 bs_X11_event_e_25 hz (fun K hK => ?_)
    refine And.intro (fun c5 => ?_) (fun c5 => ?_)
    · have hlw := hx4 (by omega)
      refine hK 38 [some (vR 111 0), some (vI m), some (vI k), some (vI s), some (vI p), some (vI q), some (vI x4), none] [] T ?_
      refine j_blx (F := fX11) tb_X11 (nn_ _) bk_X11_event_e_38 bs_X11_event_e_38 hz (fun K hK => ?_)
      intro b6 b6b
      refine And.intro (fun c7 => ?_) (fun c7 => ?_)
      · refine hK 51 _ [] T ?_
        refine j_blx (F := fX11) tb_X11 (nn_ _) bk_X11_event_e_51 bs_X11_event_e_51 hz (fun K hK => ?_)
        intro b8 b8b
        intro b9 b9b
        refine rg_i (by omega) ?_
        refine bd_i (by omega) ?_
        refine x_nm (fun U10 hU10 => ?_)
        have e11 := up_f hU10
        refine iy_i (by omega) (by omega) ?_
        refine x_nm (fun U12 hU12 => ?_)
        have e13 := up_f hU12
        refine iy_i (by omega) (by omega) ?_
        refine x_nm (fun U14 hU14 => ?_)
        have e15 := up_f hU14
        refine iy_i (by omega) (by omega) ?_
        refine x_nm (fun U16 hU16 => ?_)
        have e17 := up_f hU16
        refine iy_i (by omega) (by omega) ?_
        refine x_nm (fun U18 hU18 => ?_)
        have e19 := up_f hU18
        refine hK 106 [some (vR 111 0), some (vI m), some (vI k), some (vI s), some (vI p), some (vI q), some (vI x4), some (vI (T 111 0 47))] [vI 0, vI (T 111 0 47), vI m, vR 111 0] U18 ?_
        have fz : fr_ [(251, []), (250, []), (249, []), (248, []), (111, [47])] T U18 := fr_u (fr_u (fr_u (fr_u (fr_u (fr_0 _ _) hU10 rfl) hU12 rfl) hU14 rfl) hU16 rfl) hU18 rfl
        have hrn : 0 ≤ T 254 0 m ∧ T 254 0 m ≤ 3000 := bd_a hT 254 (by decide +kernel : ta_ 254 = some (1, some 400, 0, 3000)) 0 (by omega)
        have hsb : SB1_ T m (4 * T 254 0 m + 9) := hgs m (by omega) (by omega) (by omega)
        have e20 : U18 111 0 47 = (T 111 0 47) + 1 := (up_k hU18 (by exact Nat.ne_of_beq_eq_false rfl) 0 47).trans ((up_k hU16 (by exact Nat.ne_of_beq_eq_false rfl) 0 47).trans ((up_k hU14 (by exact Nat.ne_of_beq_eq_false rfl) 0 47).trans ((up_k hU12 (by exact Nat.ne_of_beq_eq_false rfl) 0 47).trans (up_f hU10))))
        have hry := hrx
        obtain ⟨L, hB, hR⟩ := hry
        have rbn := rb_new hB (by omega) (fz 111 0 29 rfl) (by omega) (fun k j h => fz k 0 j (by rcases h with rfl | rfl | rfl | rfl | rfl <;> rfl))
        have hnw : ∀ m' b', T 111 0 47 ∉ L m' b' := fun m' b' z => by have := hB.2.1 m' b' _ z; omega
        have rwx := rw_x hB rbn.1 (fz 111 0 29 rfl) (fun k y h n => by rcases h with rfl | rfl | rfl | rfl; exact (up_k hU18 (by exact Nat.ne_of_beq_eq_false rfl) 0 y).trans ((up_k hU16 (by exact Nat.ne_of_beq_eq_false rfl) 0 y).trans ((up_k hU14 (by exact Nat.ne_of_beq_eq_false rfl) 0 y).trans ((up_g hU12 (fun z => n z.2.2)).trans (up_k hU10 (by exact Nat.ne_of_beq_eq_false rfl) 0 y)))); exact (up_k hU18 (by exact Nat.ne_of_beq_eq_false rfl) 0 y).trans ((up_k hU16 (by exact Nat.ne_of_beq_eq_false rfl) 0 y).trans ((up_g hU14 (fun z => n z.2.2)).trans ((up_k hU12 (by exact Nat.ne_of_beq_eq_false rfl) 0 y).trans (up_k hU10 (by exact Nat.ne_of_beq_eq_false rfl) 0 y)))); exact (up_k hU18 (by exact Nat.ne_of_beq_eq_false rfl) 0 y).trans ((up_g hU16 (fun z => n z.2.2)).trans ((up_k hU14 (by exact Nat.ne_of_beq_eq_false rfl) 0 y).trans ((up_k hU12 (by exact Nat.ne_of_beq_eq_false rfl) 0 y).trans (up_k hU10 (by exact Nat.ne_of_beq_eq_false rfl) 0 y)))); exact (up_g hU18 (fun z => n z.2.2)).trans ((up_k hU16 (by exact Nat.ne_of_beq_eq_false rfl) 0 y).trans ((up_k hU14 (by exact Nat.ne_of_beq_eq_false rfl) 0 y).trans ((up_k hU12 (by exact Nat.ne_of_beq_eq_false rfl) 0 y).trans (up_k hU10 (by exact Nat.ne_of_beq_eq_false rfl) 0 y))))) hnw
        have rcx : rwc_ U18 (T 111 0 47) = (k, s, p, q) := by
          unfold rwc_
          rw [show U18 248 0 (T 111 0 47) = k from ((up_k hU18 (by exact Nat.ne_of_beq_eq_false rfl) 0 (T 111 0 47)).trans ((up_k hU16 (by exact Nat.ne_of_beq_eq_false rfl) 0 (T 111 0 47)).trans (up_k hU14 (by exact Nat.ne_of_beq_eq_false rfl) 0 (T 111 0 47)))).trans (up_f hU12), show U18 249 0 (T 111 0 47) = s from ((up_k hU18 (by exact Nat.ne_of_beq_eq_false rfl) 0 (T 111 0 47)).trans (up_k hU16 (by exact Nat.ne_of_beq_eq_false rfl) 0 (T 111 0 47))).trans (up_f hU14), show U18 250 0 (T 111 0 47) = p from (up_k hU18 (by exact Nat.ne_of_beq_eq_false rfl) 0 (T 111 0 47)).trans (up_f hU16), show U18 251 0 (T 111 0 47) = q from up_f hU18]
        have e21 : U18 111 0 29 = T 111 0 29 := (up_k hU18 (by exact Nat.ne_of_beq_eq_false rfl) 0 29).trans ((up_k hU16 (by exact Nat.ne_of_beq_eq_false rfl) 0 29).trans ((up_k hU14 (by exact Nat.ne_of_beq_eq_false rfl) 0 29).trans ((up_k hU12 (by exact Nat.ne_of_beq_eq_false rfl) 0 29).trans (up_j hU10 (by decide) 111 0))))
        have e22 : U18 111 0 47 = (T 111 0 47) + 1 := (up_k hU18 (by exact Nat.ne_of_beq_eq_false rfl) 0 47).trans ((up_k hU16 (by exact Nat.ne_of_beq_eq_false rfl) 0 47).trans ((up_k hU14 (by exact Nat.ne_of_beq_eq_false rfl) 0 47).trans ((up_k hU12 (by exact Nat.ne_of_beq_eq_false rfl) 0 47).trans (up_f hU10))))
        refine j_callV (y := yX11_putBehind) (Yc := zX11_putBehind) (rest := []) [vI m, vI (T 111 0 47), vI 0] (ct_X11_putBehind_0_e (T := U18) (rest := []) (by omega) (⟨L, rbn.1, rbn.2⟩)) cl_X11_466 (qd_c (by decide +kernel)) (nn_ _) rfl (rf_of rfl) (Nat.le_of_ble_eq_true rfl) (Nat.le_of_ble_eq_true rfl) (Nat.le_of_ble_eq_true rfl) rfl ?_
        rintro U23 _ ⟨rfl, fU23, qU23a, qU23b, qU23c, qU23d, qU23e, qU23g, qU23m, qU23r, qU23s⟩
        show J_ zX11_event T (po_X11_event_e T ru m k s p q) 0 0 109 _ [] U23
        refine j_blx (F := fX11) tb_X11 (nn_ _) bk_X11_event_e_109 bs_X11_event_e_109 hz (fun K hK => ?_)
        refine hK 117 _ [vI q, vI p, vI s, vI k, vI m, vR 111 0] U23 ?_
        have e24 : U23 111 0 29 = T 111 0 29 := (fU23 111 0 29 rfl).trans ((up_k hU18 (by exact Nat.ne_of_beq_eq_false rfl) 0 29).trans ((up_k hU16 (by exact Nat.ne_of_beq_eq_false rfl) 0 29).trans ((up_k hU14 (by exact Nat.ne_of_beq_eq_false rfl) 0 29).trans ((up_k hU12 (by exact Nat.ne_of_beq_eq_false rfl) 0 29).trans (up_j hU10 (by decide) 111 0)))))
        have fy : fr_ [(252, []), (253, []), (254, []), (256, []), (251, []), (250, []), (249, []), (248, []), (111, [47])] T U23 := fr_t (fr_u (fr_u (fr_u (fr_u (fr_u (fr_0 _ _) hU10 rfl) hU12 rfl) hU14 rfl) hU16 rfl) hU18 rfl) (fr_s fU23 rfl)
        refine j_callV (y := yX11_play) (Yc := zX11_play) (rest := []) [vI m, vI k, vI s, vI p, vI q] (ct_X11_play_e (T := U23) (ru := ru) (bu := 4 * T 254 0 m + 9) (by omega) (by exact MC__f (ws := [(252, []), (253, []), (254, []), (256, []), (251, []), (250, []), (249, []), (248, []), (111, [47])]) hmc (fr_t (fr_u (fr_u (fr_u (fr_u (fr_u (fr_0 _ _) hU10 rfl) hU12 rfl) hU14 rfl) hU16 rfl) hU18 rfl) (fr_s fU23 rfl)) ⟨fun _ => rfl, rfl, rfl, trivial⟩) (by exact RI__f (ws := [(252, []), (253, []), (254, []), (256, []), (251, []), (250, []), (249, []), (248, []), (111, [47])]) hri (fr_t (fr_u (fr_u (fr_u (fr_u (fr_u (fr_0 _ _) hU10 rfl) hU12 rfl) hU14 rfl) hU16 rfl) hU18 rfl) (fr_s fU23 rfl)) ⟨fun _ => rfl, rfl, trivial⟩) (by exact FM__f (ws := [(252, []), (253, []), (254, []), (256, [])]) (FM__f (ws := [(251, [])]) (FM__f (ws := [(250, [])]) (FM__f (ws := [(249, [])]) (FM__f (ws := [(248, [])]) (FM__f (ws := [(111, [])]) (hfm) (fr_u (fr_0 _ _) hU10 rfl) ⟨fun _ => rfl, fun _ => rfl, trivial⟩) (fr_u (fr_0 _ _) hU12 rfl) ⟨fun _ => rfl, fun _ => rfl, trivial⟩) (fr_u (fr_0 _ _) hU14 rfl) ⟨fun _ => rfl, fun _ => rfl, trivial⟩) (fr_u (fr_0 _ _) hU16 rfl) ⟨fun _ => rfl, fun _ => rfl, trivial⟩) (fr_u (fr_0 _ _) hU18 rfl) ⟨fun _ => rfl, fun _ => rfl, trivial⟩) fU23 ⟨fun _ => rfl, fun _ => rfl, trivial⟩) (by exact LW_f hlw (fun k j h => fy k 0 j (by rcases h with rfl | rfl | rfl | rfl | rfl <;> rfl))) (rlr_f (ws := [(252, []), (253, []), (254, []), (256, []), (251, []), (250, []), (249, []), (248, []), (111, [47])]) hrl (fr_t (fr_u (fr_u (fr_u (fr_u (fr_u (fr_0 _ _) hU10 rfl) hU12 rfl) hU14 rfl) hU16 rfl) hU18 rfl) (fr_s fU23 rfl)) (fun _ => rfl) (fun _ => rfl)) (by omega) (sb1_f (ws := [(252, []), (253, []), (254, []), (256, [])]) (sb1_f (ws := [(251, [])]) (sb1_f (ws := [(250, [])]) (sb1_f (ws := [(249, [])]) (sb1_f (ws := [(248, [])]) (sb1_f (ws := [(111, [])]) (hsb) (fr_u (fr_0 _ _) hU10 rfl) ⟨fun _ => rfl, fun _ => rfl, fun _ => rfl⟩) (fr_u (fr_0 _ _) hU12 rfl) ⟨fun _ => rfl, fun _ => rfl, fun _ => rfl⟩) (fr_u (fr_0 _ _) hU14 rfl) ⟨fun _ => rfl, fun _ => rfl, fun _ => rfl⟩) (fr_u (fr_0 _ _) hU16 rfl) ⟨fun _ => rfl, fun _ => rfl, fun _ => rfl⟩) (fr_u (fr_0 _ _) hU18 rfl) ⟨fun _ => rfl, fun _ => rfl, fun _ => rfl⟩) fU23 ⟨fun _ => rfl, fun _ => rfl, fun _ => rfl⟩)) cl_X11_470 (qd_c (by decide +kernel)) (nn_ _) rfl (rf_of rfl) (Nat.le_of_ble_eq_true rfl) (Nat.le_of_ble_eq_true rfl) (Nat.le_of_ble_eq_true rfl) rfl ?_
        rintro U25 _ ⟨rfl, fU25, ⟨qU25, qU25o, qU25b, qU25p, qU25e⟩⟩
        show J_ zX11_event T (po_X11_event_e T ru m k s p q) 0 0 120 _ [] U25
        refine j_blx (F := fX11) tb_X11 (nn_ _) bk_X11_event_e_120 bs_X11_event_e_120 hz (fun K hK => ?_)
        refine ix_i (by omega) ?_
        intro b26 b26b
        have e27 : U25 254 0 m = U23 254 0 m := fU25 254 0 m rfl
        rw [e27] at b26 b26b ⊢
        refine (show po_X11_event_e T ru m k s p q U25 (some (vI (U23 254 0 m))) from ?_)
        have e28 : U25 111 0 47 = (T 111 0 47) + 1 := (fU25 111 0 47 rfl).trans ((fU23 111 0 47 rfl).trans ((up_k hU18 (by exact Nat.ne_of_beq_eq_false rfl) 0 47).trans ((up_k hU16 (by exact Nat.ne_of_beq_eq_false rfl) 0 47).trans ((up_k hU14 (by exact Nat.ne_of_beq_eq_false rfl) 0 47).trans ((up_k hU12 (by exact Nat.ne_of_beq_eq_false rfl) 0 47).trans (up_f hU10))))))
        have e29 : U25 254 0 m = U23 254 0 m := fU25 254 0 m rfl
        have e30 : U25 256 0 m = U23 256 0 m := fU25 256 0 m rfl
        have fw : fr_ [(244, []), (241, []), (242, []), (243, []), (245, []), (246, []), (236, []), (237, []), (235, []), (252, []), (253, []), (254, []), (256, []), (251, []), (250, []), (249, []), (248, []), (111, [47])] T U25 := fr_t (fr_t (fr_u (fr_u (fr_u (fr_u (fr_u (fr_0 _ _) hU10 rfl) hU12 rfl) hU14 rfl) hU16 rfl) hU18 rfl) (fr_s fU23 rfl)) (fr_s fU25 rfl)
        have so5 : SO_ T U25 m := so_t (so_f (ws := [(252, []), (253, []), (254, []), (256, [])]) (so_f (ws := [(251, [])]) (so_f (ws := [(250, [])]) (so_f (ws := [(249, [])]) (so_f (ws := [(248, [])]) (so_f (ws := [(111, [])]) (so_r) (fr_u (fr_0 _ _) hU10 rfl) ⟨fun _ => rfl, fun _ => rfl, fun _ => rfl⟩) (fr_u (fr_0 _ _) hU12 rfl) ⟨fun _ => rfl, fun _ => rfl, fun _ => rfl⟩) (fr_u (fr_0 _ _) hU14 rfl) ⟨fun _ => rfl, fun _ => rfl, fun _ => rfl⟩) (fr_u (fr_0 _ _) hU16 rfl) ⟨fun _ => rfl, fun _ => rfl, fun _ => rfl⟩) (fr_u (fr_0 _ _) hU18 rfl) ⟨fun _ => rfl, fun _ => rfl, fun _ => rfl⟩) fU23 ⟨fun _ => rfl, fun _ => rfl, fun _ => rfl⟩) qU25o (fun j => (fU23 239 0 j rfl).trans ((up_k hU18 (by exact Nat.ne_of_beq_eq_false rfl) 0 j).trans ((up_k hU16 (by exact Nat.ne_of_beq_eq_false rfl) 0 j).trans ((up_k hU14 (by exact Nat.ne_of_beq_eq_false rfl) 0 j).trans ((up_k hU12 (by exact Nat.ne_of_beq_eq_false rfl) 0 j).trans (up_k hU10 (by exact Nat.ne_of_beq_eq_false rfl) 0 j))))))
        have er : ∀ j, U25 254 0 j = U23 254 0 j := fun j => fU25 254 0 j rfl
        have ep : ∀ j, U18 254 0 j = T 254 0 j := fun j => (up_k hU18 (by exact Nat.ne_of_beq_eq_false rfl) 0 j).trans ((up_k hU16 (by exact Nat.ne_of_beq_eq_false rfl) 0 j).trans ((up_k hU14 (by exact Nat.ne_of_beq_eq_false rfl) 0 j).trans ((up_k hU12 (by exact Nat.ne_of_beq_eq_false rfl) 0 j).trans (up_k hU10 (by exact Nat.ne_of_beq_eq_false rfl) 0 j))))
        have e1 : U25 254 0 m = T 254 0 m + 1 := by rw [er, qU23c, ep]
        have k9 : ∀ j, T 111 0 29 ≤ j ∨ j ≠ m → j ≠ m := fun j z => by omega
        have u1 : rp9_ U23 m = rp9_ T m := by rw [rp_x (T := U18) (T1 := U23) (m := m) (fun K j h => fU23 K 0 j (by rcases h with rfl | rfl | rfl | rfl | rfl | rfl | rfl | rfl | rfl | rfl | rfl <;> rfl)), rp_x (T := T) (T1 := U18) (m := m) (fun K j h => fz K 0 j (by rcases h with rfl | rfl | rfl | rfl | rfl | rfl | rfl | rfl | rfl | rfl | rfl <;> rfl))]
        have u2 : rp9_ U25 m = plR_ ru (rp9_ T m) m k s p q := by rw [qU25e, u1]
        have u3 : rw9_ U25 m = rw9_ T m ++ [(k, s, p, q)] := by rw [show rw9_ U25 m = rw9_ U23 m from rw_k (fun k x h => fU25 k 0 x (by rcases h with rfl | rfl | rfl | rfl <;> rfl)) (fun x => fU25 252 0 x rfl) (fU25 253 0 _ rfl) (fU25 254 0 _ rfl), qU23r, rwx m (by omega) (by omega), rcx]
        have u4 : OMR_ T U25 m := ⟨ro_t (rp_xo (fun K j h => (fU23 K 0 j (by rcases h with rfl | rfl | rfl | rfl | rfl | rfl | rfl | rfl | rfl | rfl | rfl <;> rfl)).trans (fz K 0 j (by rcases h with rfl | rfl | rfl | rfl | rfl | rfl | rfl | rfl | rfl | rfl | rfl <;> rfl)))) qU25p, fun j hj j0 j1 => ⟨(rw_k (fun k x h => fU25 k 0 x (by rcases h with rfl | rfl | rfl | rfl <;> rfl)) (fun x => fU25 252 0 x rfl) (fU25 253 0 _ rfl) (fU25 254 0 _ rfl)).trans ((qU23s j hj j0 (by omega)).trans (rwx j j0 j1)), (er j).trans ((qU23d j hj).trans (ep j)), (fU25 256 0 j rfl).trans ((qU23g j hj).trans ((up_k hU18 (by exact Nat.ne_of_beq_eq_false rfl) 0 j).trans ((up_k hU16 (by exact Nat.ne_of_beq_eq_false rfl) 0 j).trans ((up_k hU14 (by exact Nat.ne_of_beq_eq_false rfl) 0 j).trans ((up_k hU12 (by exact Nat.ne_of_beq_eq_false rfl) 0 j).trans (up_k hU10 (by exact Nat.ne_of_beq_eq_false rfl) 0 j))))))⟩⟩
        have u5 : U25 256 0 m = T 256 0 m := by rw [fU25 256 0 m rfl, qU23m, (up_k hU18 (by exact Nat.ne_of_beq_eq_false rfl) 0 m).trans ((up_k hU16 (by exact Nat.ne_of_beq_eq_false rfl) 0 m).trans ((up_k hU14 (by exact Nat.ne_of_beq_eq_false rfl) 0 m).trans ((up_k hU12 (by exact Nat.ne_of_beq_eq_false rfl) 0 m).trans (up_k hU10 (by exact Nat.ne_of_beq_eq_false rfl) 0 m))))]; omega
        have e31 : U25 111 0 47 = (T 111 0 47) + 1 := (fU25 111 0 47 rfl).trans ((fU23 111 0 47 rfl).trans ((up_k hU18 (by exact Nat.ne_of_beq_eq_false rfl) 0 47).trans ((up_k hU16 (by exact Nat.ne_of_beq_eq_false rfl) 0 47).trans ((up_k hU14 (by exact Nat.ne_of_beq_eq_false rfl) 0 47).trans ((up_k hU12 (by exact Nat.ne_of_beq_eq_false rfl) 0 47).trans (up_f hU10))))))
        exact ⟨_, rfl, fr_t (fr_t (fr_u (fr_u (fr_u (fr_u (fr_u (fr_0 _ _) hU10 rfl) hU12 rfl) hU14 rfl) hU16 rfl) hU18 rfl) (fr_s fU23 rfl)) (fr_s fU25 rfl), qU25, rx_f (qU23a) (fU25 111 0 29 rfl) (fU25 111 0 47 rfl) (fun k j h => fU25 k 0 j (by rcases h with rfl | rfl | rfl | rfl | rfl <;> rfl)), zs_o hzs so5 (fun j => fw 239 0 j rfl), gx_o (gx_x hgs) so5 (sb1_m (qU25b) (by omega)) (fun j hj => (er j).trans ((qU23d j hj).trans (ep j))), fun j hk => (fun (hj : j ≠ m) => ⟨(er j).trans ((qU23d j hj).trans (ep j)), (fU25 256 0 j rfl).trans ((qU23g j hj).trans ((up_k hU18 (by exact Nat.ne_of_beq_eq_false rfl) 0 j).trans ((up_k hU16 (by exact Nat.ne_of_beq_eq_false rfl) 0 j).trans ((up_k hU14 (by exact Nat.ne_of_beq_eq_false rfl) 0 j).trans ((up_k hU12 (by exact Nat.ne_of_beq_eq_false rfl) 0 j).trans (up_k hU10 (by exact Nat.ne_of_beq_eq_false rfl) 0 j))))))⟩) (by omega), Or.inr ⟨by omega, Or.inr (Or.inr ⟨by omega, by omega, by omega, u2, u3, (fU25 254 0 m rfl).symm, u5, u4⟩)⟩⟩
      · refine (show po_X11_event_e T ru m k s p q T (some (vI (-5))) from ?_)
        exact ⟨_, rfl, fr_0 _ _, hfm, hrx, hzs, hgs, fun _ _ => ⟨rfl, rfl⟩, Or.inr ⟨by omega, Or.inr (Or.inl ⟨by omega, by omega, rfl, rfl⟩)⟩⟩
    · refine rg_i (by omega) ?_
      refine (show po_X11_event_e T ru m k s p q T (some (vI ((-10) - x4))) from ?_)
      exact ⟨_, rfl, fr_0 _ _, hfm, hrx, hzs, hgs, fun _ _ => ⟨rfl, rfl⟩, Or.inr ⟨by omega, Or.inl ⟨by omega, by omega, rfl⟩⟩⟩
  · replace hx2 := hx2.resolve_left (fun z => absurd (c3.symm.trans z.1) (by decide))
    clear c3
    refine (show po_X11_event_e T ru m k s p q T (some (vI (-2))) from ?_)
    exact ⟨_, rfl, fr_0 _ _, hfm, hrx, hzs, hgs, fun _ _ => ⟨rfl, rfl⟩, Or.inl ⟨rfl, by omega, rfl⟩⟩
theorem bk_X11_playAnew_e_28 : ck_ fX11 (some .int) cX11_playAnew 28 [.iload 2, .iconst (-1), .if_icmp .eq 149, .aload 0, .tableswitch 0 11 52 #[], .iload 2, .iaload, .istore 4, .aload 0, .iload 1, .aload 0, .tableswitch 0 11 48 #[], .iload 2, .iaload, .aload 0, .tableswitch 0 11 49 #[], .iload 2, .iaload, .aload 0, .tableswitch 0 11 50 #[], .iload 2, .iaload, .aload 0, .tableswitch 0 11 51 #[], .iload 2, .iaload] 67 = true := qck_r (nn_ _) (by decide +kernel)
theorem bs_X11_playAnew_e_28 {P : Zt → Option Zv → Prop} (K : Int → Zl → List Zv → Zt → Prop) : sx_ K P [.iload 2, .iconst (-1), .if_icmp .eq 149, .aload 0, .tableswitch 0 11 52 #[], .iload 2, .iaload, .istore 4, .aload 0, .iload 1, .aload 0, .tableswitch 0 11 48 #[], .iload 2, .iaload, .aload 0, .tableswitch 0 11 49 #[], .iload 2, .iaload, .aload 0, .tableswitch 0 11 50 #[], .iload 2, .iaload, .aload 0, .tableswitch 0 11 51 #[], .iload 2, .iaload] 67 = x_iload 2 (x_iconst (-1) (x_if_icmp .eq 149 K (x_aload 0 (x_g1 111 252 (x_iload 2 (x_iaload (x_istore 4 (x_aload 0 (x_iload 1 (x_aload 0 (x_g1 111 248 (x_iload 2 (x_iaload (x_aload 0 (x_g1 111 249 (x_iload 2 (x_iaload (x_aload 0 (x_g1 111 250 (x_iload 2 (x_iaload (x_aload 0 (x_g1 111 251 (x_iload 2 (x_iaload (K 67)))))))))))))))))))))))))) := ((xe_iload 2).trans (congrArg (x_iload 2) ((xe_iconst (-1)).trans (congrArg (x_iconst (-1)) ((xe_if_icmp .eq 149).trans (congrArg (x_if_icmp .eq 149 K) ((xe_aload 0).trans (congrArg (x_aload 0) ((xe_g1 (kk := 111) rfl tl_11_52).trans (congrArg (x_g1 111 252) ((xe_iload 2).trans (congrArg (x_iload 2) ((xe_iaload).trans (congrArg (x_iaload) ((xe_istore 4).trans (congrArg (x_istore 4) ((xe_aload 0).trans (congrArg (x_aload 0) ((xe_iload 1).trans (congrArg (x_iload 1) ((xe_aload 0).trans (congrArg (x_aload 0) ((xe_g1 (kk := 111) rfl tl_11_48).trans (congrArg (x_g1 111 248) ((xe_iload 2).trans (congrArg (x_iload 2) ((xe_iaload).trans (congrArg (x_iaload) ((xe_aload 0).trans (congrArg (x_aload 0) ((xe_g1 (kk := 111) rfl tl_11_49).trans (congrArg (x_g1 111 249) ((xe_iload 2).trans (congrArg (x_iload 2) ((xe_iaload).trans (congrArg (x_iaload) ((xe_aload 0).trans (congrArg (x_aload 0) ((xe_g1 (kk := 111) rfl tl_11_50).trans (congrArg (x_g1 111 250) ((xe_iload 2).trans (congrArg (x_iload 2) ((xe_iaload).trans (congrArg (x_iaload) ((xe_aload 0).trans (congrArg (x_aload 0) ((xe_g1 (kk := 111) rfl tl_11_51).trans (congrArg (x_g1 111 251) ((xe_iload 2).trans (congrArg (x_iload 2) ((xe_iaload).trans (congrArg (x_iaload) xe_nil))))))))))))))))))))))))))))))))))))))))))))))))))))
theorem bk_X11_playAnew_e_149 : ck_ fX11 (some .int) cX11_playAnew 149 [.iload 3, .ireturn] 151 = true := qck_r (nn_ _) (by decide +kernel)
theorem bs_X11_playAnew_e_149 {P : Zt → Option Zv → Prop} (K : Int → Zl → List Zv → Zt → Prop) : sx_ K P [.iload 3, .ireturn] 151 = x_iload 3 (x_ireturn P) := ((xe_iload 3).trans (congrArg (x_iload 3) (xe_ireturn)))
theorem bk_X11_playAnew_e_70 : ck_ fX11 (some .int) cX11_playAnew 70 [.ifCond .ne 77, .iconst 1, .goto 78] 77 = true := qck_r (nn_ _) (by decide +kernel)
theorem bs_X11_playAnew_e_70 {P : Zt → Option Zv → Prop} (K : Int → Zl → List Zv → Zt → Prop) : sx_ K P [.ifCond .ne 77, .iconst 1, .goto 78] 77 = x_ifCond .ne 77 K (x_iconst 1 (x_goto 78 K)) := ((xe_ifCond .ne 77).trans (congrArg (x_ifCond .ne 77 K) ((xe_iconst 1).trans (congrArg (x_iconst 1) (xe_goto 78)))))
theorem bk_X11_playAnew_e_77 : ck_ fX11 (some .int) cX11_playAnew 77 [.iconst 0, .istore 5, .aload 0, .iload 1, .iload 2, .iload 5, .ifCond .ne 92, .iconst 1, .goto 93] 92 = true := qck_r (nn_ _) (by decide +kernel)
theorem bs_X11_playAnew_e_77 {P : Zt → Option Zv → Prop} (K : Int → Zl → List Zv → Zt → Prop) : sx_ K P [.iconst 0, .istore 5, .aload 0, .iload 1, .iload 2, .iload 5, .ifCond .ne 92, .iconst 1, .goto 93] 92 = x_iconst 0 (x_istore 5 (x_aload 0 (x_iload 1 (x_iload 2 (x_iload 5 (x_ifCond .ne 92 K (x_iconst 1 (x_goto 93 K)))))))) := ((xe_iconst 0).trans (congrArg (x_iconst 0) ((xe_istore 5).trans (congrArg (x_istore 5) ((xe_aload 0).trans (congrArg (x_aload 0) ((xe_iload 1).trans (congrArg (x_iload 1) ((xe_iload 2).trans (congrArg (x_iload 2) ((xe_iload 5).trans (congrArg (x_iload 5) ((xe_ifCond .ne 92).trans (congrArg (x_ifCond .ne 92 K) ((xe_iconst 1).trans (congrArg (x_iconst 1) (xe_goto 93)))))))))))))))))
theorem bk_X11_playAnew_e_96 : ck_ fX11 (some .int) cX11_playAnew 96 [.iload 5, .ifCond .eq 130, .aload 0, .iload 1, .aload 0, .tableswitch 0 11 48 #[], .iload 2, .iaload, .aload 0, .tableswitch 0 11 49 #[], .iload 2, .iaload, .aload 0, .tableswitch 0 11 50 #[], .iload 2, .iaload, .aload 0, .tableswitch 0 11 51 #[], .iload 2, .iaload] 127 = true := qck_r (nn_ _) (by decide +kernel)
theorem bs_X11_playAnew_e_96 {P : Zt → Option Zv → Prop} (K : Int → Zl → List Zv → Zt → Prop) : sx_ K P [.iload 5, .ifCond .eq 130, .aload 0, .iload 1, .aload 0, .tableswitch 0 11 48 #[], .iload 2, .iaload, .aload 0, .tableswitch 0 11 49 #[], .iload 2, .iaload, .aload 0, .tableswitch 0 11 50 #[], .iload 2, .iaload, .aload 0, .tableswitch 0 11 51 #[], .iload 2, .iaload] 127 = x_iload 5 (x_ifCond .eq 130 K (x_aload 0 (x_iload 1 (x_aload 0 (x_g1 111 248 (x_iload 2 (x_iaload (x_aload 0 (x_g1 111 249 (x_iload 2 (x_iaload (x_aload 0 (x_g1 111 250 (x_iload 2 (x_iaload (x_aload 0 (x_g1 111 251 (x_iload 2 (x_iaload (K 127)))))))))))))))))))) := ((xe_iload 5).trans (congrArg (x_iload 5) ((xe_ifCond .eq 130).trans (congrArg (x_ifCond .eq 130 K) ((xe_aload 0).trans (congrArg (x_aload 0) ((xe_iload 1).trans (congrArg (x_iload 1) ((xe_aload 0).trans (congrArg (x_aload 0) ((xe_g1 (kk := 111) rfl tl_11_48).trans (congrArg (x_g1 111 248) ((xe_iload 2).trans (congrArg (x_iload 2) ((xe_iaload).trans (congrArg (x_iaload) ((xe_aload 0).trans (congrArg (x_aload 0) ((xe_g1 (kk := 111) rfl tl_11_49).trans (congrArg (x_g1 111 249) ((xe_iload 2).trans (congrArg (x_iload 2) ((xe_iaload).trans (congrArg (x_iaload) ((xe_aload 0).trans (congrArg (x_aload 0) ((xe_g1 (kk := 111) rfl tl_11_50).trans (congrArg (x_g1 111 250) ((xe_iload 2).trans (congrArg (x_iload 2) ((xe_iaload).trans (congrArg (x_iaload) ((xe_aload 0).trans (congrArg (x_aload 0) ((xe_g1 (kk := 111) rfl tl_11_51).trans (congrArg (x_g1 111 251) ((xe_iload 2).trans (congrArg (x_iload 2) ((xe_iaload).trans (congrArg (x_iaload) xe_nil))))))))))))))))))))))))))))))))))))))))
theorem bk_X11_playAnew_e_130 : ck_ fX11 (some .int) cX11_playAnew 130 [.iload 3, .iload 5, .ifCond .eq 140, .iconst 0, .goto 141] 140 = true := qck_r (nn_ _) (by decide +kernel)
theorem bs_X11_playAnew_e_130 {P : Zt → Option Zv → Prop} (K : Int → Zl → List Zv → Zt → Prop) : sx_ K P [.iload 3, .iload 5, .ifCond .eq 140, .iconst 0, .goto 141] 140 = x_iload 3 (x_iload 5 (x_ifCond .eq 140 K (x_iconst 0 (x_goto 141 K)))) := ((xe_iload 3).trans (congrArg (x_iload 3) ((xe_iload 5).trans (congrArg (x_iload 5) ((xe_ifCond .eq 140).trans (congrArg (x_ifCond .eq 140 K) ((xe_iconst 0).trans (congrArg (x_iconst 0) (xe_goto 141)))))))))
theorem bk_X11_playAnew_e_140 : ck_ fX11 (some .int) cX11_playAnew 140 [.iconst 1, .iadd, .istore 3, .iload 4, .istore 2, .goto 28] 149 = true := qck_r (nn_ _) (by decide +kernel)
theorem bs_X11_playAnew_e_140 {P : Zt → Option Zv → Prop} (K : Int → Zl → List Zv → Zt → Prop) : sx_ K P [.iconst 1, .iadd, .istore 3, .iload 4, .istore 2, .goto 28] 149 = x_iconst 1 (x_iadd (x_istore 3 (x_iload 4 (x_istore 2 (x_goto 28 K))))) := ((xe_iconst 1).trans (congrArg (x_iconst 1) ((xe_iadd).trans (congrArg (x_iadd) ((xe_istore 3).trans (congrArg (x_istore 3) ((xe_iload 4).trans (congrArg (x_iload 4) ((xe_istore 2).trans (congrArg (x_istore 2) (xe_goto 28)))))))))))
theorem bk_X11_playAnew_e_78 : ck_ fX11 (some .int) cX11_playAnew 78 [.istore 5, .aload 0, .iload 1, .iload 2, .iload 5, .ifCond .ne 92, .iconst 1, .goto 93] 92 = true := qck_r (nn_ _) (by decide +kernel)
theorem bs_X11_playAnew_e_78 {P : Zt → Option Zv → Prop} (K : Int → Zl → List Zv → Zt → Prop) : sx_ K P [.istore 5, .aload 0, .iload 1, .iload 2, .iload 5, .ifCond .ne 92, .iconst 1, .goto 93] 92 = x_istore 5 (x_aload 0 (x_iload 1 (x_iload 2 (x_iload 5 (x_ifCond .ne 92 K (x_iconst 1 (x_goto 93 K))))))) := ((xe_istore 5).trans (congrArg (x_istore 5) ((xe_aload 0).trans (congrArg (x_aload 0) ((xe_iload 1).trans (congrArg (x_iload 1) ((xe_iload 2).trans (congrArg (x_iload 2) ((xe_iload 5).trans (congrArg (x_iload 5) ((xe_ifCond .ne 92).trans (congrArg (x_ifCond .ne 92 K) ((xe_iconst 1).trans (congrArg (x_iconst 1) (xe_goto 93)))))))))))))))
theorem bk_X11_playAnew_e_92 : ck_ fX11 (some .int) cX11_playAnew 92 [.iconst 0] 93 = true := qck_r (nn_ _) (by decide +kernel)
theorem bs_X11_playAnew_e_92 {P : Zt → Option Zv → Prop} (K : Int → Zl → List Zv → Zt → Prop) : sx_ K P [.iconst 0] 93 = x_iconst 0 (K 93) := ((xe_iconst 0).trans (congrArg (x_iconst 0) xe_nil))
theorem bk_X11_playAnew_e_141 : ck_ fX11 (some .int) cX11_playAnew 141 [.iadd, .istore 3, .iload 4, .istore 2, .goto 28] 149 = true := qck_r (nn_ _) (by decide +kernel)
theorem bs_X11_playAnew_e_141 {P : Zt → Option Zv → Prop} (K : Int → Zl → List Zv → Zt → Prop) : sx_ K P [.iadd, .istore 3, .iload 4, .istore 2, .goto 28] 149 = x_iadd (x_istore 3 (x_iload 4 (x_istore 2 (x_goto 28 K)))) := ((xe_iadd).trans (congrArg (x_iadd) ((xe_istore 3).trans (congrArg (x_istore 3) ((xe_iload 4).trans (congrArg (x_iload 4) ((xe_istore 2).trans (congrArg (x_istore 2) (xe_goto 28)))))))))
theorem bk_X11_playAnew_e_0 : ck_ fX11 (some .int) cX11_playAnew 0 [.aload 0, .tableswitch 0 11 53 #[], .iload 1, .iaload, .istore 2, .aload 0, .tableswitch 0 11 53 #[], .iload 1, .iconst (-1), .iastore, .aload 0, .tableswitch 0 11 54 #[], .iload 1, .iconst 0, .iastore, .iconst 0, .istore 3, .aload 0, .iload 1] 25 = true := qck_r (nn_ _) (by decide +kernel)
theorem bs_X11_playAnew_e_0 {P : Zt → Option Zv → Prop} (K : Int → Zl → List Zv → Zt → Prop) : sx_ K P [.aload 0, .tableswitch 0 11 53 #[], .iload 1, .iaload, .istore 2, .aload 0, .tableswitch 0 11 53 #[], .iload 1, .iconst (-1), .iastore, .aload 0, .tableswitch 0 11 54 #[], .iload 1, .iconst 0, .iastore, .iconst 0, .istore 3, .aload 0, .iload 1] 25 = x_aload 0 (x_g1 111 253 (x_iload 1 (x_iaload (x_istore 2 (x_aload 0 (x_g1 111 253 (x_iload 1 (x_iconst (-1) (x_iastore (x_aload 0 (x_g1 111 254 (x_iload 1 (x_iconst 0 (x_iastore (x_iconst 0 (x_istore 3 (x_aload 0 (x_iload 1 (K 25))))))))))))))))))) := ((xe_aload 0).trans (congrArg (x_aload 0) ((xe_g1 (kk := 111) rfl tl_11_53).trans (congrArg (x_g1 111 253) ((xe_iload 1).trans (congrArg (x_iload 1) ((xe_iaload).trans (congrArg (x_iaload) ((xe_istore 2).trans (congrArg (x_istore 2) ((xe_aload 0).trans (congrArg (x_aload 0) ((xe_g1 (kk := 111) rfl tl_11_53).trans (congrArg (x_g1 111 253) ((xe_iload 1).trans (congrArg (x_iload 1) ((xe_iconst (-1)).trans (congrArg (x_iconst (-1)) ((xe_iastore).trans (congrArg (x_iastore) ((xe_aload 0).trans (congrArg (x_aload 0) ((xe_g1 (kk := 111) rfl tl_11_54).trans (congrArg (x_g1 111 254) ((xe_iload 1).trans (congrArg (x_iload 1) ((xe_iconst 0).trans (congrArg (x_iconst 0) ((xe_iastore).trans (congrArg (x_iastore) ((xe_iconst 0).trans (congrArg (x_iconst 0) ((xe_istore 3).trans (congrArg (x_istore 3) ((xe_aload 0).trans (congrArg (x_aload 0) ((xe_iload 1).trans (congrArg (x_iload 1) xe_nil))))))))))))))))))))))))))))))))))))))
abbrev po_X11_playAnew_e (T : Zt) (ru : Int → Int) (m : Int) : Zt → Option Zv → Prop := fun T' r => ∃ x : Int, r = some (vI x) ∧ fr_ [(252, []), (253, []), (255, []), (254, []), (256, []), (244, []), (241, []), (242, []), (243, []), (245, []), (246, []), (236, []), (237, []), (235, [])] T T' ∧ (FM_ T' ∧ RX_ T' [] ∧ ZS_ T' ∧ GX_ T' (-1) ∧ (∀ j, j ≠ m → T' 254 0 j = T 254 0 j ∧ T' 256 0 j = T 256 0 j) ∧ RNR_ ru m x T T' (rw9_ T m) ∧ OMR_ T T' m)
set_option maxHeartbeats 4000000 in
theorem ct_X11_playAnew_e {T : Zt} {ru : Int → Int} {m : Int} (h1 : 0 ≤ m ∧ m < T 111 0 29) (hmc : MC_ T) (hri : RI_ T) (hfm : FM_ T) (hrx : RX_ T []) (hzs : ZS_ T) (hgx : GX_ T m) (hrl : RLR_ T m ru) : Ct_ yX11_playAnew zX11_playAnew T [vR 111 0, vI m] (po_X11_playAnew_e T ru m) := by
  refine ct_of pn_11 rfl rfl (Nat.le_of_ble_eq_true rfl) (fun hT hav => ?_)
  have hr_m : -2147483648 ≤ m ∧ m ≤ 2147483647 := hav (vI m) (List.mem_cons_of_mem _ List.mem_cons_self)
  have hz : zX11_playAnew.2.2.2.1 = some .boolean → ∀ (T' : Zt) (x : Int), po_X11_playAnew_e T ru m T' (some (vI x)) → 0 ≤ x ∧ x ≤ 1 := fun h => by cases h
  have hb_29 : 0 ≤ T 111 0 29 ∧ T 111 0 29 ≤ 400 := bd_f hT 111 29 tl_11_29 0
  have hb_6 : 0 ≤ T 111 0 6 ∧ T 111 0 6 ≤ 4 := bd_f hT 111 6 tl_11_6 0
  have hcm := hmc m (by omega) (by omega)
  have hcb : 0 ≤ T 230 0 m ∧ T 230 0 m ≤ 3 := bd_a hT 230 (by decide +kernel : ta_ 230 = some (1, some 400, 0, 3)) 0 (by omega)
  have hr9 : (1 : Int) ≤ T 205 0 (23 * T 230 0 m + 9) ∧ T 205 0 (23 * T 230 0 m + 9) ≤ (6 : Int) := hri (T 230 0 m) 9 (by omega) (by omega) (by omega) (by omega)
  show J_ zX11_playAnew T (po_X11_playAnew_e T ru m) 0 0 0 [some (vR 111 0), some (vI m), none, none, none, none] [] T
  have c_28 : ∀ (nn : Nat) (w : Int) (cn : Int) (l : List Int) (d : List Rw_) (b0 : Sg_) (T1 : Zt), (l.length) ≤ nn → (fr_ [(252, []), (253, []), (255, []), (254, []), (256, []), (244, []), (241, []), (242, []), (243, []), (245, []), (246, []), (236, []), (237, []), (235, [])] T T1) → (FM_ T1) → (RX_ T1 l) → (lk_ T1 w l) → (SO_ T T1 m) → (0 ≤ T1 254 0 m ∧ T1 254 0 m ≤ 3000) → (SB1_ T1 m (4 * T1 254 0 m + 9)) → (∀ j, j ≠ m → T1 254 0 j = T 254 0 j) → (∀ j, j ≠ m → T1 256 0 j = T 256 0 j) → (0 ≤ cn ∧ cn + (l.length : Int) ≤ 3000) → (rw9_ T m = d ++ l.map (rwc_ T)) → (BGR_ m ru (rp9_ T m) b0) → (rp9_ T1 m = (rnR_ ru m b0 d).1) → (rw9_ T1 m = (rnR_ ru m b0 d).2.1) → (cn = (rnR_ ru m b0 d).2.2) → (T1 256 0 m = T 256 0 m + cn) → (∀ j, j ≠ m → 0 ≤ j → j < T 111 0 29 → rw9_ T1 j = rw9_ T j) → (ro9_ T T1 m) → J_ zX11_playAnew T (po_X11_playAnew_e T ru m) 0 0 28 [some (vR 111 0), some (vI m), some (vI w), some (vI cn), none, none] [] T1 := by
    intro nn
    induction nn using Nat.strongRecOn with
    | _ nn ih_28 =>
      intro w cn l d b0 T1 hm_28 hf_28 fm1 rx1 lk1 so1 rm1 sb1 ro1 ao1 cb1 ed1 bg1 fo1 fo2 fo3 am1 ot1 rq1
      replace hm_28 := fun (_ : Unit) => hm_28
      refine j_blx (F := fX11) tb_X11 (nn_ _) bk_X11_playAnew_e_28 bs_X11_playAnew_e_28 hz (fun K hK => ?_)
      refine And.intro (fun c1 => ?_) (fun c1 => ?_)
      · refine hK 149 _ [] T1 ?_
        refine j_blx (F := fX11) tb_X11 (nn_ _) bk_X11_playAnew_e_149 bs_X11_playAnew_e_149 hz (fun K hK => ?_)
        refine (show po_X11_playAnew_e T ru m T1 (some (vI cn)) from ?_)
        have el : l = [] := by
          cases l with
          | nil => rfl
          | cons y t => exact absurd lk1.1 (by have := lk1.2.1; omega)
        rw [el] at ed1
        have ed2 : rw9_ T m = d := by rw [ed1]; exact List.append_nil d
        rw [← ed2] at fo1 fo2 fo3
        exact ⟨_, rfl, fr_t (fr_0 _ _) (fr_s hf_28 rfl), fm1, rx_nil rx1, zs_o hzs so1 (fun j => hf_28 239 0 j rfl), gx_o hgx so1 sb1 ro1, fun j hj => ⟨ro1 j hj, ao1 j hj⟩, ⟨b0, bg1, fo1, fo2, fo3, am1⟩, rq1, fun j hj j0 j1 => ⟨ot1 j hj j0 j1, ro1 j hj, ao1 j hj⟩⟩
      · obtain ⟨lt, el, hw, hlt⟩ := lk_c lk1 (by omega)
        subst el
        rw [List.length_cons] at cb1
        rw [List.map_cons] at ed1
        refine ix_i (by omega) ?_
        intro b2 b2b
        refine ix_i (by omega) ?_
        intro b3 b3b
        have e4 : T1 248 0 w = T 248 0 w := hf_28 248 0 w rfl
        rw [e4] at b3 b3b ⊢
        refine ix_i (by omega) ?_
        intro b5 b5b
        have e6 : T1 249 0 w = T 249 0 w := hf_28 249 0 w rfl
        rw [e6] at b5 b5b ⊢
        refine ix_i (by omega) ?_
        intro b7 b7b
        have e8 : T1 250 0 w = T 250 0 w := hf_28 250 0 w rfl
        rw [e8] at b7 b7b ⊢
        refine ix_i (by omega) ?_
        intro b9 b9b
        have e10 : T1 251 0 w = T 251 0 w := hf_28 251 0 w rfl
        rw [e10] at b9 b9b ⊢
        refine hK 67 [some (vR 111 0), some (vI m), some (vI w), some (vI cn), some (vI (T1 252 0 w)), none] [vI (T 251 0 w), vI (T 250 0 w), vI (T 249 0 w), vI (T 248 0 w), vI m, vR 111 0] T1 ?_
        refine j_callV (y := yX11_lawOf) (Yc := zX11_lawOf) (rest := []) [vI m, vI (T 248 0 w), vI (T 249 0 w), vI (T 250 0 w), vI (T 251 0 w)] (ct_X11_lawOf_e (T := T1) (ru := ru) (by omega) (rlr_f (ws := [(252, []), (253, []), (255, []), (254, []), (256, []), (244, []), (241, []), (242, []), (243, []), (245, []), (246, []), (236, []), (237, []), (235, [])]) hrl (fr_t (fr_0 _ _) (fr_s hf_28 rfl)) (fun _ => rfl) (fun _ => rfl))) cl_X11_459 (qd_c (by decide +kernel)) (nn_ _) rfl (rf_of rfl) (Nat.le_of_ble_eq_true rfl) (Nat.le_of_ble_eq_true rfl) (Nat.le_of_ble_eq_true rfl) rfl ?_
        rintro _ _ ⟨rfl, x11, rfl, hx11b, hx11, hx11e⟩
        show J_ zX11_playAnew T (po_X11_playAnew_e T ru m) 0 0 70 _ [vI x11] T1
        refine j_blx (F := fX11) tb_X11 (nn_ _) bk_X11_playAnew_e_70 bs_X11_playAnew_e_70 hz (fun K hK => ?_)
        refine And.intro (fun c12 => ?_) (fun c12 => ?_)
        · refine hK 77 _ [] T1 ?_
          refine j_blx (F := fX11) tb_X11 (nn_ _) bk_X11_playAnew_e_77 bs_X11_playAnew_e_77 hz (fun K hK => ?_)
          refine And.intro (fun c13 => ?_) (fun c13 => ?_)
          · exact absurd c13 (by decide)
          · refine hK 93 [some (vR 111 0), some (vI m), some (vI w), some (vI cn), some (vI (T1 252 0 w)), some (vI 0)] [vI 1, vI w, vI m, vR 111 0] T1 ?_
            have e14 : T1 111 0 29 = T 111 0 29 := hf_28 111 0 29 rfl
            refine j_callV (y := yX11_putBehind) (Yc := zX11_putBehind) (rest := []) [vI m, vI w, vI 1] (ct_X11_putBehind_1_e (T := T1) (rest := lt) (by omega) (rx1)) cl_X11_466 (qd_c (by decide +kernel)) (nn_ _) rfl (rf_of rfl) (Nat.le_of_ble_eq_true rfl) (Nat.le_of_ble_eq_true rfl) (Nat.le_of_ble_eq_true rfl) rfl ?_
            rintro U15 _ ⟨rfl, fU15, qU15a, qU15b, qU15c, qU15d, qU15e, qU15g, qU15m, qU15r, qU15s⟩
            show J_ zX11_playAnew T (po_X11_playAnew_e T ru m) 0 0 96 _ [] U15
            refine j_blx (F := fX11) tb_X11 (nn_ _) bk_X11_playAnew_e_96 bs_X11_playAnew_e_96 hz (fun K hK => ?_)
            refine And.intro (fun c16 => ?_) (fun c16 => ?_)
            · refine hK 130 _ [] U15 ?_
              refine j_blx (F := fX11) tb_X11 (nn_ _) bk_X11_playAnew_e_130 bs_X11_playAnew_e_130 hz (fun K hK => ?_)
              refine And.intro (fun c17 => ?_) (fun c17 => ?_)
              · refine hK 140 _ [vI cn] U15 ?_
                refine j_blx (F := fX11) tb_X11 (nn_ _) bk_X11_playAnew_e_140 bs_X11_playAnew_e_140 hz (fun K hK => ?_)
                refine rg_i (by omega) ?_
                refine hK 28 [some (vR 111 0), some (vI m), some (vI (T1 252 0 w)), some (vI (cn + 1)), some (vI (T1 252 0 w)), some (vI 0)] [] U15 ?_
                have ec1 : rwc_ T1 = rwc_ T := cl_k (fun k j h => hf_28 k 0 j (by rcases h with rfl | rfl | rfl | rfl <;> rfl))
                have en2 : rnR_ ru m b0 (d ++ [rwc_ T w]) = ((rnR_ ru m b0 d).1, (rnR_ ru m b0 d).2.1, (rnR_ ru m b0 d).2.2 + 1) := by
                  rw [rnR_a]
                  show stR_ ru m (rnR_ ru m b0 d) (T 248 0 w, T 249 0 w, T 250 0 w, T 251 0 w) = _
                  exact stR_f (by rw [← fo1]; omega)
                have fa : rp9_ U15 m = (rnR_ ru m b0 (d ++ [rwc_ T w])).1 := by
                  rw [en2, rp_x (T := T1) (T1 := U15) (m := m) (fun K j h => fU15 K 0 j (by rcases h with rfl | rfl | rfl | rfl | rfl | rfl | rfl | rfl | rfl | rfl | rfl <;> rfl))]
                  exact fo1
                have fb : rw9_ U15 m = (rnR_ ru m b0 (d ++ [rwc_ T w])).2.1 := by
                  rw [en2, qU15r]
                  exact fo2
                have fc : cn + 1 = (rnR_ ru m b0 (d ++ [rwc_ T w])).2.2 := by
                  rw [en2]
                  show cn + 1 = (rnR_ ru m b0 d).2.2 + 1
                  omega
                have am : U15 256 0 m = T 256 0 m + (cn + 1) := by rw [qU15m, am1]; omega
                have ot : ∀ j, j ≠ m → 0 ≤ j → j < T 111 0 29 → rw9_ U15 j = rw9_ T j := fun j hj j0 j1 => (qU15s j hj j0 (by have := hf_28 111 0 29 rfl; omega)).trans (ot1 j hj j0 j1)
                have rq : ro9_ T U15 m := ro_t rq1 (rp_xo (fun K j h => fU15 K 0 j (by rcases h with rfl | rfl | rfl | rfl | rfl | rfl | rfl | rfl | rfl | rfl | rfl <;> rfl)))
                refine j_drop [some (vR 111 0), some (vI m), some (vI (T1 252 0 w)), some (vI (cn + 1)), none, none] (fun k v hk => ?_) rfl ?_
                · match k, hk with
                  | 0, hk => exact hk
                  | 1, hk => exact hk
                  | 2, hk => exact hk
                  | 3, hk => exact hk
                  | 4, hk => cases hk
                  | 5, hk => cases hk
                  | k + 6, hk => cases hk
                refine ih_28 _ ?_ (T1 252 0 w) (cn + 1) lt (d ++ [rwc_ T w]) b0 U15 (Nat.le_refl _) ?_ ?_ ?_ ?_ ?_ ?_ ?_ ?_ ?_ ?_ ?_ ?_ ?_ ?_ ?_ ?_ ?_ ?_
                · have hm_28 := hm_28 (); simp only [List.length_cons] at hm_28; omega
                · exact fr_t (fr_t (fr_0 _ _) (fr_s hf_28 rfl)) (fr_s fU15 rfl)
                · exact FM__f (ws := [(252, []), (255, []), (254, []), (256, [])]) (fm1) fU15 ⟨fun _ => rfl, fun _ => rfl, trivial⟩
                · exact qU15a
                · exact lk_e hlt qU15b
                · exact so_f (ws := [(252, []), (255, []), (254, []), (256, [])]) (so1) fU15 ⟨fun _ => rfl, fun _ => rfl, fun _ => rfl⟩
                · have e7 := qU15c
                  have e8 := qU15e
                  omega
                · have e7 := qU15c
                  exact sb1_m (sb1_f (ws := [(252, []), (255, []), (254, []), (256, [])]) (sb1) fU15 ⟨fun _ => rfl, fun _ => rfl, fun _ => rfl⟩) (by omega)
                · intro j hj
                  exact (qU15d j hj).trans (ro1 j hj)
                · intro j hj
                  exact (qU15g j hj).trans (ao1 j hj)
                · omega
                · rw [ed1, List.append_assoc]
                  (try rfl)
                · exact bg1
                · exact fa
                · exact fb
                · exact fc
                · exact am
                · exact ot
                · exact rq
              · exact absurd c17 (by decide)
            · exact absurd c16 (by decide)
        · have hlw := hx11 (by omega)
          refine hK 78 _ [vI 1] T1 ?_
          refine j_blx (F := fX11) tb_X11 (nn_ _) bk_X11_playAnew_e_78 bs_X11_playAnew_e_78 hz (fun K hK => ?_)
          refine And.intro (fun c18 => ?_) (fun c18 => ?_)
          · refine hK 92 [some (vR 111 0), some (vI m), some (vI w), some (vI cn), some (vI (T1 252 0 w)), some (vI 1)] [vI w, vI m, vR 111 0] T1 ?_
            refine j_blx (F := fX11) tb_X11 (nn_ _) bk_X11_playAnew_e_92 bs_X11_playAnew_e_92 hz (fun K hK => ?_)
            refine hK 93 _ [vI 0, vI w, vI m, vR 111 0] T1 ?_
            have e19 : T1 111 0 29 = T 111 0 29 := hf_28 111 0 29 rfl
            refine j_callV (y := yX11_putBehind) (Yc := zX11_putBehind) (rest := []) [vI m, vI w, vI 0] (ct_X11_putBehind_0_e (T := T1) (rest := lt) (by omega) (rx1)) cl_X11_466 (qd_c (by decide +kernel)) (nn_ _) rfl (rf_of rfl) (Nat.le_of_ble_eq_true rfl) (Nat.le_of_ble_eq_true rfl) (Nat.le_of_ble_eq_true rfl) rfl ?_
            rintro U20 _ ⟨rfl, fU20, qU20a, qU20b, qU20c, qU20d, qU20e, qU20g, qU20m, qU20r, qU20s⟩
            show J_ zX11_playAnew T (po_X11_playAnew_e T ru m) 0 0 96 _ [] U20
            refine j_blx (F := fX11) tb_X11 (nn_ _) bk_X11_playAnew_e_96 bs_X11_playAnew_e_96 hz (fun K hK => ?_)
            refine And.intro (fun c21 => ?_) (fun c21 => ?_)
            · exact absurd c21 (by decide)
            · refine ix_i (by omega) ?_
              intro b22 b22b
              have e23 : U20 248 0 w = T 248 0 w := (fU20 248 0 w rfl).trans (hf_28 248 0 w rfl)
              rw [e23] at b22 b22b ⊢
              refine ix_i (by omega) ?_
              intro b24 b24b
              have e25 : U20 249 0 w = T 249 0 w := (fU20 249 0 w rfl).trans (hf_28 249 0 w rfl)
              rw [e25] at b24 b24b ⊢
              refine ix_i (by omega) ?_
              intro b26 b26b
              have e27 : U20 250 0 w = T 250 0 w := (fU20 250 0 w rfl).trans (hf_28 250 0 w rfl)
              rw [e27] at b26 b26b ⊢
              refine ix_i (by omega) ?_
              intro b28 b28b
              have e29 : U20 251 0 w = T 251 0 w := (fU20 251 0 w rfl).trans (hf_28 251 0 w rfl)
              rw [e29] at b28 b28b ⊢
              refine hK 127 _ [vI (T 251 0 w), vI (T 250 0 w), vI (T 249 0 w), vI (T 248 0 w), vI m, vR 111 0] U20 ?_
              have e30 : U20 111 0 29 = T 111 0 29 := (fU20 111 0 29 rfl).trans (hf_28 111 0 29 rfl)
              have fy : fr_ [(252, []), (253, []), (254, []), (256, [])] T1 U20 := fr_t (fr_0 _ _) (fr_s fU20 rfl)
              refine j_callV (y := yX11_play) (Yc := zX11_play) (rest := []) [vI m, vI (T 248 0 w), vI (T 249 0 w), vI (T 250 0 w), vI (T 251 0 w)] (ct_X11_play_e (T := U20) (ru := ru) (bu := 4 * T1 254 0 m + 9) (by omega) (by exact MC__f (ws := [(252, []), (253, []), (254, []), (256, []), (255, []), (244, []), (241, []), (242, []), (243, []), (245, []), (246, []), (236, []), (237, []), (235, [])]) hmc (fr_t (fr_t (fr_0 _ _) (fr_s hf_28 rfl)) (fr_s fU20 rfl)) ⟨fun _ => rfl, rfl, rfl, trivial⟩) (by exact RI__f (ws := [(252, []), (253, []), (254, []), (256, []), (255, []), (244, []), (241, []), (242, []), (243, []), (245, []), (246, []), (236, []), (237, []), (235, [])]) hri (fr_t (fr_t (fr_0 _ _) (fr_s hf_28 rfl)) (fr_s fU20 rfl)) ⟨fun _ => rfl, rfl, trivial⟩) (by exact FM__f (ws := [(252, []), (253, []), (254, []), (256, [])]) (fm1) fU20 ⟨fun _ => rfl, fun _ => rfl, trivial⟩) (by exact LW_f hlw (fun k j h => fy k 0 j (by rcases h with rfl | rfl | rfl | rfl | rfl <;> rfl))) (rlr_f (ws := [(252, []), (253, []), (254, []), (256, []), (255, []), (244, []), (241, []), (242, []), (243, []), (245, []), (246, []), (236, []), (237, []), (235, [])]) hrl (fr_t (fr_t (fr_0 _ _) (fr_s hf_28 rfl)) (fr_s fU20 rfl)) (fun _ => rfl) (fun _ => rfl)) (by omega) (sb1_f (ws := [(252, []), (253, []), (254, []), (256, [])]) (sb1) fU20 ⟨fun _ => rfl, fun _ => rfl, fun _ => rfl⟩)) cl_X11_470 (qd_c (by decide +kernel)) (nn_ _) rfl (rf_of rfl) (Nat.le_of_ble_eq_true rfl) (Nat.le_of_ble_eq_true rfl) (Nat.le_of_ble_eq_true rfl) rfl ?_
              rintro U31 _ ⟨rfl, fU31, ⟨qU31, qU31o, qU31b, qU31p, qU31e⟩⟩
              show J_ zX11_playAnew T (po_X11_playAnew_e T ru m) 0 0 130 _ [] U31
              refine j_blx (F := fX11) tb_X11 (nn_ _) bk_X11_playAnew_e_130 bs_X11_playAnew_e_130 hz (fun K hK => ?_)
              refine And.intro (fun c32 => ?_) (fun c32 => ?_)
              · exact absurd c32 (by decide)
              · refine hK 141 _ [vI 0, vI cn] U31 ?_
                refine j_blx (F := fX11) tb_X11 (nn_ _) bk_X11_playAnew_e_141 bs_X11_playAnew_e_141 hz (fun K hK => ?_)
                refine rg_i (by omega) ?_
                refine hK 28 [some (vR 111 0), some (vI m), some (vI (T1 252 0 w)), some (vI (cn + 0)), some (vI (T1 252 0 w)), some (vI 1)] [] U31 ?_
                have ec1 : rwc_ T1 = rwc_ T := cl_k (fun k j h => hf_28 k 0 j (by rcases h with rfl | rfl | rfl | rfl <;> rfl))
                have en2 : rnR_ ru m b0 (d ++ [rwc_ T w]) = (plR_ ru (rnR_ ru m b0 d).1 m (T 248 0 w) (T 249 0 w) (T 250 0 w) (T 251 0 w), (rnR_ ru m b0 d).2.1 ++ [rwc_ T w], (rnR_ ru m b0 d).2.2) := by
                  rw [rnR_a]
                  show stR_ ru m (rnR_ ru m b0 d) (T 248 0 w, T 249 0 w, T 250 0 w, T 251 0 w) = _
                  exact stR_t (by rw [← fo1]; omega)
                have fa : rp9_ U31 m = (rnR_ ru m b0 (d ++ [rwc_ T w])).1 := by
                  rw [en2, qU31e, rp_x (T := T1) (T1 := U20) (m := m) (fun K j h => fU20 K 0 j (by rcases h with rfl | rfl | rfl | rfl | rfl | rfl | rfl | rfl | rfl | rfl | rfl <;> rfl)), fo1]
                have fb : rw9_ U31 m = (rnR_ ru m b0 (d ++ [rwc_ T w])).2.1 := by
                  rw [en2, show rw9_ U31 m = rw9_ U20 m from rw_k (fun k x h => fU31 k 0 x (by rcases h with rfl | rfl | rfl | rfl <;> rfl)) (fun x => fU31 252 0 x rfl) (fU31 253 0 _ rfl) (fU31 254 0 _ rfl), qU20r, ec1, fo2]
                have fc : cn + 0 = (rnR_ ru m b0 (d ++ [rwc_ T w])).2.2 := by
                  rw [en2]
                  show cn + 0 = (rnR_ ru m b0 d).2.2
                  omega
                have am : U31 256 0 m = T 256 0 m + (cn + 0) := by rw [fU31 256 0 m rfl, qU20m, am1]; omega
                have ot : ∀ j, j ≠ m → 0 ≤ j → j < T 111 0 29 → rw9_ U31 j = rw9_ T j := fun j hj j0 j1 => (rw_k (fun k x h => fU31 k 0 x (by rcases h with rfl | rfl | rfl | rfl <;> rfl)) (fun x => fU31 252 0 x rfl) (fU31 253 0 _ rfl) (fU31 254 0 _ rfl)).trans ((qU20s j hj j0 (by have := hf_28 111 0 29 rfl; omega)).trans (ot1 j hj j0 j1))
                have rq : ro9_ T U31 m := ro_t (ro_t rq1 (rp_xo (fun K j h => fU20 K 0 j (by rcases h with rfl | rfl | rfl | rfl | rfl | rfl | rfl | rfl | rfl | rfl | rfl <;> rfl)))) qU31p
                refine j_drop [some (vR 111 0), some (vI m), some (vI (T1 252 0 w)), some (vI (cn + 0)), none, none] (fun k v hk => ?_) rfl ?_
                · match k, hk with
                  | 0, hk => exact hk
                  | 1, hk => exact hk
                  | 2, hk => exact hk
                  | 3, hk => exact hk
                  | 4, hk => cases hk
                  | 5, hk => cases hk
                  | k + 6, hk => cases hk
                have e33 : U31 254 0 m = U20 254 0 m := fU31 254 0 m rfl
                have e34 : U31 256 0 m = U20 256 0 m := fU31 256 0 m rfl
                refine ih_28 _ ?_ (T1 252 0 w) (cn + 0) lt (d ++ [rwc_ T w]) b0 U31 (Nat.le_refl _) ?_ ?_ ?_ ?_ ?_ ?_ ?_ ?_ ?_ ?_ ?_ ?_ ?_ ?_ ?_ ?_ ?_ ?_
                · have hm_28 := hm_28 (); simp only [List.length_cons] at hm_28; omega
                · exact fr_t (fr_t (fr_t (fr_0 _ _) (fr_s hf_28 rfl)) (fr_s fU20 rfl)) (fr_s fU31 rfl)
                · exact qU31
                · exact rx_f (qU20a) (fU31 111 0 29 rfl) (fU31 111 0 47 rfl) (fun k j h => fU31 k 0 j (by rcases h with rfl | rfl | rfl | rfl | rfl <;> rfl))
                · exact lk_e (lk_e hlt qU20b) (fun x _ => fU31 252 0 x rfl)
                · exact so_t (so_f (ws := [(252, []), (253, []), (254, []), (256, [])]) (so1) fU20 ⟨fun _ => rfl, fun _ => rfl, fun _ => rfl⟩) qU31o (fun j => (fU20 239 0 j rfl).trans (hf_28 239 0 j rfl))
                · have e7 := (fU31 254 0 m rfl).trans qU20c
                  have e8 := qU20e
                  have e9 := fU31 254 0 m rfl
                  omega
                · have e7 := (fU31 254 0 m rfl).trans qU20c
                  exact sb1_m (qU31b) (by omega)
                · intro j hj
                  exact (fU31 254 0 j rfl).trans ((qU20d j hj).trans (ro1 j hj))
                · intro j hj
                  exact (fU31 256 0 j rfl).trans ((qU20g j hj).trans (ao1 j hj))
                · omega
                · rw [ed1, List.append_assoc]
                  (try rfl)
                · exact bg1
                · exact fa
                · exact fb
                · exact fc
                · exact am
                · exact ot
                · exact rq
          · exact absurd c18 (by decide)
  refine j_blx (F := fX11) tb_X11 (nn_ _) bk_X11_playAnew_e_0 bs_X11_playAnew_e_0 hz (fun K hK => ?_)
  refine ix_i (by omega) ?_
  intro b35 b35b
  refine iy_i (by omega) (by omega) ?_
  refine x_nm (fun U36 hU36 => ?_)
  have e37 := up_f hU36
  refine iy_i (by omega) (by omega) ?_
  refine x_nm (fun U38 hU38 => ?_)
  have e39 := up_f hU38
  refine hK 25 [some (vR 111 0), some (vI m), some (vI (T 253 0 m)), some (vI 0), none, none] [vI m, vR 111 0] U38 ?_
  have fz : fr_ [(254, []), (253, [])] T U38 := fr_u (fr_u (fr_0 _ _) hU36 rfl) hU38 rfl
  have hry := hrx
  obtain ⟨L, hB, hR⟩ := hry
  have rt := rb_take (T' := U38) hB h1 (fz 111 0 29 rfl) (fz 111 0 47 rfl) (fun z => fz 252 0 z rfl) (fun j hj => (up_k hU38 (by exact Nat.ne_of_beq_eq_false rfl) 0 j).trans (up_g hU36 (fun q => hj q.2.2))) (fun j hj => (up_g hU38 (fun q => hj q.2.2)).trans (up_k hU36 (by exact Nat.ne_of_beq_eq_false rfl) 0 j)) (fun j => fz 255 0 j rfl) (fun j => fz 256 0 j rfl) ((up_k hU38 (by exact Nat.ne_of_beq_eq_false rfl) 0 m).trans (up_f hU36)) (up_f hU38)
  have rx0 : RX_ U38 (L m 0) := ⟨_, rt.1, rt.2.1⟩
  have lk0 := rt.2.2
  have rw0 := rw_t hB rt.1 (fz 111 0 29 rfl) (cl_k (fun k j h => fz k 0 j (by rcases h with rfl | rfl | rfl | rfl <;> rfl))) h1.1 h1.2
  have hlm : T 254 0 m = ((L m 0).length : Int) := (hB.1 m 0 (by omega) (by omega) (by decide) (by decide)).2
  have rwT := rw_l hB (m := m) h1.1 h1.2
  have hrn : 0 ≤ T 254 0 m ∧ T 254 0 m ≤ 3000 := bd_a hT 254 (by decide +kernel : ta_ 254 = some (1, some 400, 0, 3000)) 0 (by omega)
  have e40 : U38 111 0 29 = T 111 0 29 := (up_k hU38 (by exact Nat.ne_of_beq_eq_false rfl) 0 29).trans (up_k hU36 (by exact Nat.ne_of_beq_eq_false rfl) 0 29)
  refine j_callV (y := yX11_layBeginning) (Yc := zX11_layBeginning) (rest := []) [vI m] (ct_X11_layBeginning_e (T := U38) (by omega) (MC__f (ws := [(254, []), (253, [])]) hmc (fr_u (fr_u (fr_0 _ _) hU36 rfl) hU38 rfl) ⟨fun _ => rfl, rfl, rfl, trivial⟩) (RI__f (ws := [(254, []), (253, [])]) hri (fr_u (fr_u (fr_0 _ _) hU36 rfl) hU38 rfl) ⟨fun _ => rfl, rfl, trivial⟩) (FM__f (ws := [(254, [])]) (FM__f (ws := [(253, [])]) (hfm) (fr_u (fr_0 _ _) hU36 rfl) ⟨fun _ => rfl, fun _ => rfl, trivial⟩) (fr_u (fr_0 _ _) hU38 rfl) ⟨fun _ => rfl, fun _ => rfl, trivial⟩) (ZS__f (ws := [(254, []), (253, [])]) hzs (fr_u (fr_u (fr_0 _ _) hU36 rfl) hU38 rfl) ⟨fun _ => rfl, fun _ => rfl, trivial⟩)) cl_X11_390 (qd_c (by decide +kernel)) (nn_ _) rfl (rf_of rfl) (Nat.le_of_ble_eq_true rfl) (Nat.le_of_ble_eq_true rfl) (Nat.le_of_ble_eq_true rfl) rfl ?_
  rintro U41 _ ⟨rfl, fU41, qU41, qU41o, qU41b, l1U41, l2U41, l3U41, l4U41, l5U41, l6U41, l7U41, l8U41, qU41p⟩
  show J_ zX11_playAnew T (po_X11_playAnew_e T ru m) 0 0 28 _ [] U41
  have hrU : RLR_ U38 m ru := rlr_f (ws := [(254, []), (253, [])]) hrl (fr_u (fr_u (fr_0 _ _) hU36 rfl) hU38 rfl) (fun _ => rfl) (fun _ => rfl)
  have e9 := hrl 9 (by decide) (by decide)
  have bg0 := bg_l (T := U38) (T' := U41) (m := m) hrU (by omega) (fun t a b => by rw [fz 239 0 _ rfl]; exact bd_a hT 239 (by decide +kernel : ta_ 239 = some (1, some 800, 0, 10)) 0 (by omega)) (fun j => fU41 239 0 j rfl) (fun j => fU41 240 0 j rfl) l1U41 l2U41 l3U41 l4U41 l5U41 l6U41 l7U41 l8U41
  rw [rp_x (T := T) (T1 := U38) (m := m) (fun K j h => fz K 0 j (by rcases h with rfl | rfl | rfl | rfl | rfl | rfl | rfl | rfl | rfl | rfl | rfl <;> rfl))] at bg0
  have e42 : U41 254 0 m = 0 := (fU41 254 0 m rfl).trans (up_f hU38)
  have e43 : U41 256 0 m = T 256 0 m := (fU41 256 0 m rfl).trans ((up_k hU38 (by exact Nat.ne_of_beq_eq_false rfl) 0 m).trans (up_k hU36 (by exact Nat.ne_of_beq_eq_false rfl) 0 m))
  refine c_28 _ (T 253 0 m) 0 (L m 0) ([]) (rp9_ U41 m) U41 (Nat.le_refl _) ?_ ?_ ?_ ?_ ?_ ?_ ?_ ?_ ?_ ?_ ?_ ?_ ?_ ?_ ?_ ?_ ?_ ?_
  · exact fr_t (fr_u (fr_u (fr_0 _ _) hU36 rfl) hU38 rfl) (fr_s fU41 rfl)
  · exact qU41
  · exact rx_f (rx0) (fU41 111 0 29 rfl) (fU41 111 0 47 rfl) (fun k j h => fU41 k 0 j (by rcases h with rfl | rfl | rfl | rfl | rfl <;> rfl))
  · exact lk_e lk0 (fun x _ => fU41 252 0 x rfl)
  · exact so_t (so_f (ws := [(254, [])]) (so_f (ws := [(253, [])]) (so_r) (fr_u (fr_0 _ _) hU36 rfl) ⟨fun _ => rfl, fun _ => rfl, fun _ => rfl⟩) (fr_u (fr_0 _ _) hU38 rfl) ⟨fun _ => rfl, fun _ => rfl, fun _ => rfl⟩) qU41o (fun j => (up_k hU38 (by exact Nat.ne_of_beq_eq_false rfl) 0 j).trans (up_k hU36 (by exact Nat.ne_of_beq_eq_false rfl) 0 j))
  · have e7 : U41 254 0 m = 0 := (fU41 254 0 m rfl).trans (up_f hU38)
    omega
  · have e7 : U41 254 0 m = 0 := (fU41 254 0 m rfl).trans (up_f hU38)
    exact sb1_m qU41b (by omega)
  · intro j hj
    exact (fU41 254 0 j rfl).trans ((up_g hU38 (fun q => hj q.2.2)).trans (up_k hU36 (by exact Nat.ne_of_beq_eq_false rfl) 0 j))
  · intro j hj
    exact (fU41 256 0 j rfl).trans ((up_k hU38 (by exact Nat.ne_of_beq_eq_false rfl) 0 j).trans (up_k hU36 (by exact Nat.ne_of_beq_eq_false rfl) 0 j))
  · omega
  · exact rwT
  · exact bg0
  · exact rfl
  · exact (rw_k (fun k x h => fU41 k 0 x (by rcases h with rfl | rfl | rfl | rfl <;> rfl)) (fun x => fU41 252 0 x rfl) (fU41 253 0 _ rfl) (fU41 254 0 _ rfl)).trans rw0.1
  · exact rfl
  · rw [fU41 256 0 m rfl, fz 256 0 m rfl]; omega
  · exact fun j hj j0 j1 => (rw_k (fun k x h => fU41 k 0 x (by rcases h with rfl | rfl | rfl | rfl <;> rfl)) (fun x => fU41 252 0 x rfl) (fU41 253 0 _ rfl) (fU41 254 0 _ rfl)).trans (rw0.2 j hj j0 j1)
  · exact ro_t (rp_xo (fun K j h => fz K 0 j (by rcases h with rfl | rfl | rfl | rfl | rfl | rfl | rfl | rfl | rfl | rfl | rfl <;> rfl))) qU41p
theorem bk_X11_review_e_0 : ck_ fX11 (some .int) cX11_review 0 [.iload 1, .aload 0, .tableswitch 0 11 29 #[]] 5 = true := qck_r (nn_ _) (by decide +kernel)
theorem bs_X11_review_e_0 {P : Zt → Option Zv → Prop} (K : Int → Zl → List Zv → Zt → Prop) : sx_ K P [.iload 1, .aload 0, .tableswitch 0 11 29 #[]] 5 = x_iload 1 (x_aload 0 (x_g0 111 29 0 400 (K 5))) := ((xe_iload 1).trans (congrArg (x_iload 1) ((xe_aload 0).trans (congrArg (x_aload 0) ((xe_g0 (kk := 111) rfl tl_11_29).trans (congrArg (x_g0 111 29 0 400) xe_nil))))))
theorem bk_X11_review_e_8 : ck_ fX11 (some .int) cX11_review 8 [.ifCond .eq 24, .iload 2, .aload 0, .tableswitch 0 11 54 #[], .iload 1, .iaload] 18 = true := qck_r (nn_ _) (by decide +kernel)
theorem bs_X11_review_e_8 {P : Zt → Option Zv → Prop} (K : Int → Zl → List Zv → Zt → Prop) : sx_ K P [.ifCond .eq 24, .iload 2, .aload 0, .tableswitch 0 11 54 #[], .iload 1, .iaload] 18 = x_ifCond .eq 24 K (x_iload 2 (x_aload 0 (x_g1 111 254 (x_iload 1 (x_iaload (K 18)))))) := ((xe_ifCond .eq 24).trans (congrArg (x_ifCond .eq 24 K) ((xe_iload 2).trans (congrArg (x_iload 2) ((xe_aload 0).trans (congrArg (x_aload 0) ((xe_g1 (kk := 111) rfl tl_11_54).trans (congrArg (x_g1 111 254) ((xe_iload 1).trans (congrArg (x_iload 1) ((xe_iaload).trans (congrArg (x_iaload) xe_nil))))))))))))
theorem bk_X11_review_e_24 : ck_ fX11 (some .int) cX11_review 24 [.iconst (-2), .ireturn] 27 = true := qck_r (nn_ _) (by decide +kernel)
theorem bs_X11_review_e_24 {P : Zt → Option Zv → Prop} (K : Int → Zl → List Zv → Zt → Prop) : sx_ K P [.iconst (-2), .ireturn] 27 = x_iconst (-2) (x_ireturn P) := ((xe_iconst (-2)).trans (congrArg (x_iconst (-2)) (xe_ireturn)))
theorem bk_X11_review_e_21 : ck_ fX11 (some .int) cX11_review 21 [.ifCond .ne 27, .iconst (-2), .ireturn] 27 = true := qck_r (nn_ _) (by decide +kernel)
theorem bs_X11_review_e_21 {P : Zt → Option Zv → Prop} (K : Int → Zl → List Zv → Zt → Prop) : sx_ K P [.ifCond .ne 27, .iconst (-2), .ireturn] 27 = x_ifCond .ne 27 K (x_iconst (-2) (x_ireturn P)) := ((xe_ifCond .ne 27).trans (congrArg (x_ifCond .ne 27 K) ((xe_iconst (-2)).trans (congrArg (x_iconst (-2)) (xe_ireturn)))))
theorem bk_X11_review_e_27 : ck_ fX11 (some .int) cX11_review 27 [.aload 0, .aload 0, .tableswitch 0 11 30 #[], .iload 1, .iaload, .iconst 0] 35 = true := qck_r (nn_ _) (by decide +kernel)
theorem bs_X11_review_e_27 {P : Zt → Option Zv → Prop} (K : Int → Zl → List Zv → Zt → Prop) : sx_ K P [.aload 0, .aload 0, .tableswitch 0 11 30 #[], .iload 1, .iaload, .iconst 0] 35 = x_aload 0 (x_aload 0 (x_g1 111 230 (x_iload 1 (x_iaload (x_iconst 0 (K 35)))))) := ((xe_aload 0).trans (congrArg (x_aload 0) ((xe_aload 0).trans (congrArg (x_aload 0) ((xe_g1 (kk := 111) rfl tl_11_30).trans (congrArg (x_g1 111 230) ((xe_iload 1).trans (congrArg (x_iload 1) ((xe_iaload).trans (congrArg (x_iaload) ((xe_iconst 0).trans (congrArg (x_iconst 0) xe_nil))))))))))))
theorem bk_X11_review_e_38 : ck_ fX11 (some .int) cX11_review 38 [.istore 7, .aload 0, .aload 0, .tableswitch 0 11 53 #[], .iload 1, .iaload, .iload 2] 48 = true := qck_r (nn_ _) (by decide +kernel)
theorem bs_X11_review_e_38 {P : Zt → Option Zv → Prop} (K : Int → Zl → List Zv → Zt → Prop) : sx_ K P [.istore 7, .aload 0, .aload 0, .tableswitch 0 11 53 #[], .iload 1, .iaload, .iload 2] 48 = x_istore 7 (x_aload 0 (x_aload 0 (x_g1 111 253 (x_iload 1 (x_iaload (x_iload 2 (K 48))))))) := ((xe_istore 7).trans (congrArg (x_istore 7) ((xe_aload 0).trans (congrArg (x_aload 0) ((xe_aload 0).trans (congrArg (x_aload 0) ((xe_g1 (kk := 111) rfl tl_11_53).trans (congrArg (x_g1 111 253) ((xe_iload 1).trans (congrArg (x_iload 1) ((xe_iaload).trans (congrArg (x_iaload) ((xe_iload 2).trans (congrArg (x_iload 2) xe_nil))))))))))))))
theorem bk_X11_review_e_51 : ck_ fX11 (some .int) cX11_review 51 [.istore 8, .iload 3, .iconst (-1), .if_icmp .ne 119, .iload 2, .ifCond .ne 78, .aload 0, .tableswitch 0 11 53 #[], .iload 1, .aload 0, .tableswitch 0 11 52 #[], .iload 8, .iaload, .iastore, .goto 103] 78 = true := qck_r (nn_ _) (by decide +kernel)
theorem bs_X11_review_e_51 {P : Zt → Option Zv → Prop} (K : Int → Zl → List Zv → Zt → Prop) : sx_ K P [.istore 8, .iload 3, .iconst (-1), .if_icmp .ne 119, .iload 2, .ifCond .ne 78, .aload 0, .tableswitch 0 11 53 #[], .iload 1, .aload 0, .tableswitch 0 11 52 #[], .iload 8, .iaload, .iastore, .goto 103] 78 = x_istore 8 (x_iload 3 (x_iconst (-1) (x_if_icmp .ne 119 K (x_iload 2 (x_ifCond .ne 78 K (x_aload 0 (x_g1 111 253 (x_iload 1 (x_aload 0 (x_g1 111 252 (x_iload 8 (x_iaload (x_iastore (x_goto 103 K)))))))))))))) := ((xe_istore 8).trans (congrArg (x_istore 8) ((xe_iload 3).trans (congrArg (x_iload 3) ((xe_iconst (-1)).trans (congrArg (x_iconst (-1)) ((xe_if_icmp .ne 119).trans (congrArg (x_if_icmp .ne 119 K) ((xe_iload 2).trans (congrArg (x_iload 2) ((xe_ifCond .ne 78).trans (congrArg (x_ifCond .ne 78 K) ((xe_aload 0).trans (congrArg (x_aload 0) ((xe_g1 (kk := 111) rfl tl_11_53).trans (congrArg (x_g1 111 253) ((xe_iload 1).trans (congrArg (x_iload 1) ((xe_aload 0).trans (congrArg (x_aload 0) ((xe_g1 (kk := 111) rfl tl_11_52).trans (congrArg (x_g1 111 252) ((xe_iload 8).trans (congrArg (x_iload 8) ((xe_iaload).trans (congrArg (x_iaload) ((xe_iastore).trans (congrArg (x_iastore) (xe_goto 103)))))))))))))))))))))))))))))
theorem bk_X11_review_e_119 : ck_ fX11 (some .int) cX11_review 119 [.aload 0, .iload 7, .iload 3, .iload 4] 125 = true := qck_r (nn_ _) (by decide +kernel)
theorem bs_X11_review_e_119 {P : Zt → Option Zv → Prop} (K : Int → Zl → List Zv → Zt → Prop) : sx_ K P [.aload 0, .iload 7, .iload 3, .iload 4] 125 = x_aload 0 (x_iload 7 (x_iload 3 (x_iload 4 (K 125)))) := ((xe_aload 0).trans (congrArg (x_aload 0) ((xe_iload 7).trans (congrArg (x_iload 7) ((xe_iload 3).trans (congrArg (x_iload 3) ((xe_iload 4).trans (congrArg (x_iload 4) xe_nil))))))))
theorem bk_X11_review_e_128 : ck_ fX11 (some .int) cX11_review 128 [.ifCond .ne 134, .iconst (-12), .ireturn] 134 = true := qck_r (nn_ _) (by decide +kernel)
theorem bs_X11_review_e_128 {P : Zt → Option Zv → Prop} (K : Int → Zl → List Zv → Zt → Prop) : sx_ K P [.ifCond .ne 134, .iconst (-12), .ireturn] 134 = x_ifCond .ne 134 K (x_iconst (-12) (x_ireturn P)) := ((xe_ifCond .ne 134).trans (congrArg (x_ifCond .ne 134 K) ((xe_iconst (-12)).trans (congrArg (x_iconst (-12)) (xe_ireturn)))))
theorem bk_X11_review_e_134 : ck_ fX11 (some .int) cX11_review 134 [.iload 7, .iload 3, .iload 6] 139 = true := qck_r (nn_ _) (by decide +kernel)
theorem bs_X11_review_e_134 {P : Zt → Option Zv → Prop} (K : Int → Zl → List Zv → Zt → Prop) : sx_ K P [.iload 7, .iload 3, .iload 6] 139 = x_iload 7 (x_iload 3 (x_iload 6 (K 139))) := ((xe_iload 7).trans (congrArg (x_iload 7) ((xe_iload 3).trans (congrArg (x_iload 3) ((xe_iload 6).trans (congrArg (x_iload 6) xe_nil))))))
theorem bk_X11_review_e_142 : ck_ fX11 (some .int) cX11_review 142 [.ifCond .ne 148, .iconst (-17), .ireturn] 148 = true := qck_r (nn_ _) (by decide +kernel)
theorem bs_X11_review_e_142 {P : Zt → Option Zv → Prop} (K : Int → Zl → List Zv → Zt → Prop) : sx_ K P [.ifCond .ne 148, .iconst (-17), .ireturn] 148 = x_ifCond .ne 148 K (x_iconst (-17) (x_ireturn P)) := ((xe_ifCond .ne 148).trans (congrArg (x_ifCond .ne 148 K) ((xe_iconst (-17)).trans (congrArg (x_iconst (-17)) (xe_ireturn)))))
theorem bk_X11_review_e_148 : ck_ fX11 (some .int) cX11_review 148 [.aload 0, .tableswitch 0 11 48 #[], .iload 8, .iaload, .iload 3, .if_icmp .ne 198, .aload 0, .tableswitch 0 11 49 #[], .iload 8, .iaload, .iload 4, .if_icmp .ne 198, .aload 0, .tableswitch 0 11 50 #[], .iload 8, .iaload, .iload 5, .if_icmp .ne 198, .aload 0, .tableswitch 0 11 51 #[], .iload 8, .iaload, .iload 6, .if_icmp .ne 198, .iconst (-20), .ireturn] 198 = true := qck_r (nn_ _) (by decide +kernel)
theorem bs_X11_review_e_148 {P : Zt → Option Zv → Prop} (K : Int → Zl → List Zv → Zt → Prop) : sx_ K P [.aload 0, .tableswitch 0 11 48 #[], .iload 8, .iaload, .iload 3, .if_icmp .ne 198, .aload 0, .tableswitch 0 11 49 #[], .iload 8, .iaload, .iload 4, .if_icmp .ne 198, .aload 0, .tableswitch 0 11 50 #[], .iload 8, .iaload, .iload 5, .if_icmp .ne 198, .aload 0, .tableswitch 0 11 51 #[], .iload 8, .iaload, .iload 6, .if_icmp .ne 198, .iconst (-20), .ireturn] 198 = x_aload 0 (x_g1 111 248 (x_iload 8 (x_iaload (x_iload 3 (x_if_icmp .ne 198 K (x_aload 0 (x_g1 111 249 (x_iload 8 (x_iaload (x_iload 4 (x_if_icmp .ne 198 K (x_aload 0 (x_g1 111 250 (x_iload 8 (x_iaload (x_iload 5 (x_if_icmp .ne 198 K (x_aload 0 (x_g1 111 251 (x_iload 8 (x_iaload (x_iload 6 (x_if_icmp .ne 198 K (x_iconst (-20) (x_ireturn P))))))))))))))))))))))))) := ((xe_aload 0).trans (congrArg (x_aload 0) ((xe_g1 (kk := 111) rfl tl_11_48).trans (congrArg (x_g1 111 248) ((xe_iload 8).trans (congrArg (x_iload 8) ((xe_iaload).trans (congrArg (x_iaload) ((xe_iload 3).trans (congrArg (x_iload 3) ((xe_if_icmp .ne 198).trans (congrArg (x_if_icmp .ne 198 K) ((xe_aload 0).trans (congrArg (x_aload 0) ((xe_g1 (kk := 111) rfl tl_11_49).trans (congrArg (x_g1 111 249) ((xe_iload 8).trans (congrArg (x_iload 8) ((xe_iaload).trans (congrArg (x_iaload) ((xe_iload 4).trans (congrArg (x_iload 4) ((xe_if_icmp .ne 198).trans (congrArg (x_if_icmp .ne 198 K) ((xe_aload 0).trans (congrArg (x_aload 0) ((xe_g1 (kk := 111) rfl tl_11_50).trans (congrArg (x_g1 111 250) ((xe_iload 8).trans (congrArg (x_iload 8) ((xe_iaload).trans (congrArg (x_iaload) ((xe_iload 5).trans (congrArg (x_iload 5) ((xe_if_icmp .ne 198).trans (congrArg (x_if_icmp .ne 198 K) ((xe_aload 0).trans (congrArg (x_aload 0) ((xe_g1 (kk := 111) rfl tl_11_51).trans (congrArg (x_g1 111 251) ((xe_iload 8).trans (congrArg (x_iload 8) ((xe_iaload).trans (congrArg (x_iaload) ((xe_iload 6).trans (congrArg (x_iload 6) ((xe_if_icmp .ne 198).trans (congrArg (x_if_icmp .ne 198 K) ((xe_iconst (-20)).trans (congrArg (x_iconst (-20)) (xe_ireturn)))))))))))))))))))))))))))))))))))))))))))))))))))
theorem bk_X11_review_e_198 : ck_ fX11 (some .int) cX11_review 198 [.aload 0, .tableswitch 0 11 48 #[], .iload 8, .iload 3, .iastore, .aload 0, .tableswitch 0 11 49 #[], .iload 8, .iload 4, .iastore, .aload 0, .tableswitch 0 11 50 #[], .iload 8, .iload 5, .iastore, .aload 0, .tableswitch 0 11 51 #[], .iload 8, .iload 6, .iastore, .aload 0, .iload 1] 235 = true := qck_r (nn_ _) (by decide +kernel)
theorem bs_X11_review_e_198 {P : Zt → Option Zv → Prop} (K : Int → Zl → List Zv → Zt → Prop) : sx_ K P [.aload 0, .tableswitch 0 11 48 #[], .iload 8, .iload 3, .iastore, .aload 0, .tableswitch 0 11 49 #[], .iload 8, .iload 4, .iastore, .aload 0, .tableswitch 0 11 50 #[], .iload 8, .iload 5, .iastore, .aload 0, .tableswitch 0 11 51 #[], .iload 8, .iload 6, .iastore, .aload 0, .iload 1] 235 = x_aload 0 (x_g1 111 248 (x_iload 8 (x_iload 3 (x_iastore (x_aload 0 (x_g1 111 249 (x_iload 8 (x_iload 4 (x_iastore (x_aload 0 (x_g1 111 250 (x_iload 8 (x_iload 5 (x_iastore (x_aload 0 (x_g1 111 251 (x_iload 8 (x_iload 6 (x_iastore (x_aload 0 (x_iload 1 (K 235)))))))))))))))))))))) := ((xe_aload 0).trans (congrArg (x_aload 0) ((xe_g1 (kk := 111) rfl tl_11_48).trans (congrArg (x_g1 111 248) ((xe_iload 8).trans (congrArg (x_iload 8) ((xe_iload 3).trans (congrArg (x_iload 3) ((xe_iastore).trans (congrArg (x_iastore) ((xe_aload 0).trans (congrArg (x_aload 0) ((xe_g1 (kk := 111) rfl tl_11_49).trans (congrArg (x_g1 111 249) ((xe_iload 8).trans (congrArg (x_iload 8) ((xe_iload 4).trans (congrArg (x_iload 4) ((xe_iastore).trans (congrArg (x_iastore) ((xe_aload 0).trans (congrArg (x_aload 0) ((xe_g1 (kk := 111) rfl tl_11_50).trans (congrArg (x_g1 111 250) ((xe_iload 8).trans (congrArg (x_iload 8) ((xe_iload 5).trans (congrArg (x_iload 5) ((xe_iastore).trans (congrArg (x_iastore) ((xe_aload 0).trans (congrArg (x_aload 0) ((xe_g1 (kk := 111) rfl tl_11_51).trans (congrArg (x_g1 111 251) ((xe_iload 8).trans (congrArg (x_iload 8) ((xe_iload 6).trans (congrArg (x_iload 6) ((xe_iastore).trans (congrArg (x_iastore) ((xe_aload 0).trans (congrArg (x_aload 0) ((xe_iload 1).trans (congrArg (x_iload 1) xe_nil))))))))))))))))))))))))))))))))))))))))))))
theorem bk_X11_review_e_238 : ck_ fX11 (some .int) cX11_review 238 [.ireturn] 239 = true := qck_r (nn_ _) (by decide +kernel)
theorem bs_X11_review_e_238 {P : Zt → Option Zv → Prop} (K : Int → Zl → List Zv → Zt → Prop) : sx_ K P [.ireturn] 239 = x_ireturn P := (xe_ireturn)
theorem bk_X11_review_e_78 : ck_ fX11 (some .int) cX11_review 78 [.aload 0, .tableswitch 0 11 52 #[], .aload 0, .aload 0, .tableswitch 0 11 53 #[], .iload 1, .iaload, .iload 2, .iconst 1, .isub] 92 = true := qck_r (nn_ _) (by decide +kernel)
theorem bs_X11_review_e_78 {P : Zt → Option Zv → Prop} (K : Int → Zl → List Zv → Zt → Prop) : sx_ K P [.aload 0, .tableswitch 0 11 52 #[], .aload 0, .aload 0, .tableswitch 0 11 53 #[], .iload 1, .iaload, .iload 2, .iconst 1, .isub] 92 = x_aload 0 (x_g1 111 252 (x_aload 0 (x_aload 0 (x_g1 111 253 (x_iload 1 (x_iaload (x_iload 2 (x_iconst 1 (x_isub (K 92)))))))))) := ((xe_aload 0).trans (congrArg (x_aload 0) ((xe_g1 (kk := 111) rfl tl_11_52).trans (congrArg (x_g1 111 252) ((xe_aload 0).trans (congrArg (x_aload 0) ((xe_aload 0).trans (congrArg (x_aload 0) ((xe_g1 (kk := 111) rfl tl_11_53).trans (congrArg (x_g1 111 253) ((xe_iload 1).trans (congrArg (x_iload 1) ((xe_iaload).trans (congrArg (x_iaload) ((xe_iload 2).trans (congrArg (x_iload 2) ((xe_iconst 1).trans (congrArg (x_iconst 1) ((xe_isub).trans (congrArg (x_isub) xe_nil))))))))))))))))))))
theorem bk_X11_review_e_95 : ck_ fX11 (some .int) cX11_review 95 [.aload 0, .tableswitch 0 11 52 #[], .iload 8, .iaload, .iastore, .aload 0, .tableswitch 0 11 54 #[], .iload 1, .dup2, .iaload, .iconst 1, .isub, .iastore, .aload 0, .iload 1] 115 = true := qck_r (nn_ _) (by decide +kernel)
theorem bs_X11_review_e_95 {P : Zt → Option Zv → Prop} (K : Int → Zl → List Zv → Zt → Prop) : sx_ K P [.aload 0, .tableswitch 0 11 52 #[], .iload 8, .iaload, .iastore, .aload 0, .tableswitch 0 11 54 #[], .iload 1, .dup2, .iaload, .iconst 1, .isub, .iastore, .aload 0, .iload 1] 115 = x_aload 0 (x_g1 111 252 (x_iload 8 (x_iaload (x_iastore (x_aload 0 (x_g1 111 254 (x_iload 1 (x_dup2 (x_iaload (x_iconst 1 (x_isub (x_iastore (x_aload 0 (x_iload 1 (K 115))))))))))))))) := ((xe_aload 0).trans (congrArg (x_aload 0) ((xe_g1 (kk := 111) rfl tl_11_52).trans (congrArg (x_g1 111 252) ((xe_iload 8).trans (congrArg (x_iload 8) ((xe_iaload).trans (congrArg (x_iaload) ((xe_iastore).trans (congrArg (x_iastore) ((xe_aload 0).trans (congrArg (x_aload 0) ((xe_g1 (kk := 111) rfl tl_11_54).trans (congrArg (x_g1 111 254) ((xe_iload 1).trans (congrArg (x_iload 1) ((xe_dup2).trans (congrArg (x_dup2) ((xe_iaload).trans (congrArg (x_iaload) ((xe_iconst 1).trans (congrArg (x_iconst 1) ((xe_isub).trans (congrArg (x_isub) ((xe_iastore).trans (congrArg (x_iastore) ((xe_aload 0).trans (congrArg (x_aload 0) ((xe_iload 1).trans (congrArg (x_iload 1) xe_nil))))))))))))))))))))))))))))))
theorem bk_X11_review_e_118 : ck_ fX11 (some .int) cX11_review 118 [.ireturn] 119 = true := qck_r (nn_ _) (by decide +kernel)
theorem bs_X11_review_e_118 {P : Zt → Option Zv → Prop} (K : Int → Zl → List Zv → Zt → Prop) : sx_ K P [.ireturn] 119 = x_ireturn P := (xe_ireturn)
theorem bk_X11_review_e_103 : ck_ fX11 (some .int) cX11_review 103 [.aload 0, .tableswitch 0 11 54 #[], .iload 1, .dup2, .iaload, .iconst 1, .isub, .iastore, .aload 0, .iload 1] 115 = true := qck_r (nn_ _) (by decide +kernel)
theorem bs_X11_review_e_103 {P : Zt → Option Zv → Prop} (K : Int → Zl → List Zv → Zt → Prop) : sx_ K P [.aload 0, .tableswitch 0 11 54 #[], .iload 1, .dup2, .iaload, .iconst 1, .isub, .iastore, .aload 0, .iload 1] 115 = x_aload 0 (x_g1 111 254 (x_iload 1 (x_dup2 (x_iaload (x_iconst 1 (x_isub (x_iastore (x_aload 0 (x_iload 1 (K 115)))))))))) := ((xe_aload 0).trans (congrArg (x_aload 0) ((xe_g1 (kk := 111) rfl tl_11_54).trans (congrArg (x_g1 111 254) ((xe_iload 1).trans (congrArg (x_iload 1) ((xe_dup2).trans (congrArg (x_dup2) ((xe_iaload).trans (congrArg (x_iaload) ((xe_iconst 1).trans (congrArg (x_iconst 1) ((xe_isub).trans (congrArg (x_isub) ((xe_iastore).trans (congrArg (x_iastore) ((xe_aload 0).trans (congrArg (x_aload 0) ((xe_iload 1).trans (congrArg (x_iload 1) xe_nil))))))))))))))))))))
abbrev po_X11_review_e (T : Zt) (ru : Int → Int) (m i k s p q : Int) : Zt → Option Zv → Prop := fun T' r => ∃ x : Int, r = some (vI x) ∧ fr_ [(252, []), (253, []), (255, []), (254, []), (256, []), (244, []), (241, []), (242, []), (243, []), (245, []), (246, []), (236, []), (237, []), (235, []), (248, []), (249, []), (250, []), (251, [])] T T' ∧ (FM_ T' ∧ RX_ T' [] ∧ ZS_ T' ∧ GX_ T' (-1) ∧ (∀ j, j ≠ m ∨ T 111 0 29 ≤ j → T' 254 0 j = T 254 0 j ∧ T' 256 0 j = T 256 0 j) ∧ ((x = -2 ∧ ¬ ((0 ≤ m ∧ m < T 111 0 29) ∧ 0 ≤ i ∧ i < T 254 0 m) ∧ T = T') ∨ (((0 ≤ m ∧ m < T 111 0 29) ∧ 0 ≤ i ∧ i < T 254 0 m) ∧ OMR_ T T' m ∧ ((k = -1 ∧ RNR_ ru m x T T' ((rw9_ T m).eraseIdx i.toNat)) ∨ (k ≠ -1 ∧ ((¬ (((ru 0 = 0 ∧ 0 ≤ k ∧ k ≤ 5) ∨ (ru 0 = 1 ∧ (k = 1 ∨ k = 5)) ∨ (ru 0 = 2 ∧ (k = 1 ∨ k = 6)) ∨ (¬ ru 0 = 0 ∧ ¬ ru 0 = 1 ∧ ¬ ru 0 = 2 ∧ 1 ≤ k ∧ k ≤ 4)) ∧ ((ru 0 = 0 ∧ k = 0) ∨ (0 ≤ s ∧ s ≤ 1))) ∧ x = -12 ∧ T = T') ∨ ((((ru 0 = 0 ∧ 0 ≤ k ∧ k ≤ 5) ∨ (ru 0 = 1 ∧ (k = 1 ∨ k = 5)) ∨ (ru 0 = 2 ∧ (k = 1 ∨ k = 6)) ∨ (¬ ru 0 = 0 ∧ ¬ ru 0 = 1 ∧ ¬ ru 0 = 2 ∧ 1 ≤ k ∧ k ≤ 4)) ∧ ((ru 0 = 0 ∧ k = 0) ∨ (0 ≤ s ∧ s ≤ 1))) ∧ ¬ (ru 0 ≠ 3 ∨ k ≠ 1 ∨ (1 ≤ q ∧ q ≤ 4)) ∧ x = -17 ∧ T = T') ∨ ((((ru 0 = 0 ∧ 0 ≤ k ∧ k ≤ 5) ∨ (ru 0 = 1 ∧ (k = 1 ∨ k = 5)) ∨ (ru 0 = 2 ∧ (k = 1 ∨ k = 6)) ∨ (¬ ru 0 = 0 ∧ ¬ ru 0 = 1 ∧ ¬ ru 0 = 2 ∧ 1 ≤ k ∧ k ≤ 4)) ∧ ((ru 0 = 0 ∧ k = 0) ∨ (0 ≤ s ∧ s ≤ 1))) ∧ (ru 0 ≠ 3 ∨ k ≠ 1 ∨ (1 ≤ q ∧ q ≤ 4)) ∧ (rw9_ T m)[i.toNat]? = some (k, s, p, q) ∧ x = -20 ∧ T = T') ∨ ((((ru 0 = 0 ∧ 0 ≤ k ∧ k ≤ 5) ∨ (ru 0 = 1 ∧ (k = 1 ∨ k = 5)) ∨ (ru 0 = 2 ∧ (k = 1 ∨ k = 6)) ∨ (¬ ru 0 = 0 ∧ ¬ ru 0 = 1 ∧ ¬ ru 0 = 2 ∧ 1 ≤ k ∧ k ≤ 4)) ∧ ((ru 0 = 0 ∧ k = 0) ∨ (0 ≤ s ∧ s ≤ 1))) ∧ (ru 0 ≠ 3 ∨ k ≠ 1 ∨ (1 ≤ q ∧ q ≤ 4)) ∧ ¬ ((rw9_ T m)[i.toNat]? = some (k, s, p, q)) ∧ RNR_ ru m x T T' ((rw9_ T m).set i.toNat (k, s, p, q)))))))))
set_option maxHeartbeats 4000000 in
theorem ct_X11_review_e {T : Zt} {ru : Int → Int} {m i k s p q : Int} (hmc : MC_ T) (hri : RI_ T) (hfm : FM_ T) (hrx : RX_ T []) (hzs : ZS_ T) (hgs : GX_ T (-1)) (hrl : RLR_ T m ru) : Ct_ yX11_review zX11_review T [vR 111 0, vI m, vI i, vI k, vI s, vI p, vI q] (po_X11_review_e T ru m i k s p q) := by
  refine ct_of pn_11 rfl rfl (Nat.le_of_ble_eq_true rfl) (fun hT hav => ?_)
  have hr_m : -2147483648 ≤ m ∧ m ≤ 2147483647 := hav (vI m) (List.mem_cons_of_mem _ List.mem_cons_self)
  have hr_i : -2147483648 ≤ i ∧ i ≤ 2147483647 := hav (vI i) (List.mem_cons_of_mem _ (List.mem_cons_of_mem _ List.mem_cons_self))
  have hr_k : -2147483648 ≤ k ∧ k ≤ 2147483647 := hav (vI k) (List.mem_cons_of_mem _ (List.mem_cons_of_mem _ (List.mem_cons_of_mem _ List.mem_cons_self)))
  have hr_s : -2147483648 ≤ s ∧ s ≤ 2147483647 := hav (vI s) (List.mem_cons_of_mem _ (List.mem_cons_of_mem _ (List.mem_cons_of_mem _ (List.mem_cons_of_mem _ List.mem_cons_self))))
  have hr_p : -2147483648 ≤ p ∧ p ≤ 2147483647 := hav (vI p) (List.mem_cons_of_mem _ (List.mem_cons_of_mem _ (List.mem_cons_of_mem _ (List.mem_cons_of_mem _ (List.mem_cons_of_mem _ List.mem_cons_self)))))
  have hr_q : -2147483648 ≤ q ∧ q ≤ 2147483647 := hav (vI q) (List.mem_cons_of_mem _ (List.mem_cons_of_mem _ (List.mem_cons_of_mem _ (List.mem_cons_of_mem _ (List.mem_cons_of_mem _ (List.mem_cons_of_mem _ List.mem_cons_self))))))
  have hz : zX11_review.2.2.2.1 = some .boolean → ∀ (T' : Zt) (x : Int), po_X11_review_e T ru m i k s p q T' (some (vI x)) → 0 ≤ x ∧ x ≤ 1 := fun h => by cases h
  have hb_29 : 0 ≤ T 111 0 29 ∧ T 111 0 29 ≤ 400 := bd_f hT 111 29 tl_11_29 0
  have hb_6 : 0 ≤ T 111 0 6 ∧ T 111 0 6 ≤ 4 := bd_f hT 111 6 tl_11_6 0
  show J_ zX11_review T (po_X11_review_e T ru m i k s p q) 0 0 0 [some (vR 111 0), some (vI m), some (vI i), some (vI k), some (vI s), some (vI p), some (vI q), none, none] [] T
  refine j_blx (F := fX11) tb_X11 (nn_ _) bk_X11_review_e_0 bs_X11_review_e_0 hz (fun K hK => ?_)
  intro b1 b1b
  refine hK 5 _ [vI (T 111 0 29), vI m] T ?_
  refine j_callS (y := yX11_isOf) (Yc := zX11_isOf) (rest := []) [vI m, vI (T 111 0 29)] (ct_X11_isOf (T := T) (by omega)) cl_X11_317 (qd_c (by decide +kernel)) (nn_ _) rfl (rf_of rfl) (Nat.le_of_ble_eq_true rfl) (Nat.le_of_ble_eq_true rfl) (Nat.le_of_ble_eq_true rfl) rfl ?_
  rintro _ _ ⟨rfl, x2, rfl, hx2⟩
  show J_ zX11_review T (po_X11_review_e T ru m i k s p q) 0 0 8 _ [vI x2] T
  refine j_blx (F := fX11) tb_X11 (nn_ _) bk_X11_review_e_8 bs_X11_review_e_8 hz (fun K hK => ?_)
  refine And.intro (fun c3 => ?_) (fun c3 => ?_)
  · replace hx2 := hx2.resolve_left (fun z => absurd (c3.symm.trans z.1) (by decide))
    clear c3
    refine hK 24 _ [] T ?_
    refine j_blx (F := fX11) tb_X11 (nn_ _) bk_X11_review_e_24 bs_X11_review_e_24 hz (fun K hK => ?_)
    refine (show po_X11_review_e T ru m i k s p q T (some (vI (-2))) from ?_)
    exact ⟨_, rfl, fr_0 _ _, hfm, hrx, hzs, hgs, fun _ _ => ⟨rfl, rfl⟩, Or.inl ⟨rfl, by omega, rfl⟩⟩
  · have im9 := (hx2.resolve_right (fun z => c3 z.1)).2
    clear hx2 c3
    refine ix_i (by omega) ?_
    intro b4 b4b
    refine hK 18 _ [vI (T 254 0 m), vI i] T ?_
    refine j_callS (y := yX11_isOf) (Yc := zX11_isOf) (rest := []) [vI i, vI (T 254 0 m)] (ct_X11_isOf (T := T) (by omega)) cl_X11_317 (qd_c (by decide +kernel)) (nn_ _) rfl (rf_of rfl) (Nat.le_of_ble_eq_true rfl) (Nat.le_of_ble_eq_true rfl) (Nat.le_of_ble_eq_true rfl) rfl ?_
    rintro _ _ ⟨rfl, x5, rfl, hx5⟩
    show J_ zX11_review T (po_X11_review_e T ru m i k s p q) 0 0 21 _ [vI x5] T
    refine j_blx (F := fX11) tb_X11 (nn_ _) bk_X11_review_e_21 bs_X11_review_e_21 hz (fun K hK => ?_)
    refine And.intro (fun c6 => ?_) (fun c6 => ?_)
    · have ib9 := (hx5.resolve_right (fun z => c6 z.1)).2
      clear hx5 c6
      refine hK 27 _ [] T ?_
      have hry := hrx
      obtain ⟨L, hB, hR⟩ := hry
      have hl : lk_ T (T 253 0 m) (L m 0) ∧ T 254 0 m = ((L m 0).length : Int) := hB.1 m 0 (by omega) (by omega) (by decide) (by decide)
      have hru0 := hrl 0 (by decide) (by decide)
      have rwT := rw_l hB (m := m) (by omega) (by omega)
      refine j_blx (F := fX11) tb_X11 (nn_ _) bk_X11_review_e_27 bs_X11_review_e_27 hz (fun K hK => ?_)
      refine ix_i (by omega) ?_
      intro b7 b7b
      refine hK 35 _ [vI 0, vI (T 230 0 m), vR 111 0] T ?_
      refine j_callV (y := yX11_rule0) (Yc := zX11_rule0) (rest := []) [vI (T 230 0 m), vI 0] (ct_X11_rule0 (T := T) (by omega) (by omega)) cl_X11_321 (qd_c (by decide +kernel)) (nn_ _) rfl (rf_of rfl) (Nat.le_of_ble_eq_true rfl) (Nat.le_of_ble_eq_true rfl) (Nat.le_of_ble_eq_true rfl) rfl ?_
      rintro _ _ ⟨rfl, rfl⟩
      show J_ zX11_review T (po_X11_review_e T ru m i k s p q) 0 0 38 _ [vI (T 205 0 (23 * (T 230 0 m) + 0))] T
      refine j_blx (F := fX11) tb_X11 (nn_ _) bk_X11_review_e_38 bs_X11_review_e_38 hz (fun K hK => ?_)
      refine ix_i (by omega) ?_
      intro b8 b8b
      refine hK 48 [some (vR 111 0), some (vI m), some (vI i), some (vI k), some (vI s), some (vI p), some (vI q), some (vI (T 205 0 (23 * (T 230 0 m) + 0))), none] [vI i, vI (T 253 0 m), vR 111 0] T ?_
      refine j_callV (y := yX11_rowAt) (Yc := zX11_rowAt) (rest := []) [vI (T 253 0 m), vI i] (ct_X11_rowAt (T := T) (l := L m 0) (by exact hl.1) (by omega)) cl_X11_456 (qd_c (by decide +kernel)) (nn_ _) rfl (rf_of rfl) (Nat.le_of_ble_eq_true rfl) (Nat.le_of_ble_eq_true rfl) (Nat.le_of_ble_eq_true rfl) rfl ?_
      rintro _ _ ⟨rfl, x9, rfl, hx9⟩
      show J_ zX11_review T (po_X11_review_e T ru m i k s p q) 0 0 51 _ [vI x9] T
      have rwi : (rw9_ T m)[i.toNat]? = some (rwc_ T x9) := by rw [rwT, List.getElem?_map, hx9.1]; rfl
      refine j_blx (F := fX11) tb_X11 (nn_ _) bk_X11_review_e_51 bs_X11_review_e_51 hz (fun K hK => ?_)
      refine And.intro (fun c10 => ?_) (fun c10 => ?_)
      · refine hK 119 [some (vR 111 0), some (vI m), some (vI i), some (vI k), some (vI s), some (vI p), some (vI q), some (vI (T 205 0 (23 * (T 230 0 m) + 0))), some (vI x9)] [] T ?_
        refine j_blx (F := fX11) tb_X11 (nn_ _) bk_X11_review_e_119 bs_X11_review_e_119 hz (fun K hK => ?_)
        refine hK 125 _ [vI s, vI k, vI (T 205 0 (23 * (T 230 0 m) + 0)), vR 111 0] T ?_
        refine j_callV (y := yX11_isTold) (Yc := zX11_isTold) (rest := []) [vI (T 205 0 (23 * (T 230 0 m) + 0)), vI k, vI s] (ct_X11_isTold_e (T := T)) cl_X11_397 (qd_c (by decide +kernel)) (nn_ _) rfl (rf_of rfl) (Nat.le_of_ble_eq_true rfl) (Nat.le_of_ble_eq_true rfl) (Nat.le_of_ble_eq_true rfl) rfl ?_
        rintro _ _ ⟨rfl, x11, rfl, hx11⟩
        show J_ zX11_review T (po_X11_review_e T ru m i k s p q) 0 0 128 _ [vI x11] T
        refine j_blx (F := fX11) tb_X11 (nn_ _) bk_X11_review_e_128 bs_X11_review_e_128 hz (fun K hK => ?_)
        refine And.intro (fun c12 => ?_) (fun c12 => ?_)
        · have tl9 := fun (_ : Unit) => (hx11.resolve_right (fun z => c12 z.1)).2
          rw [hru0] at tl9
          clear hx11
          refine hK 134 _ [] T ?_
          refine j_blx (F := fX11) tb_X11 (nn_ _) bk_X11_review_e_134 bs_X11_review_e_134 hz (fun K hK => ?_)
          refine hK 139 _ [vI q, vI k, vI (T 205 0 (23 * (T 230 0 m) + 0))] T ?_
          refine j_callS (y := yX11_isBounded) (Yc := zX11_isBounded) (rest := []) [vI (T 205 0 (23 * (T 230 0 m) + 0)), vI k, vI q] (ct_X11_isBounded_e (T := T)) cl_X11_407 (qd_c (by decide +kernel)) (nn_ _) rfl (rf_of rfl) (Nat.le_of_ble_eq_true rfl) (Nat.le_of_ble_eq_true rfl) (Nat.le_of_ble_eq_true rfl) rfl ?_
          rintro _ _ ⟨rfl, x13, rfl, hx13⟩
          show J_ zX11_review T (po_X11_review_e T ru m i k s p q) 0 0 142 _ [vI x13] T
          refine j_blx (F := fX11) tb_X11 (nn_ _) bk_X11_review_e_142 bs_X11_review_e_142 hz (fun K hK => ?_)
          refine And.intro (fun c14 => ?_) (fun c14 => ?_)
          · have bd9 := fun (_ : Unit) => (hx13.resolve_right (fun z => c14 z.1)).2
            rw [hru0] at bd9
            clear hx13
            refine hK 148 _ [] T ?_
            refine j_blx (F := fX11) tb_X11 (nn_ _) bk_X11_review_e_148 bs_X11_review_e_148 hz (fun K hK => ?_)
            refine ix_i (by omega) ?_
            intro b15 b15b
            refine And.intro (fun c16 => ?_) (fun c16 => ?_)
            · refine hK 198 _ [] T ?_
              refine j_blx (F := fX11) tb_X11 (nn_ _) bk_X11_review_e_198 bs_X11_review_e_198 hz (fun K hK => ?_)
              refine iy_i (by omega) (by omega) ?_
              refine x_nm (fun U17 hU17 => ?_)
              have e18 := up_f hU17
              refine iy_i (by omega) (by omega) ?_
              refine x_nm (fun U19 hU19 => ?_)
              have e20 := up_f hU19
              refine iy_i (by omega) (by omega) ?_
              refine x_nm (fun U21 hU21 => ?_)
              have e22 := up_f hU21
              refine iy_i (by omega) (by omega) ?_
              refine x_nm (fun U23 hU23 => ?_)
              have e24 := up_f hU23
              refine hK 235 _ [vI m, vR 111 0] U23 ?_
              have e25 : U23 111 0 29 = T 111 0 29 := (up_k hU23 (by exact Nat.ne_of_beq_eq_false rfl) 0 29).trans ((up_k hU21 (by exact Nat.ne_of_beq_eq_false rfl) 0 29).trans ((up_k hU19 (by exact Nat.ne_of_beq_eq_false rfl) 0 29).trans (up_k hU17 (by exact Nat.ne_of_beq_eq_false rfl) 0 29)))
              have fz : fr_ [(251, []), (250, []), (249, []), (248, [])] T U23 := fr_u (fr_u (fr_u (fr_u (fr_0 _ _) hU17 rfl) hU19 rfl) hU21 rfl) hU23 rfl
              have rbz : RB_ U23 L := rb_f hB (fz 111 0 29 rfl) (fz 111 0 47 rfl) (fun k j h => fz k 0 j (by rcases h with rfl | rfl | rfl | rfl | rfl <;> rfl))
              have rcx : rwc_ U23 x9 = (k, s, p, q) := by
                unfold rwc_
                rw [show U23 248 0 x9 = k from ((up_k hU23 (by exact Nat.ne_of_beq_eq_false rfl) 0 x9).trans ((up_k hU21 (by exact Nat.ne_of_beq_eq_false rfl) 0 x9).trans (up_k hU19 (by exact Nat.ne_of_beq_eq_false rfl) 0 x9))).trans (up_f hU17), show U23 249 0 x9 = s from ((up_k hU23 (by exact Nat.ne_of_beq_eq_false rfl) 0 x9).trans (up_k hU21 (by exact Nat.ne_of_beq_eq_false rfl) 0 x9)).trans (up_f hU19), show U23 250 0 x9 = p from (up_k hU23 (by exact Nat.ne_of_beq_eq_false rfl) 0 x9).trans (up_f hU21), show U23 251 0 x9 = q from up_f hU23]
              have rwz := rw_c hB rbz (fz 111 0 29 rfl) (fun k y h n => by rcases h with rfl | rfl | rfl | rfl; exact (up_k hU23 (by exact Nat.ne_of_beq_eq_false rfl) 0 y).trans ((up_k hU21 (by exact Nat.ne_of_beq_eq_false rfl) 0 y).trans ((up_k hU19 (by exact Nat.ne_of_beq_eq_false rfl) 0 y).trans (up_g hU17 (fun z => n z.2.2)))); exact (up_k hU23 (by exact Nat.ne_of_beq_eq_false rfl) 0 y).trans ((up_k hU21 (by exact Nat.ne_of_beq_eq_false rfl) 0 y).trans ((up_g hU19 (fun z => n z.2.2)).trans (up_k hU17 (by exact Nat.ne_of_beq_eq_false rfl) 0 y))); exact (up_k hU23 (by exact Nat.ne_of_beq_eq_false rfl) 0 y).trans ((up_g hU21 (fun z => n z.2.2)).trans ((up_k hU19 (by exact Nat.ne_of_beq_eq_false rfl) 0 y).trans (up_k hU17 (by exact Nat.ne_of_beq_eq_false rfl) 0 y))); exact (up_g hU23 (fun z => n z.2.2)).trans ((up_k hU21 (by exact Nat.ne_of_beq_eq_false rfl) 0 y).trans ((up_k hU19 (by exact Nat.ne_of_beq_eq_false rfl) 0 y).trans (up_k hU17 (by exact Nat.ne_of_beq_eq_false rfl) 0 y)))) rcx hx9.1 (by omega) (by omega)
              refine j_callV (y := yX11_playAnew) (Yc := zX11_playAnew) (rest := []) [vI m] (ct_X11_playAnew_e (T := U23) (ru := ru) (by omega) (by exact MC__f (ws := [(251, []), (250, []), (249, []), (248, [])]) hmc (fr_u (fr_u (fr_u (fr_u (fr_0 _ _) hU17 rfl) hU19 rfl) hU21 rfl) hU23 rfl) ⟨fun _ => rfl, rfl, rfl, trivial⟩) (by exact RI__f (ws := [(251, []), (250, []), (249, []), (248, [])]) hri (fr_u (fr_u (fr_u (fr_u (fr_0 _ _) hU17 rfl) hU19 rfl) hU21 rfl) hU23 rfl) ⟨fun _ => rfl, rfl, trivial⟩) (by exact FM__f (ws := [(251, [])]) (FM__f (ws := [(250, [])]) (FM__f (ws := [(249, [])]) (FM__f (ws := [(248, [])]) (hfm) (fr_u (fr_0 _ _) hU17 rfl) ⟨fun _ => rfl, fun _ => rfl, trivial⟩) (fr_u (fr_0 _ _) hU19 rfl) ⟨fun _ => rfl, fun _ => rfl, trivial⟩) (fr_u (fr_0 _ _) hU21 rfl) ⟨fun _ => rfl, fun _ => rfl, trivial⟩) (fr_u (fr_0 _ _) hU23 rfl) ⟨fun _ => rfl, fun _ => rfl, trivial⟩) (by exact ⟨L, rbz, (fun _ hx => absurd hx List.not_mem_nil), List.nodup_nil, (fun _ _ _ hx => absurd hx List.not_mem_nil)⟩) (by exact ZS__f (ws := [(251, []), (250, []), (249, []), (248, [])]) hzs (fr_u (fr_u (fr_u (fr_u (fr_0 _ _) hU17 rfl) hU19 rfl) hU21 rfl) hU23 rfl) ⟨fun _ => rfl, fun _ => rfl, trivial⟩) (by exact gx_f hgs fz ⟨fun _ => rfl, fun _ => rfl, fun _ => rfl⟩ (fun j hj => (up_k hU23 (by exact Nat.ne_of_beq_eq_false rfl) 0 j).trans ((up_k hU21 (by exact Nat.ne_of_beq_eq_false rfl) 0 j).trans ((up_k hU19 (by exact Nat.ne_of_beq_eq_false rfl) 0 j).trans (up_k hU17 (by exact Nat.ne_of_beq_eq_false rfl) 0 j)))) (Or.inl rfl)) (rlr_f (ws := [(251, []), (250, []), (249, []), (248, [])]) hrl (fr_u (fr_u (fr_u (fr_u (fr_0 _ _) hU17 rfl) hU19 rfl) hU21 rfl) hU23 rfl) (fun _ => rfl) (fun _ => rfl))) cl_X11_473 (qd_c (by decide +kernel)) (nn_ _) rfl (rf_of rfl) (Nat.le_of_ble_eq_true rfl) (Nat.le_of_ble_eq_true rfl) (Nat.le_of_ble_eq_true rfl) rfl ?_
              rintro U26 _ ⟨x27, rfl, fU26, ⟨qU26a, qU26b, qU26z, qU26g, qU26r, qU26n, qU26o⟩⟩
              show J_ zX11_review T (po_X11_review_e T ru m i k s p q) 0 0 238 _ [vI x27] U26
              refine j_blx (F := fX11) tb_X11 (nn_ _) bk_X11_review_e_238 bs_X11_review_e_238 hz (fun K hK => ?_)
              refine (show po_X11_review_e T ru m i k s p q U26 (some (vI x27)) from ?_)
              have omz : OMR_ T U26 m := ⟨ro_t (rp_xo (fun K j h => fz K 0 j (by rcases h with rfl | rfl | rfl | rfl | rfl | rfl | rfl | rfl | rfl | rfl | rfl <;> rfl))) qU26o.1, fun j hj j0 j1 => ⟨((qU26o.2 j hj j0 (by have := fz 111 0 29 rfl; omega)).1).trans (rwz.2 j hj j0 j1), (qU26r j hj).1.trans ((up_k hU23 (by exact Nat.ne_of_beq_eq_false rfl) 0 j).trans ((up_k hU21 (by exact Nat.ne_of_beq_eq_false rfl) 0 j).trans ((up_k hU19 (by exact Nat.ne_of_beq_eq_false rfl) 0 j).trans (up_k hU17 (by exact Nat.ne_of_beq_eq_false rfl) 0 j)))), (qU26r j hj).2.trans ((up_k hU23 (by exact Nat.ne_of_beq_eq_false rfl) 0 j).trans ((up_k hU21 (by exact Nat.ne_of_beq_eq_false rfl) 0 j).trans ((up_k hU19 (by exact Nat.ne_of_beq_eq_false rfl) 0 j).trans (up_k hU17 (by exact Nat.ne_of_beq_eq_false rfl) 0 j))))⟩⟩
              have rnz : ∀ x, RNR_ ru m x U23 U26 (rw9_ U23 m) → RNR_ ru m x T U26 ((rw9_ T m).set i.toNat (k, s, p, q)) := fun x z => by
                obtain ⟨b, z1, z2, z3, z4, z5⟩ := z
                rw [rwz.1] at z2 z3 z4
                rw [rp_x (T := T) (T1 := U23) (m := m) (fun K j h => fz K 0 j (by rcases h with rfl | rfl | rfl | rfl | rfl | rfl | rfl | rfl | rfl | rfl | rfl <;> rfl))] at z1
                exact ⟨b, z1, z2, z3, z4, by rw [z5, fz 256 0 m rfl]⟩
              have nsm : ¬ ((rw9_ T m)[i.toNat]? = some (k, s, p, q)) := fun z => by
                rw [rwi] at z
                have z1 := Option.some.inj z
                unfold rwc_ at z1
                have y0 : T 248 0 x9 = k := congrArg Prod.fst z1
                have y1 : T 249 0 x9 = s := congrArg (fun t => t.2.1) z1
                have y2 : T 250 0 x9 = p := congrArg (fun t => t.2.2.1) z1
                have y3 : T 251 0 x9 = q := congrArg (fun t => t.2.2.2) z1
                omega
              exact ⟨_, rfl, fr_t (fr_u (fr_u (fr_u (fr_u (fr_0 _ _) hU17 rfl) hU19 rfl) hU21 rfl) hU23 rfl) (fr_s fU26 rfl), qU26a, qU26b, qU26z, qU26g, fun j hk => (fun (hj : j ≠ m) => ⟨(qU26r j hj).1.trans ((up_k hU23 (by exact Nat.ne_of_beq_eq_false rfl) 0 j).trans ((up_k hU21 (by exact Nat.ne_of_beq_eq_false rfl) 0 j).trans ((up_k hU19 (by exact Nat.ne_of_beq_eq_false rfl) 0 j).trans (up_k hU17 (by exact Nat.ne_of_beq_eq_false rfl) 0 j)))), (qU26r j hj).2.trans ((up_k hU23 (by exact Nat.ne_of_beq_eq_false rfl) 0 j).trans ((up_k hU21 (by exact Nat.ne_of_beq_eq_false rfl) 0 j).trans ((up_k hU19 (by exact Nat.ne_of_beq_eq_false rfl) 0 j).trans (up_k hU17 (by exact Nat.ne_of_beq_eq_false rfl) 0 j))))⟩) (by omega), Or.inr ⟨by omega, omz, Or.inr ⟨by omega, Or.inr (Or.inr (Or.inr ⟨tl9 (), bd9 (), nsm, rnz _ qU26n⟩))⟩⟩⟩
            · refine ix_i (by omega) ?_
              intro b28 b28b
              refine And.intro (fun c29 => ?_) (fun c29 => ?_)
              · refine hK 198 _ [] T ?_
                refine j_blx (F := fX11) tb_X11 (nn_ _) bk_X11_review_e_198 bs_X11_review_e_198 hz (fun K hK => ?_)
                refine iy_i (by omega) (by omega) ?_
                refine x_nm (fun U30 hU30 => ?_)
                have e31 := up_f hU30
                refine iy_i (by omega) (by omega) ?_
                refine x_nm (fun U32 hU32 => ?_)
                have e33 := up_f hU32
                refine iy_i (by omega) (by omega) ?_
                refine x_nm (fun U34 hU34 => ?_)
                have e35 := up_f hU34
                refine iy_i (by omega) (by omega) ?_
                refine x_nm (fun U36 hU36 => ?_)
                have e37 := up_f hU36
                refine hK 235 _ [vI m, vR 111 0] U36 ?_
                have e38 : U36 111 0 29 = T 111 0 29 := (up_k hU36 (by exact Nat.ne_of_beq_eq_false rfl) 0 29).trans ((up_k hU34 (by exact Nat.ne_of_beq_eq_false rfl) 0 29).trans ((up_k hU32 (by exact Nat.ne_of_beq_eq_false rfl) 0 29).trans (up_k hU30 (by exact Nat.ne_of_beq_eq_false rfl) 0 29)))
                have fz : fr_ [(251, []), (250, []), (249, []), (248, [])] T U36 := fr_u (fr_u (fr_u (fr_u (fr_0 _ _) hU30 rfl) hU32 rfl) hU34 rfl) hU36 rfl
                have rbz : RB_ U36 L := rb_f hB (fz 111 0 29 rfl) (fz 111 0 47 rfl) (fun k j h => fz k 0 j (by rcases h with rfl | rfl | rfl | rfl | rfl <;> rfl))
                have rcx : rwc_ U36 x9 = (k, s, p, q) := by
                  unfold rwc_
                  rw [show U36 248 0 x9 = k from ((up_k hU36 (by exact Nat.ne_of_beq_eq_false rfl) 0 x9).trans ((up_k hU34 (by exact Nat.ne_of_beq_eq_false rfl) 0 x9).trans (up_k hU32 (by exact Nat.ne_of_beq_eq_false rfl) 0 x9))).trans (up_f hU30), show U36 249 0 x9 = s from ((up_k hU36 (by exact Nat.ne_of_beq_eq_false rfl) 0 x9).trans (up_k hU34 (by exact Nat.ne_of_beq_eq_false rfl) 0 x9)).trans (up_f hU32), show U36 250 0 x9 = p from (up_k hU36 (by exact Nat.ne_of_beq_eq_false rfl) 0 x9).trans (up_f hU34), show U36 251 0 x9 = q from up_f hU36]
                have rwz := rw_c hB rbz (fz 111 0 29 rfl) (fun k y h n => by rcases h with rfl | rfl | rfl | rfl; exact (up_k hU36 (by exact Nat.ne_of_beq_eq_false rfl) 0 y).trans ((up_k hU34 (by exact Nat.ne_of_beq_eq_false rfl) 0 y).trans ((up_k hU32 (by exact Nat.ne_of_beq_eq_false rfl) 0 y).trans (up_g hU30 (fun z => n z.2.2)))); exact (up_k hU36 (by exact Nat.ne_of_beq_eq_false rfl) 0 y).trans ((up_k hU34 (by exact Nat.ne_of_beq_eq_false rfl) 0 y).trans ((up_g hU32 (fun z => n z.2.2)).trans (up_k hU30 (by exact Nat.ne_of_beq_eq_false rfl) 0 y))); exact (up_k hU36 (by exact Nat.ne_of_beq_eq_false rfl) 0 y).trans ((up_g hU34 (fun z => n z.2.2)).trans ((up_k hU32 (by exact Nat.ne_of_beq_eq_false rfl) 0 y).trans (up_k hU30 (by exact Nat.ne_of_beq_eq_false rfl) 0 y))); exact (up_g hU36 (fun z => n z.2.2)).trans ((up_k hU34 (by exact Nat.ne_of_beq_eq_false rfl) 0 y).trans ((up_k hU32 (by exact Nat.ne_of_beq_eq_false rfl) 0 y).trans (up_k hU30 (by exact Nat.ne_of_beq_eq_false rfl) 0 y)))) rcx hx9.1 (by omega) (by omega)
                refine j_callV (y := yX11_playAnew) (Yc := zX11_playAnew) (rest := []) [vI m] (ct_X11_playAnew_e (T := U36) (ru := ru) (by omega) (by exact MC__f (ws := [(251, []), (250, []), (249, []), (248, [])]) hmc (fr_u (fr_u (fr_u (fr_u (fr_0 _ _) hU30 rfl) hU32 rfl) hU34 rfl) hU36 rfl) ⟨fun _ => rfl, rfl, rfl, trivial⟩) (by exact RI__f (ws := [(251, []), (250, []), (249, []), (248, [])]) hri (fr_u (fr_u (fr_u (fr_u (fr_0 _ _) hU30 rfl) hU32 rfl) hU34 rfl) hU36 rfl) ⟨fun _ => rfl, rfl, trivial⟩) (by exact FM__f (ws := [(251, [])]) (FM__f (ws := [(250, [])]) (FM__f (ws := [(249, [])]) (FM__f (ws := [(248, [])]) (hfm) (fr_u (fr_0 _ _) hU30 rfl) ⟨fun _ => rfl, fun _ => rfl, trivial⟩) (fr_u (fr_0 _ _) hU32 rfl) ⟨fun _ => rfl, fun _ => rfl, trivial⟩) (fr_u (fr_0 _ _) hU34 rfl) ⟨fun _ => rfl, fun _ => rfl, trivial⟩) (fr_u (fr_0 _ _) hU36 rfl) ⟨fun _ => rfl, fun _ => rfl, trivial⟩) (by exact ⟨L, rbz, (fun _ hx => absurd hx List.not_mem_nil), List.nodup_nil, (fun _ _ _ hx => absurd hx List.not_mem_nil)⟩) (by exact ZS__f (ws := [(251, []), (250, []), (249, []), (248, [])]) hzs (fr_u (fr_u (fr_u (fr_u (fr_0 _ _) hU30 rfl) hU32 rfl) hU34 rfl) hU36 rfl) ⟨fun _ => rfl, fun _ => rfl, trivial⟩) (by exact gx_f hgs fz ⟨fun _ => rfl, fun _ => rfl, fun _ => rfl⟩ (fun j hj => (up_k hU36 (by exact Nat.ne_of_beq_eq_false rfl) 0 j).trans ((up_k hU34 (by exact Nat.ne_of_beq_eq_false rfl) 0 j).trans ((up_k hU32 (by exact Nat.ne_of_beq_eq_false rfl) 0 j).trans (up_k hU30 (by exact Nat.ne_of_beq_eq_false rfl) 0 j)))) (Or.inl rfl)) (rlr_f (ws := [(251, []), (250, []), (249, []), (248, [])]) hrl (fr_u (fr_u (fr_u (fr_u (fr_0 _ _) hU30 rfl) hU32 rfl) hU34 rfl) hU36 rfl) (fun _ => rfl) (fun _ => rfl))) cl_X11_473 (qd_c (by decide +kernel)) (nn_ _) rfl (rf_of rfl) (Nat.le_of_ble_eq_true rfl) (Nat.le_of_ble_eq_true rfl) (Nat.le_of_ble_eq_true rfl) rfl ?_
                rintro U39 _ ⟨x40, rfl, fU39, ⟨qU39a, qU39b, qU39z, qU39g, qU39r, qU39n, qU39o⟩⟩
                show J_ zX11_review T (po_X11_review_e T ru m i k s p q) 0 0 238 _ [vI x40] U39
                refine j_blx (F := fX11) tb_X11 (nn_ _) bk_X11_review_e_238 bs_X11_review_e_238 hz (fun K hK => ?_)
                refine (show po_X11_review_e T ru m i k s p q U39 (some (vI x40)) from ?_)
                have omz : OMR_ T U39 m := ⟨ro_t (rp_xo (fun K j h => fz K 0 j (by rcases h with rfl | rfl | rfl | rfl | rfl | rfl | rfl | rfl | rfl | rfl | rfl <;> rfl))) qU39o.1, fun j hj j0 j1 => ⟨((qU39o.2 j hj j0 (by have := fz 111 0 29 rfl; omega)).1).trans (rwz.2 j hj j0 j1), (qU39r j hj).1.trans ((up_k hU36 (by exact Nat.ne_of_beq_eq_false rfl) 0 j).trans ((up_k hU34 (by exact Nat.ne_of_beq_eq_false rfl) 0 j).trans ((up_k hU32 (by exact Nat.ne_of_beq_eq_false rfl) 0 j).trans (up_k hU30 (by exact Nat.ne_of_beq_eq_false rfl) 0 j)))), (qU39r j hj).2.trans ((up_k hU36 (by exact Nat.ne_of_beq_eq_false rfl) 0 j).trans ((up_k hU34 (by exact Nat.ne_of_beq_eq_false rfl) 0 j).trans ((up_k hU32 (by exact Nat.ne_of_beq_eq_false rfl) 0 j).trans (up_k hU30 (by exact Nat.ne_of_beq_eq_false rfl) 0 j))))⟩⟩
                have rnz : ∀ x, RNR_ ru m x U36 U39 (rw9_ U36 m) → RNR_ ru m x T U39 ((rw9_ T m).set i.toNat (k, s, p, q)) := fun x z => by
                  obtain ⟨b, z1, z2, z3, z4, z5⟩ := z
                  rw [rwz.1] at z2 z3 z4
                  rw [rp_x (T := T) (T1 := U36) (m := m) (fun K j h => fz K 0 j (by rcases h with rfl | rfl | rfl | rfl | rfl | rfl | rfl | rfl | rfl | rfl | rfl <;> rfl))] at z1
                  exact ⟨b, z1, z2, z3, z4, by rw [z5, fz 256 0 m rfl]⟩
                have nsm : ¬ ((rw9_ T m)[i.toNat]? = some (k, s, p, q)) := fun z => by
                  rw [rwi] at z
                  have z1 := Option.some.inj z
                  unfold rwc_ at z1
                  have y0 : T 248 0 x9 = k := congrArg Prod.fst z1
                  have y1 : T 249 0 x9 = s := congrArg (fun t => t.2.1) z1
                  have y2 : T 250 0 x9 = p := congrArg (fun t => t.2.2.1) z1
                  have y3 : T 251 0 x9 = q := congrArg (fun t => t.2.2.2) z1
                  omega
                exact ⟨_, rfl, fr_t (fr_u (fr_u (fr_u (fr_u (fr_0 _ _) hU30 rfl) hU32 rfl) hU34 rfl) hU36 rfl) (fr_s fU39 rfl), qU39a, qU39b, qU39z, qU39g, fun j hk => (fun (hj : j ≠ m) => ⟨(qU39r j hj).1.trans ((up_k hU36 (by exact Nat.ne_of_beq_eq_false rfl) 0 j).trans ((up_k hU34 (by exact Nat.ne_of_beq_eq_false rfl) 0 j).trans ((up_k hU32 (by exact Nat.ne_of_beq_eq_false rfl) 0 j).trans (up_k hU30 (by exact Nat.ne_of_beq_eq_false rfl) 0 j)))), (qU39r j hj).2.trans ((up_k hU36 (by exact Nat.ne_of_beq_eq_false rfl) 0 j).trans ((up_k hU34 (by exact Nat.ne_of_beq_eq_false rfl) 0 j).trans ((up_k hU32 (by exact Nat.ne_of_beq_eq_false rfl) 0 j).trans (up_k hU30 (by exact Nat.ne_of_beq_eq_false rfl) 0 j))))⟩) (by omega), Or.inr ⟨by omega, omz, Or.inr ⟨by omega, Or.inr (Or.inr (Or.inr ⟨tl9 (), bd9 (), nsm, rnz _ qU39n⟩))⟩⟩⟩
              · refine ix_i (by omega) ?_
                intro b41 b41b
                refine And.intro (fun c42 => ?_) (fun c42 => ?_)
                · refine hK 198 _ [] T ?_
                  refine j_blx (F := fX11) tb_X11 (nn_ _) bk_X11_review_e_198 bs_X11_review_e_198 hz (fun K hK => ?_)
                  refine iy_i (by omega) (by omega) ?_
                  refine x_nm (fun U43 hU43 => ?_)
                  have e44 := up_f hU43
                  refine iy_i (by omega) (by omega) ?_
                  refine x_nm (fun U45 hU45 => ?_)
                  have e46 := up_f hU45
                  refine iy_i (by omega) (by omega) ?_
                  refine x_nm (fun U47 hU47 => ?_)
                  have e48 := up_f hU47
                  refine iy_i (by omega) (by omega) ?_
                  refine x_nm (fun U49 hU49 => ?_)
                  have e50 := up_f hU49
                  refine hK 235 _ [vI m, vR 111 0] U49 ?_
                  have e51 : U49 111 0 29 = T 111 0 29 := (up_k hU49 (by exact Nat.ne_of_beq_eq_false rfl) 0 29).trans ((up_k hU47 (by exact Nat.ne_of_beq_eq_false rfl) 0 29).trans ((up_k hU45 (by exact Nat.ne_of_beq_eq_false rfl) 0 29).trans (up_k hU43 (by exact Nat.ne_of_beq_eq_false rfl) 0 29)))
                  have fz : fr_ [(251, []), (250, []), (249, []), (248, [])] T U49 := fr_u (fr_u (fr_u (fr_u (fr_0 _ _) hU43 rfl) hU45 rfl) hU47 rfl) hU49 rfl
                  have rbz : RB_ U49 L := rb_f hB (fz 111 0 29 rfl) (fz 111 0 47 rfl) (fun k j h => fz k 0 j (by rcases h with rfl | rfl | rfl | rfl | rfl <;> rfl))
                  have rcx : rwc_ U49 x9 = (k, s, p, q) := by
                    unfold rwc_
                    rw [show U49 248 0 x9 = k from ((up_k hU49 (by exact Nat.ne_of_beq_eq_false rfl) 0 x9).trans ((up_k hU47 (by exact Nat.ne_of_beq_eq_false rfl) 0 x9).trans (up_k hU45 (by exact Nat.ne_of_beq_eq_false rfl) 0 x9))).trans (up_f hU43), show U49 249 0 x9 = s from ((up_k hU49 (by exact Nat.ne_of_beq_eq_false rfl) 0 x9).trans (up_k hU47 (by exact Nat.ne_of_beq_eq_false rfl) 0 x9)).trans (up_f hU45), show U49 250 0 x9 = p from (up_k hU49 (by exact Nat.ne_of_beq_eq_false rfl) 0 x9).trans (up_f hU47), show U49 251 0 x9 = q from up_f hU49]
                  have rwz := rw_c hB rbz (fz 111 0 29 rfl) (fun k y h n => by rcases h with rfl | rfl | rfl | rfl; exact (up_k hU49 (by exact Nat.ne_of_beq_eq_false rfl) 0 y).trans ((up_k hU47 (by exact Nat.ne_of_beq_eq_false rfl) 0 y).trans ((up_k hU45 (by exact Nat.ne_of_beq_eq_false rfl) 0 y).trans (up_g hU43 (fun z => n z.2.2)))); exact (up_k hU49 (by exact Nat.ne_of_beq_eq_false rfl) 0 y).trans ((up_k hU47 (by exact Nat.ne_of_beq_eq_false rfl) 0 y).trans ((up_g hU45 (fun z => n z.2.2)).trans (up_k hU43 (by exact Nat.ne_of_beq_eq_false rfl) 0 y))); exact (up_k hU49 (by exact Nat.ne_of_beq_eq_false rfl) 0 y).trans ((up_g hU47 (fun z => n z.2.2)).trans ((up_k hU45 (by exact Nat.ne_of_beq_eq_false rfl) 0 y).trans (up_k hU43 (by exact Nat.ne_of_beq_eq_false rfl) 0 y))); exact (up_g hU49 (fun z => n z.2.2)).trans ((up_k hU47 (by exact Nat.ne_of_beq_eq_false rfl) 0 y).trans ((up_k hU45 (by exact Nat.ne_of_beq_eq_false rfl) 0 y).trans (up_k hU43 (by exact Nat.ne_of_beq_eq_false rfl) 0 y)))) rcx hx9.1 (by omega) (by omega)
                  refine j_callV (y := yX11_playAnew) (Yc := zX11_playAnew) (rest := []) [vI m] (ct_X11_playAnew_e (T := U49) (ru := ru) (by omega) (by exact MC__f (ws := [(251, []), (250, []), (249, []), (248, [])]) hmc (fr_u (fr_u (fr_u (fr_u (fr_0 _ _) hU43 rfl) hU45 rfl) hU47 rfl) hU49 rfl) ⟨fun _ => rfl, rfl, rfl, trivial⟩) (by exact RI__f (ws := [(251, []), (250, []), (249, []), (248, [])]) hri (fr_u (fr_u (fr_u (fr_u (fr_0 _ _) hU43 rfl) hU45 rfl) hU47 rfl) hU49 rfl) ⟨fun _ => rfl, rfl, trivial⟩) (by exact FM__f (ws := [(251, [])]) (FM__f (ws := [(250, [])]) (FM__f (ws := [(249, [])]) (FM__f (ws := [(248, [])]) (hfm) (fr_u (fr_0 _ _) hU43 rfl) ⟨fun _ => rfl, fun _ => rfl, trivial⟩) (fr_u (fr_0 _ _) hU45 rfl) ⟨fun _ => rfl, fun _ => rfl, trivial⟩) (fr_u (fr_0 _ _) hU47 rfl) ⟨fun _ => rfl, fun _ => rfl, trivial⟩) (fr_u (fr_0 _ _) hU49 rfl) ⟨fun _ => rfl, fun _ => rfl, trivial⟩) (by exact ⟨L, rbz, (fun _ hx => absurd hx List.not_mem_nil), List.nodup_nil, (fun _ _ _ hx => absurd hx List.not_mem_nil)⟩) (by exact ZS__f (ws := [(251, []), (250, []), (249, []), (248, [])]) hzs (fr_u (fr_u (fr_u (fr_u (fr_0 _ _) hU43 rfl) hU45 rfl) hU47 rfl) hU49 rfl) ⟨fun _ => rfl, fun _ => rfl, trivial⟩) (by exact gx_f hgs fz ⟨fun _ => rfl, fun _ => rfl, fun _ => rfl⟩ (fun j hj => (up_k hU49 (by exact Nat.ne_of_beq_eq_false rfl) 0 j).trans ((up_k hU47 (by exact Nat.ne_of_beq_eq_false rfl) 0 j).trans ((up_k hU45 (by exact Nat.ne_of_beq_eq_false rfl) 0 j).trans (up_k hU43 (by exact Nat.ne_of_beq_eq_false rfl) 0 j)))) (Or.inl rfl)) (rlr_f (ws := [(251, []), (250, []), (249, []), (248, [])]) hrl (fr_u (fr_u (fr_u (fr_u (fr_0 _ _) hU43 rfl) hU45 rfl) hU47 rfl) hU49 rfl) (fun _ => rfl) (fun _ => rfl))) cl_X11_473 (qd_c (by decide +kernel)) (nn_ _) rfl (rf_of rfl) (Nat.le_of_ble_eq_true rfl) (Nat.le_of_ble_eq_true rfl) (Nat.le_of_ble_eq_true rfl) rfl ?_
                  rintro U52 _ ⟨x53, rfl, fU52, ⟨qU52a, qU52b, qU52z, qU52g, qU52r, qU52n, qU52o⟩⟩
                  show J_ zX11_review T (po_X11_review_e T ru m i k s p q) 0 0 238 _ [vI x53] U52
                  refine j_blx (F := fX11) tb_X11 (nn_ _) bk_X11_review_e_238 bs_X11_review_e_238 hz (fun K hK => ?_)
                  refine (show po_X11_review_e T ru m i k s p q U52 (some (vI x53)) from ?_)
                  have omz : OMR_ T U52 m := ⟨ro_t (rp_xo (fun K j h => fz K 0 j (by rcases h with rfl | rfl | rfl | rfl | rfl | rfl | rfl | rfl | rfl | rfl | rfl <;> rfl))) qU52o.1, fun j hj j0 j1 => ⟨((qU52o.2 j hj j0 (by have := fz 111 0 29 rfl; omega)).1).trans (rwz.2 j hj j0 j1), (qU52r j hj).1.trans ((up_k hU49 (by exact Nat.ne_of_beq_eq_false rfl) 0 j).trans ((up_k hU47 (by exact Nat.ne_of_beq_eq_false rfl) 0 j).trans ((up_k hU45 (by exact Nat.ne_of_beq_eq_false rfl) 0 j).trans (up_k hU43 (by exact Nat.ne_of_beq_eq_false rfl) 0 j)))), (qU52r j hj).2.trans ((up_k hU49 (by exact Nat.ne_of_beq_eq_false rfl) 0 j).trans ((up_k hU47 (by exact Nat.ne_of_beq_eq_false rfl) 0 j).trans ((up_k hU45 (by exact Nat.ne_of_beq_eq_false rfl) 0 j).trans (up_k hU43 (by exact Nat.ne_of_beq_eq_false rfl) 0 j))))⟩⟩
                  have rnz : ∀ x, RNR_ ru m x U49 U52 (rw9_ U49 m) → RNR_ ru m x T U52 ((rw9_ T m).set i.toNat (k, s, p, q)) := fun x z => by
                    obtain ⟨b, z1, z2, z3, z4, z5⟩ := z
                    rw [rwz.1] at z2 z3 z4
                    rw [rp_x (T := T) (T1 := U49) (m := m) (fun K j h => fz K 0 j (by rcases h with rfl | rfl | rfl | rfl | rfl | rfl | rfl | rfl | rfl | rfl | rfl <;> rfl))] at z1
                    exact ⟨b, z1, z2, z3, z4, by rw [z5, fz 256 0 m rfl]⟩
                  have nsm : ¬ ((rw9_ T m)[i.toNat]? = some (k, s, p, q)) := fun z => by
                    rw [rwi] at z
                    have z1 := Option.some.inj z
                    unfold rwc_ at z1
                    have y0 : T 248 0 x9 = k := congrArg Prod.fst z1
                    have y1 : T 249 0 x9 = s := congrArg (fun t => t.2.1) z1
                    have y2 : T 250 0 x9 = p := congrArg (fun t => t.2.2.1) z1
                    have y3 : T 251 0 x9 = q := congrArg (fun t => t.2.2.2) z1
                    omega
                  exact ⟨_, rfl, fr_t (fr_u (fr_u (fr_u (fr_u (fr_0 _ _) hU43 rfl) hU45 rfl) hU47 rfl) hU49 rfl) (fr_s fU52 rfl), qU52a, qU52b, qU52z, qU52g, fun j hk => (fun (hj : j ≠ m) => ⟨(qU52r j hj).1.trans ((up_k hU49 (by exact Nat.ne_of_beq_eq_false rfl) 0 j).trans ((up_k hU47 (by exact Nat.ne_of_beq_eq_false rfl) 0 j).trans ((up_k hU45 (by exact Nat.ne_of_beq_eq_false rfl) 0 j).trans (up_k hU43 (by exact Nat.ne_of_beq_eq_false rfl) 0 j)))), (qU52r j hj).2.trans ((up_k hU49 (by exact Nat.ne_of_beq_eq_false rfl) 0 j).trans ((up_k hU47 (by exact Nat.ne_of_beq_eq_false rfl) 0 j).trans ((up_k hU45 (by exact Nat.ne_of_beq_eq_false rfl) 0 j).trans (up_k hU43 (by exact Nat.ne_of_beq_eq_false rfl) 0 j))))⟩) (by omega), Or.inr ⟨by omega, omz, Or.inr ⟨by omega, Or.inr (Or.inr (Or.inr ⟨tl9 (), bd9 (), nsm, rnz _ qU52n⟩))⟩⟩⟩
                · refine ix_i (by omega) ?_
                  intro b54 b54b
                  refine And.intro (fun c55 => ?_) (fun c55 => ?_)
                  · refine hK 198 _ [] T ?_
                    refine j_blx (F := fX11) tb_X11 (nn_ _) bk_X11_review_e_198 bs_X11_review_e_198 hz (fun K hK => ?_)
                    refine iy_i (by omega) (by omega) ?_
                    refine x_nm (fun U56 hU56 => ?_)
                    have e57 := up_f hU56
                    refine iy_i (by omega) (by omega) ?_
                    refine x_nm (fun U58 hU58 => ?_)
                    have e59 := up_f hU58
                    refine iy_i (by omega) (by omega) ?_
                    refine x_nm (fun U60 hU60 => ?_)
                    have e61 := up_f hU60
                    refine iy_i (by omega) (by omega) ?_
                    refine x_nm (fun U62 hU62 => ?_)
                    have e63 := up_f hU62
                    refine hK 235 _ [vI m, vR 111 0] U62 ?_
                    have e64 : U62 111 0 29 = T 111 0 29 := (up_k hU62 (by exact Nat.ne_of_beq_eq_false rfl) 0 29).trans ((up_k hU60 (by exact Nat.ne_of_beq_eq_false rfl) 0 29).trans ((up_k hU58 (by exact Nat.ne_of_beq_eq_false rfl) 0 29).trans (up_k hU56 (by exact Nat.ne_of_beq_eq_false rfl) 0 29)))
                    have fz : fr_ [(251, []), (250, []), (249, []), (248, [])] T U62 := fr_u (fr_u (fr_u (fr_u (fr_0 _ _) hU56 rfl) hU58 rfl) hU60 rfl) hU62 rfl
                    have rbz : RB_ U62 L := rb_f hB (fz 111 0 29 rfl) (fz 111 0 47 rfl) (fun k j h => fz k 0 j (by rcases h with rfl | rfl | rfl | rfl | rfl <;> rfl))
                    have rcx : rwc_ U62 x9 = (k, s, p, q) := by
                      unfold rwc_
                      rw [show U62 248 0 x9 = k from ((up_k hU62 (by exact Nat.ne_of_beq_eq_false rfl) 0 x9).trans ((up_k hU60 (by exact Nat.ne_of_beq_eq_false rfl) 0 x9).trans (up_k hU58 (by exact Nat.ne_of_beq_eq_false rfl) 0 x9))).trans (up_f hU56), show U62 249 0 x9 = s from ((up_k hU62 (by exact Nat.ne_of_beq_eq_false rfl) 0 x9).trans (up_k hU60 (by exact Nat.ne_of_beq_eq_false rfl) 0 x9)).trans (up_f hU58), show U62 250 0 x9 = p from (up_k hU62 (by exact Nat.ne_of_beq_eq_false rfl) 0 x9).trans (up_f hU60), show U62 251 0 x9 = q from up_f hU62]
                    have rwz := rw_c hB rbz (fz 111 0 29 rfl) (fun k y h n => by rcases h with rfl | rfl | rfl | rfl; exact (up_k hU62 (by exact Nat.ne_of_beq_eq_false rfl) 0 y).trans ((up_k hU60 (by exact Nat.ne_of_beq_eq_false rfl) 0 y).trans ((up_k hU58 (by exact Nat.ne_of_beq_eq_false rfl) 0 y).trans (up_g hU56 (fun z => n z.2.2)))); exact (up_k hU62 (by exact Nat.ne_of_beq_eq_false rfl) 0 y).trans ((up_k hU60 (by exact Nat.ne_of_beq_eq_false rfl) 0 y).trans ((up_g hU58 (fun z => n z.2.2)).trans (up_k hU56 (by exact Nat.ne_of_beq_eq_false rfl) 0 y))); exact (up_k hU62 (by exact Nat.ne_of_beq_eq_false rfl) 0 y).trans ((up_g hU60 (fun z => n z.2.2)).trans ((up_k hU58 (by exact Nat.ne_of_beq_eq_false rfl) 0 y).trans (up_k hU56 (by exact Nat.ne_of_beq_eq_false rfl) 0 y))); exact (up_g hU62 (fun z => n z.2.2)).trans ((up_k hU60 (by exact Nat.ne_of_beq_eq_false rfl) 0 y).trans ((up_k hU58 (by exact Nat.ne_of_beq_eq_false rfl) 0 y).trans (up_k hU56 (by exact Nat.ne_of_beq_eq_false rfl) 0 y)))) rcx hx9.1 (by omega) (by omega)
                    refine j_callV (y := yX11_playAnew) (Yc := zX11_playAnew) (rest := []) [vI m] (ct_X11_playAnew_e (T := U62) (ru := ru) (by omega) (by exact MC__f (ws := [(251, []), (250, []), (249, []), (248, [])]) hmc (fr_u (fr_u (fr_u (fr_u (fr_0 _ _) hU56 rfl) hU58 rfl) hU60 rfl) hU62 rfl) ⟨fun _ => rfl, rfl, rfl, trivial⟩) (by exact RI__f (ws := [(251, []), (250, []), (249, []), (248, [])]) hri (fr_u (fr_u (fr_u (fr_u (fr_0 _ _) hU56 rfl) hU58 rfl) hU60 rfl) hU62 rfl) ⟨fun _ => rfl, rfl, trivial⟩) (by exact FM__f (ws := [(251, [])]) (FM__f (ws := [(250, [])]) (FM__f (ws := [(249, [])]) (FM__f (ws := [(248, [])]) (hfm) (fr_u (fr_0 _ _) hU56 rfl) ⟨fun _ => rfl, fun _ => rfl, trivial⟩) (fr_u (fr_0 _ _) hU58 rfl) ⟨fun _ => rfl, fun _ => rfl, trivial⟩) (fr_u (fr_0 _ _) hU60 rfl) ⟨fun _ => rfl, fun _ => rfl, trivial⟩) (fr_u (fr_0 _ _) hU62 rfl) ⟨fun _ => rfl, fun _ => rfl, trivial⟩) (by exact ⟨L, rbz, (fun _ hx => absurd hx List.not_mem_nil), List.nodup_nil, (fun _ _ _ hx => absurd hx List.not_mem_nil)⟩) (by exact ZS__f (ws := [(251, []), (250, []), (249, []), (248, [])]) hzs (fr_u (fr_u (fr_u (fr_u (fr_0 _ _) hU56 rfl) hU58 rfl) hU60 rfl) hU62 rfl) ⟨fun _ => rfl, fun _ => rfl, trivial⟩) (by exact gx_f hgs fz ⟨fun _ => rfl, fun _ => rfl, fun _ => rfl⟩ (fun j hj => (up_k hU62 (by exact Nat.ne_of_beq_eq_false rfl) 0 j).trans ((up_k hU60 (by exact Nat.ne_of_beq_eq_false rfl) 0 j).trans ((up_k hU58 (by exact Nat.ne_of_beq_eq_false rfl) 0 j).trans (up_k hU56 (by exact Nat.ne_of_beq_eq_false rfl) 0 j)))) (Or.inl rfl)) (rlr_f (ws := [(251, []), (250, []), (249, []), (248, [])]) hrl (fr_u (fr_u (fr_u (fr_u (fr_0 _ _) hU56 rfl) hU58 rfl) hU60 rfl) hU62 rfl) (fun _ => rfl) (fun _ => rfl))) cl_X11_473 (qd_c (by decide +kernel)) (nn_ _) rfl (rf_of rfl) (Nat.le_of_ble_eq_true rfl) (Nat.le_of_ble_eq_true rfl) (Nat.le_of_ble_eq_true rfl) rfl ?_
                    rintro U65 _ ⟨x66, rfl, fU65, ⟨qU65a, qU65b, qU65z, qU65g, qU65r, qU65n, qU65o⟩⟩
                    show J_ zX11_review T (po_X11_review_e T ru m i k s p q) 0 0 238 _ [vI x66] U65
                    refine j_blx (F := fX11) tb_X11 (nn_ _) bk_X11_review_e_238 bs_X11_review_e_238 hz (fun K hK => ?_)
                    refine (show po_X11_review_e T ru m i k s p q U65 (some (vI x66)) from ?_)
                    have omz : OMR_ T U65 m := ⟨ro_t (rp_xo (fun K j h => fz K 0 j (by rcases h with rfl | rfl | rfl | rfl | rfl | rfl | rfl | rfl | rfl | rfl | rfl <;> rfl))) qU65o.1, fun j hj j0 j1 => ⟨((qU65o.2 j hj j0 (by have := fz 111 0 29 rfl; omega)).1).trans (rwz.2 j hj j0 j1), (qU65r j hj).1.trans ((up_k hU62 (by exact Nat.ne_of_beq_eq_false rfl) 0 j).trans ((up_k hU60 (by exact Nat.ne_of_beq_eq_false rfl) 0 j).trans ((up_k hU58 (by exact Nat.ne_of_beq_eq_false rfl) 0 j).trans (up_k hU56 (by exact Nat.ne_of_beq_eq_false rfl) 0 j)))), (qU65r j hj).2.trans ((up_k hU62 (by exact Nat.ne_of_beq_eq_false rfl) 0 j).trans ((up_k hU60 (by exact Nat.ne_of_beq_eq_false rfl) 0 j).trans ((up_k hU58 (by exact Nat.ne_of_beq_eq_false rfl) 0 j).trans (up_k hU56 (by exact Nat.ne_of_beq_eq_false rfl) 0 j))))⟩⟩
                    have rnz : ∀ x, RNR_ ru m x U62 U65 (rw9_ U62 m) → RNR_ ru m x T U65 ((rw9_ T m).set i.toNat (k, s, p, q)) := fun x z => by
                      obtain ⟨b, z1, z2, z3, z4, z5⟩ := z
                      rw [rwz.1] at z2 z3 z4
                      rw [rp_x (T := T) (T1 := U62) (m := m) (fun K j h => fz K 0 j (by rcases h with rfl | rfl | rfl | rfl | rfl | rfl | rfl | rfl | rfl | rfl | rfl <;> rfl))] at z1
                      exact ⟨b, z1, z2, z3, z4, by rw [z5, fz 256 0 m rfl]⟩
                    have nsm : ¬ ((rw9_ T m)[i.toNat]? = some (k, s, p, q)) := fun z => by
                      rw [rwi] at z
                      have z1 := Option.some.inj z
                      unfold rwc_ at z1
                      have y0 : T 248 0 x9 = k := congrArg Prod.fst z1
                      have y1 : T 249 0 x9 = s := congrArg (fun t => t.2.1) z1
                      have y2 : T 250 0 x9 = p := congrArg (fun t => t.2.2.1) z1
                      have y3 : T 251 0 x9 = q := congrArg (fun t => t.2.2.2) z1
                      omega
                    exact ⟨_, rfl, fr_t (fr_u (fr_u (fr_u (fr_u (fr_0 _ _) hU56 rfl) hU58 rfl) hU60 rfl) hU62 rfl) (fr_s fU65 rfl), qU65a, qU65b, qU65z, qU65g, fun j hk => (fun (hj : j ≠ m) => ⟨(qU65r j hj).1.trans ((up_k hU62 (by exact Nat.ne_of_beq_eq_false rfl) 0 j).trans ((up_k hU60 (by exact Nat.ne_of_beq_eq_false rfl) 0 j).trans ((up_k hU58 (by exact Nat.ne_of_beq_eq_false rfl) 0 j).trans (up_k hU56 (by exact Nat.ne_of_beq_eq_false rfl) 0 j)))), (qU65r j hj).2.trans ((up_k hU62 (by exact Nat.ne_of_beq_eq_false rfl) 0 j).trans ((up_k hU60 (by exact Nat.ne_of_beq_eq_false rfl) 0 j).trans ((up_k hU58 (by exact Nat.ne_of_beq_eq_false rfl) 0 j).trans (up_k hU56 (by exact Nat.ne_of_beq_eq_false rfl) 0 j))))⟩) (by omega), Or.inr ⟨by omega, omz, Or.inr ⟨by omega, Or.inr (Or.inr (Or.inr ⟨tl9 (), bd9 (), nsm, rnz _ qU65n⟩))⟩⟩⟩
                  · refine (show po_X11_review_e T ru m i k s p q T (some (vI (-20))) from ?_)
                    have sme : (rw9_ T m)[i.toNat]? = some (k, s, p, q) := by
                      rw [rwi]
                      unfold rwc_
                      rw [show T 248 0 x9 = k from Int.le_antisymm (by omega) (by omega), show T 249 0 x9 = s from Int.le_antisymm (by omega) (by omega), show T 250 0 x9 = p from Int.le_antisymm (by omega) (by omega), show T 251 0 x9 = q from Int.le_antisymm (by omega) (by omega)]
                    exact ⟨_, rfl, fr_0 _ _, hfm, hrx, hzs, hgs, fun _ _ => ⟨rfl, rfl⟩, Or.inr ⟨by omega, om_r, Or.inr ⟨by omega, Or.inr (Or.inr (Or.inl ⟨tl9 (), bd9 (), sme, rfl, rfl⟩))⟩⟩⟩
          · have bd9 := fun (_ : Unit) => (hx13.resolve_left (fun z => absurd (c14.symm.trans z.1) (by decide))).2
            rw [hru0] at bd9
            clear hx13
            refine (show po_X11_review_e T ru m i k s p q T (some (vI (-17))) from ?_)
            exact ⟨_, rfl, fr_0 _ _, hfm, hrx, hzs, hgs, fun _ _ => ⟨rfl, rfl⟩, Or.inr ⟨by omega, om_r, Or.inr ⟨by omega, Or.inr (Or.inl ⟨tl9 (), bd9 (), rfl, rfl⟩)⟩⟩⟩
        · have tl9 := fun (_ : Unit) => (hx11.resolve_left (fun z => absurd (c12.symm.trans z.1) (by decide))).2
          rw [hru0] at tl9
          clear hx11
          refine (show po_X11_review_e T ru m i k s p q T (some (vI (-12))) from ?_)
          exact ⟨_, rfl, fr_0 _ _, hfm, hrx, hzs, hgs, fun _ _ => ⟨rfl, rfl⟩, Or.inr ⟨by omega, om_r, Or.inr ⟨by omega, Or.inl ⟨tl9 (), rfl, rfl⟩⟩⟩⟩
      · refine And.intro (fun c67 => ?_) (fun c67 => ?_)
        · refine hK 78 _ [] T ?_
          refine j_blx (F := fX11) tb_X11 (nn_ _) bk_X11_review_e_78 bs_X11_review_e_78 hz (fun K hK => ?_)
          refine ix_i (by omega) ?_
          intro b68 b68b
          refine rg_i (by omega) ?_
          refine hK 92 _ [vI (i - 1), vI (T 253 0 m), vR 111 0, vR 252 0] T ?_
          refine j_callV (y := yX11_rowAt) (Yc := zX11_rowAt) (rest := [vR 252 0]) [vI (T 253 0 m), vI (i - 1)] (ct_X11_rowAt (T := T) (l := L m 0) (by exact hl.1) (by omega)) cl_X11_456 (qd_c (by decide +kernel)) (nn_ _) rfl (rf_of rfl) (Nat.le_of_ble_eq_true rfl) (Nat.le_of_ble_eq_true rfl) (Nat.le_of_ble_eq_true rfl) rfl ?_
          rintro _ _ ⟨rfl, x69, rfl, hx69⟩
          show J_ zX11_review T (po_X11_review_e T ru m i k s p q) 0 0 95 _ [vI x69, vR 252 0] T
          refine j_blx (F := fX11) tb_X11 (nn_ _) bk_X11_review_e_95 bs_X11_review_e_95 hz (fun K hK => ?_)
          refine ix_i (by omega) ?_
          intro b70 b70b
          refine iy_i (by omega) (by omega) ?_
          refine x_nm (fun U71 hU71 => ?_)
          have e72 := up_f hU71
          refine ix_i (by omega) ?_
          intro b73 b73b
          have e74 : U71 254 0 m = T 254 0 m := up_k hU71 (by exact Nat.ne_of_beq_eq_false rfl) 0 m
          rw [e74] at b73 b73b ⊢
          refine rg_i (by omega) ?_
          refine iy_i (by omega) (by omega) ?_
          refine x_nm (fun U75 hU75 => ?_)
          have e76 := up_f hU75
          refine hK 115 _ [vI m, vR 111 0] U75 ?_
          have e77 : U75 111 0 29 = T 111 0 29 := (up_k hU75 (by exact Nat.ne_of_beq_eq_false rfl) 0 29).trans (up_k hU71 (by exact Nat.ne_of_beq_eq_false rfl) 0 29)
          have fz : fr_ [(254, []), (252, [])] T U75 := fr_u (fr_u (fr_0 _ _) hU71 rfl) hU75 rfl
          have rbd := rb_del (T' := U75) (i := i.toNat) hB (by omega) hx9.1 (fz 111 0 29 rfl) (fz 111 0 47 rfl) (fun j hj => (up_k hU75 (by exact Nat.ne_of_beq_eq_false rfl) 0 j).trans (up_k hU71 (by exact Nat.ne_of_beq_eq_false rfl) 0 j)) (fun j hj => (up_g hU75 (fun q => hj q.2.2)).trans (up_k hU71 (by exact Nat.ne_of_beq_eq_false rfl) 0 j)) (fun j => fz 255 0 j rfl) (fun j => fz 256 0 j rfl) (up_f hU75) (Or.inr ⟨fz 253 0 m rfl, (i - 1).toNat, x69, by omega, hx69.1, (up_k hU75 (by exact Nat.ne_of_beq_eq_false rfl) 0 x69).trans (up_f hU71), fun z hz => (up_k hU75 (by exact Nat.ne_of_beq_eq_false rfl) 0 z).trans (up_g hU71 (fun q => hz q.2.2))⟩)
          have rwz := rw_d hB rbd.1 (fz 111 0 29 rfl) (cl_k (fun k j h => fz k 0 j (by rcases h with rfl | rfl | rfl | rfl <;> rfl))) (by omega) (by omega)
          refine j_callV (y := yX11_playAnew) (Yc := zX11_playAnew) (rest := []) [vI m] (ct_X11_playAnew_e (T := U75) (ru := ru) (by omega) (by exact MC__f (ws := [(254, []), (252, [])]) hmc (fr_u (fr_u (fr_0 _ _) hU71 rfl) hU75 rfl) ⟨fun _ => rfl, rfl, rfl, trivial⟩) (by exact RI__f (ws := [(254, []), (252, [])]) hri (fr_u (fr_u (fr_0 _ _) hU71 rfl) hU75 rfl) ⟨fun _ => rfl, rfl, trivial⟩) (by exact FM__f (ws := [(254, [])]) (FM__f (ws := [(252, [])]) (hfm) (fr_u (fr_0 _ _) hU71 rfl) ⟨fun _ => rfl, fun _ => rfl, trivial⟩) (fr_u (fr_0 _ _) hU75 rfl) ⟨fun _ => rfl, fun _ => rfl, trivial⟩) (by exact ⟨_, rbd.1, rbd.2⟩) (by exact ZS__f (ws := [(254, []), (252, [])]) hzs (fr_u (fr_u (fr_0 _ _) hU71 rfl) hU75 rfl) ⟨fun _ => rfl, fun _ => rfl, trivial⟩) (by exact gx_f hgs fz ⟨fun _ => rfl, fun _ => rfl, fun _ => rfl⟩ (fun j hj => (up_g hU75 (fun q => hj q.2.2)).trans (up_k hU71 (by exact Nat.ne_of_beq_eq_false rfl) 0 j)) (Or.inl rfl)) (rlr_f (ws := [(254, []), (252, [])]) hrl (fr_u (fr_u (fr_0 _ _) hU71 rfl) hU75 rfl) (fun _ => rfl) (fun _ => rfl))) cl_X11_473 (qd_c (by decide +kernel)) (nn_ _) rfl (rf_of rfl) (Nat.le_of_ble_eq_true rfl) (Nat.le_of_ble_eq_true rfl) (Nat.le_of_ble_eq_true rfl) rfl ?_
          rintro U78 _ ⟨x79, rfl, fU78, ⟨qU78a, qU78b, qU78z, qU78g, qU78r, qU78n, qU78o⟩⟩
          show J_ zX11_review T (po_X11_review_e T ru m i k s p q) 0 0 118 _ [vI x79] U78
          refine j_blx (F := fX11) tb_X11 (nn_ _) bk_X11_review_e_118 bs_X11_review_e_118 hz (fun K hK => ?_)
          refine (show po_X11_review_e T ru m i k s p q U78 (some (vI x79)) from ?_)
          have omz : OMR_ T U78 m := ⟨ro_t (rp_xo (fun K j h => fz K 0 j (by rcases h with rfl | rfl | rfl | rfl | rfl | rfl | rfl | rfl | rfl | rfl | rfl <;> rfl))) qU78o.1, fun j hj j0 j1 => ⟨((qU78o.2 j hj j0 (by have := fz 111 0 29 rfl; omega)).1).trans (rwz.2 j hj j0 j1), (qU78r j hj).1.trans ((up_g hU75 (fun q => hj q.2.2)).trans (up_k hU71 (by exact Nat.ne_of_beq_eq_false rfl) 0 j)), (qU78r j hj).2.trans ((up_k hU75 (by exact Nat.ne_of_beq_eq_false rfl) 0 j).trans (up_k hU71 (by exact Nat.ne_of_beq_eq_false rfl) 0 j))⟩⟩
          have rnz : ∀ x, RNR_ ru m x U75 U78 (rw9_ U75 m) → RNR_ ru m x T U78 ((rw9_ T m).eraseIdx i.toNat) := fun x z => by
            obtain ⟨b, z1, z2, z3, z4, z5⟩ := z
            rw [rwz.1] at z2 z3 z4
            rw [rp_x (T := T) (T1 := U75) (m := m) (fun K j h => fz K 0 j (by rcases h with rfl | rfl | rfl | rfl | rfl | rfl | rfl | rfl | rfl | rfl | rfl <;> rfl))] at z1
            exact ⟨b, z1, z2, z3, z4, by rw [z5, fz 256 0 m rfl]⟩
          exact ⟨_, rfl, fr_t (fr_u (fr_u (fr_0 _ _) hU71 rfl) hU75 rfl) (fr_s fU78 rfl), qU78a, qU78b, qU78z, qU78g, fun j hk => (fun (hj : j ≠ m) => ⟨(qU78r j hj).1.trans ((up_g hU75 (fun q => hj q.2.2)).trans (up_k hU71 (by exact Nat.ne_of_beq_eq_false rfl) 0 j)), (qU78r j hj).2.trans ((up_k hU75 (by exact Nat.ne_of_beq_eq_false rfl) 0 j).trans (up_k hU71 (by exact Nat.ne_of_beq_eq_false rfl) 0 j))⟩) (by omega), Or.inr ⟨by omega, omz, Or.inl ⟨by omega, rnz _ qU78n⟩⟩⟩
        · refine ix_i (by omega) ?_
          intro b80 b80b
          refine iy_i (by omega) (by omega) ?_
          refine x_nm (fun U81 hU81 => ?_)
          have e82 := up_f hU81
          refine hK 103 _ [] U81 ?_
          refine j_blx (F := fX11) tb_X11 (nn_ _) bk_X11_review_e_103 bs_X11_review_e_103 hz (fun K hK => ?_)
          refine ix_i (by omega) ?_
          intro b83 b83b
          have e84 : U81 254 0 m = T 254 0 m := up_k hU81 (by exact Nat.ne_of_beq_eq_false rfl) 0 m
          rw [e84] at b83 b83b ⊢
          refine rg_i (by omega) ?_
          refine iy_i (by omega) (by omega) ?_
          refine x_nm (fun U85 hU85 => ?_)
          have e86 := up_f hU85
          refine hK 115 _ [vI m, vR 111 0] U85 ?_
          have e87 : U85 111 0 29 = T 111 0 29 := (up_k hU85 (by exact Nat.ne_of_beq_eq_false rfl) 0 29).trans (up_k hU81 (by exact Nat.ne_of_beq_eq_false rfl) 0 29)
          have fz : fr_ [(254, []), (253, [])] T U85 := fr_u (fr_u (fr_0 _ _) hU81 rfl) hU85 rfl
          have rbd := rb_del (T' := U85) (i := i.toNat) hB (by omega) hx9.1 (fz 111 0 29 rfl) (fz 111 0 47 rfl) (fun j hj => (up_k hU85 (by exact Nat.ne_of_beq_eq_false rfl) 0 j).trans (up_g hU81 (fun q => hj q.2.2))) (fun j hj => (up_g hU85 (fun q => hj q.2.2)).trans (up_k hU81 (by exact Nat.ne_of_beq_eq_false rfl) 0 j)) (fun j => fz 255 0 j rfl) (fun j => fz 256 0 j rfl) (up_f hU85) (Or.inl ⟨by omega, (up_k hU85 (by exact Nat.ne_of_beq_eq_false rfl) 0 m).trans (up_f hU81), fun z => fz 252 0 z rfl⟩)
          have rwz := rw_d hB rbd.1 (fz 111 0 29 rfl) (cl_k (fun k j h => fz k 0 j (by rcases h with rfl | rfl | rfl | rfl <;> rfl))) (by omega) (by omega)
          refine j_callV (y := yX11_playAnew) (Yc := zX11_playAnew) (rest := []) [vI m] (ct_X11_playAnew_e (T := U85) (ru := ru) (by omega) (by exact MC__f (ws := [(254, []), (253, [])]) hmc (fr_u (fr_u (fr_0 _ _) hU81 rfl) hU85 rfl) ⟨fun _ => rfl, rfl, rfl, trivial⟩) (by exact RI__f (ws := [(254, []), (253, [])]) hri (fr_u (fr_u (fr_0 _ _) hU81 rfl) hU85 rfl) ⟨fun _ => rfl, rfl, trivial⟩) (by exact FM__f (ws := [(254, [])]) (FM__f (ws := [(253, [])]) (hfm) (fr_u (fr_0 _ _) hU81 rfl) ⟨fun _ => rfl, fun _ => rfl, trivial⟩) (fr_u (fr_0 _ _) hU85 rfl) ⟨fun _ => rfl, fun _ => rfl, trivial⟩) (by exact ⟨_, rbd.1, rbd.2⟩) (by exact ZS__f (ws := [(254, []), (253, [])]) hzs (fr_u (fr_u (fr_0 _ _) hU81 rfl) hU85 rfl) ⟨fun _ => rfl, fun _ => rfl, trivial⟩) (by exact gx_f hgs fz ⟨fun _ => rfl, fun _ => rfl, fun _ => rfl⟩ (fun j hj => (up_g hU85 (fun q => hj q.2.2)).trans (up_k hU81 (by exact Nat.ne_of_beq_eq_false rfl) 0 j)) (Or.inl rfl)) (rlr_f (ws := [(254, []), (253, [])]) hrl (fr_u (fr_u (fr_0 _ _) hU81 rfl) hU85 rfl) (fun _ => rfl) (fun _ => rfl))) cl_X11_473 (qd_c (by decide +kernel)) (nn_ _) rfl (rf_of rfl) (Nat.le_of_ble_eq_true rfl) (Nat.le_of_ble_eq_true rfl) (Nat.le_of_ble_eq_true rfl) rfl ?_
          rintro U88 _ ⟨x89, rfl, fU88, ⟨qU88a, qU88b, qU88z, qU88g, qU88r, qU88n, qU88o⟩⟩
          show J_ zX11_review T (po_X11_review_e T ru m i k s p q) 0 0 118 _ [vI x89] U88
          refine j_blx (F := fX11) tb_X11 (nn_ _) bk_X11_review_e_118 bs_X11_review_e_118 hz (fun K hK => ?_)
          refine (show po_X11_review_e T ru m i k s p q U88 (some (vI x89)) from ?_)
          have omz : OMR_ T U88 m := ⟨ro_t (rp_xo (fun K j h => fz K 0 j (by rcases h with rfl | rfl | rfl | rfl | rfl | rfl | rfl | rfl | rfl | rfl | rfl <;> rfl))) qU88o.1, fun j hj j0 j1 => ⟨((qU88o.2 j hj j0 (by have := fz 111 0 29 rfl; omega)).1).trans (rwz.2 j hj j0 j1), (qU88r j hj).1.trans ((up_g hU85 (fun q => hj q.2.2)).trans (up_k hU81 (by exact Nat.ne_of_beq_eq_false rfl) 0 j)), (qU88r j hj).2.trans ((up_k hU85 (by exact Nat.ne_of_beq_eq_false rfl) 0 j).trans (up_k hU81 (by exact Nat.ne_of_beq_eq_false rfl) 0 j))⟩⟩
          have rnz : ∀ x, RNR_ ru m x U85 U88 (rw9_ U85 m) → RNR_ ru m x T U88 ((rw9_ T m).eraseIdx i.toNat) := fun x z => by
            obtain ⟨b, z1, z2, z3, z4, z5⟩ := z
            rw [rwz.1] at z2 z3 z4
            rw [rp_x (T := T) (T1 := U85) (m := m) (fun K j h => fz K 0 j (by rcases h with rfl | rfl | rfl | rfl | rfl | rfl | rfl | rfl | rfl | rfl | rfl <;> rfl))] at z1
            exact ⟨b, z1, z2, z3, z4, by rw [z5, fz 256 0 m rfl]⟩
          exact ⟨_, rfl, fr_t (fr_u (fr_u (fr_0 _ _) hU81 rfl) hU85 rfl) (fr_s fU88 rfl), qU88a, qU88b, qU88z, qU88g, fun j hk => (fun (hj : j ≠ m) => ⟨(qU88r j hj).1.trans ((up_g hU85 (fun q => hj q.2.2)).trans (up_k hU81 (by exact Nat.ne_of_beq_eq_false rfl) 0 j)), (qU88r j hj).2.trans ((up_k hU85 (by exact Nat.ne_of_beq_eq_false rfl) 0 j).trans (up_k hU81 (by exact Nat.ne_of_beq_eq_false rfl) 0 j))⟩) (by omega), Or.inr ⟨by omega, omz, Or.inl ⟨by omega, rnz _ qU88n⟩⟩⟩
    · replace hx5 := hx5.resolve_left (fun z => absurd (c6.symm.trans z.1) (by decide))
      clear c6
      refine (show po_X11_review_e T ru m i k s p q T (some (vI (-2))) from ?_)
      exact ⟨_, rfl, fr_0 _ _, hfm, hrx, hzs, hgs, fun _ _ => ⟨rfl, rfl⟩, Or.inl ⟨rfl, by omega, rfl⟩⟩
theorem bk_X11_start_e_0 : ck_ fX11 (some .int) cX11_start 0 [.iload 1, .aload 0, .tableswitch 0 11 29 #[]] 5 = true := qck_r (nn_ _) (by decide +kernel)
theorem bs_X11_start_e_0 {P : Zt → Option Zv → Prop} (K : Int → Zl → List Zv → Zt → Prop) : sx_ K P [.iload 1, .aload 0, .tableswitch 0 11 29 #[]] 5 = x_iload 1 (x_aload 0 (x_g0 111 29 0 400 (K 5))) := ((xe_iload 1).trans (congrArg (x_iload 1) ((xe_aload 0).trans (congrArg (x_aload 0) ((xe_g0 (kk := 111) rfl tl_11_29).trans (congrArg (x_g0 111 29 0 400) xe_nil))))))
theorem bk_X11_start_e_8 : ck_ fX11 (some .int) cX11_start 8 [.ifCond .ne 14, .iconst (-2), .ireturn] 14 = true := qck_r (nn_ _) (by decide +kernel)
theorem bs_X11_start_e_8 {P : Zt → Option Zv → Prop} (K : Int → Zl → List Zv → Zt → Prop) : sx_ K P [.ifCond .ne 14, .iconst (-2), .ireturn] 14 = x_ifCond .ne 14 K (x_iconst (-2) (x_ireturn P)) := ((xe_ifCond .ne 14).trans (congrArg (x_ifCond .ne 14 K) ((xe_iconst (-2)).trans (congrArg (x_iconst (-2)) (xe_ireturn)))))
theorem bk_X11_start_e_14 : ck_ fX11 (some .int) cX11_start 14 [.aload 0, .aload 0, .tableswitch 0 11 30 #[], .iload 1, .iaload, .iconst 9] 23 = true := qck_r (nn_ _) (by decide +kernel)
theorem bs_X11_start_e_14 {P : Zt → Option Zv → Prop} (K : Int → Zl → List Zv → Zt → Prop) : sx_ K P [.aload 0, .aload 0, .tableswitch 0 11 30 #[], .iload 1, .iaload, .iconst 9] 23 = x_aload 0 (x_aload 0 (x_g1 111 230 (x_iload 1 (x_iaload (x_iconst 9 (K 23)))))) := ((xe_aload 0).trans (congrArg (x_aload 0) ((xe_aload 0).trans (congrArg (x_aload 0) ((xe_g1 (kk := 111) rfl tl_11_30).trans (congrArg (x_g1 111 230) ((xe_iload 1).trans (congrArg (x_iload 1) ((xe_iaload).trans (congrArg (x_iaload) ((xe_iconst 9).trans (congrArg (x_iconst 9) xe_nil))))))))))))
theorem bk_X11_start_e_26 : ck_ fX11 (some .int) cX11_start 26 [.istore 2, .aload 0, .tableswitch 0 11 35 #[], .iload 1, .iaload, .ifCond .ne 75, .aload 0, .tableswitch 0 11 34 #[], .iload 1, .iaload, .aload 0, .tableswitch 0 11 3 #[], .if_icmp .ne 75, .aload 0, .tableswitch 0 11 39 #[], .iconst 2, .iload 1, .imul, .iaload, .iload 2, .if_icmp .lt 75, .aload 0, .tableswitch 0 11 39 #[], .iconst 2, .iload 1, .imul, .iconst 1, .iadd, .iaload, .iload 2, .if_icmp .ge 78, .iconst (-4), .ireturn] 78 = true := qck_r (nn_ _) (by decide +kernel)
theorem bs_X11_start_e_26 {P : Zt → Option Zv → Prop} (K : Int → Zl → List Zv → Zt → Prop) : sx_ K P [.istore 2, .aload 0, .tableswitch 0 11 35 #[], .iload 1, .iaload, .ifCond .ne 75, .aload 0, .tableswitch 0 11 34 #[], .iload 1, .iaload, .aload 0, .tableswitch 0 11 3 #[], .if_icmp .ne 75, .aload 0, .tableswitch 0 11 39 #[], .iconst 2, .iload 1, .imul, .iaload, .iload 2, .if_icmp .lt 75, .aload 0, .tableswitch 0 11 39 #[], .iconst 2, .iload 1, .imul, .iconst 1, .iadd, .iaload, .iload 2, .if_icmp .ge 78, .iconst (-4), .ireturn] 78 = x_istore 2 (x_aload 0 (x_g1 111 235 (x_iload 1 (x_iaload (x_ifCond .ne 75 K (x_aload 0 (x_g1 111 234 (x_iload 1 (x_iaload (x_aload 0 (x_g0 111 3 0 999 (x_if_icmp .ne 75 K (x_aload 0 (x_g1 111 239 (x_iconst 2 (x_iload 1 (x_imul (x_iaload (x_iload 2 (x_if_icmp .lt 75 K (x_aload 0 (x_g1 111 239 (x_iconst 2 (x_iload 1 (x_imul (x_iconst 1 (x_iadd (x_iaload (x_iload 2 (x_if_icmp .ge 78 K (x_iconst (-4) (x_ireturn P)))))))))))))))))))))))))))))))) := ((xe_istore 2).trans (congrArg (x_istore 2) ((xe_aload 0).trans (congrArg (x_aload 0) ((xe_g1 (kk := 111) rfl tl_11_35).trans (congrArg (x_g1 111 235) ((xe_iload 1).trans (congrArg (x_iload 1) ((xe_iaload).trans (congrArg (x_iaload) ((xe_ifCond .ne 75).trans (congrArg (x_ifCond .ne 75 K) ((xe_aload 0).trans (congrArg (x_aload 0) ((xe_g1 (kk := 111) rfl tl_11_34).trans (congrArg (x_g1 111 234) ((xe_iload 1).trans (congrArg (x_iload 1) ((xe_iaload).trans (congrArg (x_iaload) ((xe_aload 0).trans (congrArg (x_aload 0) ((xe_g0 (kk := 111) rfl tl_11_3).trans (congrArg (x_g0 111 3 0 999) ((xe_if_icmp .ne 75).trans (congrArg (x_if_icmp .ne 75 K) ((xe_aload 0).trans (congrArg (x_aload 0) ((xe_g1 (kk := 111) rfl tl_11_39).trans (congrArg (x_g1 111 239) ((xe_iconst 2).trans (congrArg (x_iconst 2) ((xe_iload 1).trans (congrArg (x_iload 1) ((xe_imul).trans (congrArg (x_imul) ((xe_iaload).trans (congrArg (x_iaload) ((xe_iload 2).trans (congrArg (x_iload 2) ((xe_if_icmp .lt 75).trans (congrArg (x_if_icmp .lt 75 K) ((xe_aload 0).trans (congrArg (x_aload 0) ((xe_g1 (kk := 111) rfl tl_11_39).trans (congrArg (x_g1 111 239) ((xe_iconst 2).trans (congrArg (x_iconst 2) ((xe_iload 1).trans (congrArg (x_iload 1) ((xe_imul).trans (congrArg (x_imul) ((xe_iconst 1).trans (congrArg (x_iconst 1) ((xe_iadd).trans (congrArg (x_iadd) ((xe_iaload).trans (congrArg (x_iaload) ((xe_iload 2).trans (congrArg (x_iload 2) ((xe_if_icmp .ge 78).trans (congrArg (x_if_icmp .ge 78 K) ((xe_iconst (-4)).trans (congrArg (x_iconst (-4)) (xe_ireturn)))))))))))))))))))))))))))))))))))))))))))))))))))))))))))))))))
theorem bk_X11_start_e_75 : ck_ fX11 (some .int) cX11_start 75 [.iconst (-4), .ireturn] 78 = true := qck_r (nn_ _) (by decide +kernel)
theorem bs_X11_start_e_75 {P : Zt → Option Zv → Prop} (K : Int → Zl → List Zv → Zt → Prop) : sx_ K P [.iconst (-4), .ireturn] 78 = x_iconst (-4) (x_ireturn P) := ((xe_iconst (-4)).trans (congrArg (x_iconst (-4)) (xe_ireturn)))
theorem bk_X11_start_e_78 : ck_ fX11 (some .int) cX11_start 78 [.aload 0, .iload 1] 80 = true := qck_r (nn_ _) (by decide +kernel)
theorem bs_X11_start_e_78 {P : Zt → Option Zv → Prop} (K : Int → Zl → List Zv → Zt → Prop) : sx_ K P [.aload 0, .iload 1] 80 = x_aload 0 (x_iload 1 (K 80)) := ((xe_aload 0).trans (congrArg (x_aload 0) ((xe_iload 1).trans (congrArg (x_iload 1) xe_nil))))
theorem bk_X11_start_e_83 : ck_ fX11 (some .int) cX11_start 83 [.iconst 1, .ireturn] 85 = true := qck_r (nn_ _) (by decide +kernel)
theorem bs_X11_start_e_83 {P : Zt → Option Zv → Prop} (K : Int → Zl → List Zv → Zt → Prop) : sx_ K P [.iconst 1, .ireturn] 85 = x_iconst 1 (x_ireturn P) := ((xe_iconst 1).trans (congrArg (x_iconst 1) (xe_ireturn)))
abbrev po_X11_start_e (T : Zt) (ru : Int → Int) (m : Int) : Zt → Option Zv → Prop := fun T' r => ∃ x : Int, r = some (vI x) ∧ fr_ [(244, []), (241, []), (242, []), (243, []), (245, []), (246, []), (236, []), (237, []), (235, [])] T T' ∧ ((FM_ T' ∧ ZS_ T' ∧ GX_ T' (-1)) ∧ ((x = -2 ∧ ¬ (0 ≤ m ∧ m < T 111 0 29) ∧ T = T') ∨ ((0 ≤ m ∧ m < T 111 0 29) ∧ ((x = -4 ∧ ¬ (T 235 0 m = 0 ∧ T 234 0 m = T 111 0 3 ∧ T 205 0 (23 * T 230 0 m + 9) ≤ T 239 0 (2 * m) ∧ T 205 0 (23 * T 230 0 m + 9) ≤ T 239 0 (2 * m + 1)) ∧ T = T') ∨ (x = 1 ∧ (T 235 0 m = 0 ∧ T 234 0 m = T 111 0 3 ∧ T 205 0 (23 * T 230 0 m + 9) ≤ T 239 0 (2 * m) ∧ T 205 0 (23 * T 230 0 m + 9) ≤ T 239 0 (2 * m + 1)) ∧ BGR_ m ru (rp9_ T m) (rp9_ T' m) ∧ ro9_ T T' m)))))
set_option maxHeartbeats 4000000 in
theorem ct_X11_start_e {T : Zt} {ru : Int → Int} {m : Int} (hmc : MC_ T) (hri : RI_ T) (hfm : FM_ T) (hzs : ZS_ T) (hgs : GX_ T (-1)) (hrl : RLR_ T m ru) : Ct_ yX11_start zX11_start T [vR 111 0, vI m] (po_X11_start_e T ru m) := by
  refine ct_of pn_11 rfl rfl (Nat.le_of_ble_eq_true rfl) (fun hT hav => ?_)
  have hr_m : -2147483648 ≤ m ∧ m ≤ 2147483647 := hav (vI m) (List.mem_cons_of_mem _ List.mem_cons_self)
  have hz : zX11_start.2.2.2.1 = some .boolean → ∀ (T' : Zt) (x : Int), po_X11_start_e T ru m T' (some (vI x)) → 0 ≤ x ∧ x ≤ 1 := fun h => by cases h
  have hb_29 : 0 ≤ T 111 0 29 ∧ T 111 0 29 ≤ 400 := bd_f hT 111 29 tl_11_29 0
  have hb_6 : 0 ≤ T 111 0 6 ∧ T 111 0 6 ≤ 4 := bd_f hT 111 6 tl_11_6 0
  show J_ zX11_start T (po_X11_start_e T ru m) 0 0 0 [some (vR 111 0), some (vI m), none] [] T
  refine j_blx (F := fX11) tb_X11 (nn_ _) bk_X11_start_e_0 bs_X11_start_e_0 hz (fun K hK => ?_)
  intro b1 b1b
  refine hK 5 _ [vI (T 111 0 29), vI m] T ?_
  refine j_callS (y := yX11_isOf) (Yc := zX11_isOf) (rest := []) [vI m, vI (T 111 0 29)] (ct_X11_isOf (T := T) (by omega)) cl_X11_317 (qd_c (by decide +kernel)) (nn_ _) rfl (rf_of rfl) (Nat.le_of_ble_eq_true rfl) (Nat.le_of_ble_eq_true rfl) (Nat.le_of_ble_eq_true rfl) rfl ?_
  rintro _ _ ⟨rfl, x2, rfl, hx2⟩
  show J_ zX11_start T (po_X11_start_e T ru m) 0 0 8 _ [vI x2] T
  refine j_blx (F := fX11) tb_X11 (nn_ _) bk_X11_start_e_8 bs_X11_start_e_8 hz (fun K hK => ?_)
  refine And.intro (fun c3 => ?_) (fun c3 => ?_)
  · replace hx2 := hx2.resolve_right (fun z => c3 z.1)
    clear c3
    refine hK 14 _ [] T ?_
    refine j_blx (F := fX11) tb_X11 (nn_ _) bk_X11_start_e_14 bs_X11_start_e_14 hz (fun K hK => ?_)
    refine ix_i (by omega) ?_
    intro b4 b4b
    refine hK 23 _ [vI 9, vI (T 230 0 m), vR 111 0] T ?_
    refine j_callV (y := yX11_rule0) (Yc := zX11_rule0) (rest := []) [vI (T 230 0 m), vI 9] (ct_X11_rule0 (T := T) (by omega) (by omega)) cl_X11_321 (qd_c (by decide +kernel)) (nn_ _) rfl (rf_of rfl) (Nat.le_of_ble_eq_true rfl) (Nat.le_of_ble_eq_true rfl) (Nat.le_of_ble_eq_true rfl) rfl ?_
    rintro _ _ ⟨rfl, rfl⟩
    show J_ zX11_start T (po_X11_start_e T ru m) 0 0 26 _ [vI (T 205 0 (23 * (T 230 0 m) + 9))] T
    have hcm := hmc m (by omega) (by omega)
    have hcb : 0 ≤ T 230 0 m ∧ T 230 0 m ≤ 3 := bd_a hT 230 (by decide +kernel : ta_ 230 = some (1, some 400, 0, 3)) 0 (by omega)
    have hr9 : (1 : Int) ≤ T 205 0 (23 * T 230 0 m + 9) ∧ T 205 0 (23 * T 230 0 m + 9) ≤ (6 : Int) := hri (T 230 0 m) 9 (by omega) (by omega) (by omega) (by omega)
    refine j_blx (F := fX11) tb_X11 (nn_ _) bk_X11_start_e_26 bs_X11_start_e_26 hz (fun K hK => ?_)
    refine ix_i (by omega) ?_
    intro b5 b5b
    refine And.intro (fun c6 => ?_) (fun c6 => ?_)
    · refine hK 75 [some (vR 111 0), some (vI m), some (vI (T 205 0 (23 * (T 230 0 m) + 9)))] [] T ?_
      refine j_blx (F := fX11) tb_X11 (nn_ _) bk_X11_start_e_75 bs_X11_start_e_75 hz (fun K hK => ?_)
      refine (show po_X11_start_e T ru m T (some (vI (-4))) from ?_)
      exact ⟨_, rfl, fr_0 _ _, ⟨hfm, hzs, hgs⟩, Or.inr ⟨by omega, Or.inl ⟨rfl, by omega, rfl⟩⟩⟩
    · refine ix_i (by omega) ?_
      intro b7 b7b
      intro b8 b8b
      refine And.intro (fun c9 => ?_) (fun c9 => ?_)
      · refine hK 75 _ [] T ?_
        refine j_blx (F := fX11) tb_X11 (nn_ _) bk_X11_start_e_75 bs_X11_start_e_75 hz (fun K hK => ?_)
        refine (show po_X11_start_e T ru m T (some (vI (-4))) from ?_)
        exact ⟨_, rfl, fr_0 _ _, ⟨hfm, hzs, hgs⟩, Or.inr ⟨by omega, Or.inl ⟨rfl, by omega, rfl⟩⟩⟩
      · refine rg_i (by omega) ?_
        refine ix_i (by omega) ?_
        intro b10 b10b
        refine And.intro (fun c11 => ?_) (fun c11 => ?_)
        · refine hK 75 _ [] T ?_
          refine j_blx (F := fX11) tb_X11 (nn_ _) bk_X11_start_e_75 bs_X11_start_e_75 hz (fun K hK => ?_)
          refine (show po_X11_start_e T ru m T (some (vI (-4))) from ?_)
          exact ⟨_, rfl, fr_0 _ _, ⟨hfm, hzs, hgs⟩, Or.inr ⟨by omega, Or.inl ⟨rfl, by omega, rfl⟩⟩⟩
        · refine rg_i (by omega) ?_
          refine rg_i (by omega) ?_
          refine ix_i (by omega) ?_
          intro b12 b12b
          refine And.intro (fun c13 => ?_) (fun c13 => ?_)
          · refine hK 78 _ [] T ?_
            refine j_blx (F := fX11) tb_X11 (nn_ _) bk_X11_start_e_78 bs_X11_start_e_78 hz (fun K hK => ?_)
            refine hK 80 _ [vI m, vR 111 0] T ?_
            refine j_callV (y := yX11_layBeginning) (Yc := zX11_layBeginning) (rest := []) [vI m] (ct_X11_layBeginning_e (T := T) (by omega) (hmc) (hri) (hfm) (hzs)) cl_X11_390 (qd_c (by decide +kernel)) (nn_ _) rfl (rf_of rfl) (Nat.le_of_ble_eq_true rfl) (Nat.le_of_ble_eq_true rfl) (Nat.le_of_ble_eq_true rfl) rfl ?_
            rintro U14 _ ⟨rfl, fU14, qU14, qU14o, qU14b, l1U14, l2U14, l3U14, l4U14, l5U14, l6U14, l7U14, l8U14, qU14p⟩
            show J_ zX11_start T (po_X11_start_e T ru m) 0 0 83 _ [] U14
            refine j_blx (F := fX11) tb_X11 (nn_ _) bk_X11_start_e_83 bs_X11_start_e_83 hz (fun K hK => ?_)
            refine (show po_X11_start_e T ru m U14 (some (vI 1)) from ?_)
            have ff : fr_ [(244, []), (241, []), (242, []), (243, []), (245, []), (246, []), (236, []), (237, []), (235, [])] T U14 := fr_t (fr_0 _ _) (fr_s fU14 rfl)
            have so5 : SO_ T U14 m := so_t (so_r) qU14o (fun j => rfl)
            have hrm : 0 ≤ T 254 0 m ∧ T 254 0 m ≤ 3000 := bd_a hT 254 (by decide +kernel : ta_ 254 = some (1, some 400, 0, 3000)) 0 (by omega)
            have e9 := hrl 9 (by decide) (by decide)
            have bg0 := bg_l (T := T) (T' := U14) (m := m) hrl (by omega) (fun t a b => bd_a hT 239 (by decide +kernel : ta_ 239 = some (1, some 800, 0, 10)) 0 (by omega)) (fun j => fU14 239 0 j rfl) (fun j => fU14 240 0 j rfl) l1U14 l2U14 l3U14 l4U14 l5U14 l6U14 l7U14 l8U14
            exact ⟨_, rfl, fr_s ff rfl, ⟨qU14, zs_o hzs so5 (fun j => ff 239 0 j rfl), gx_o (gx_x hgs) so5 (sb1_m (qU14b) (by rw [ff 254 0 m rfl]; omega)) (fun j _ => ff 254 0 j rfl)⟩, Or.inr ⟨by omega, Or.inr ⟨rfl, by omega, bg0, qU14p⟩⟩⟩
          · refine (show po_X11_start_e T ru m T (some (vI (-4))) from ?_)
            exact ⟨_, rfl, fr_0 _ _, ⟨hfm, hzs, hgs⟩, Or.inr ⟨by omega, Or.inl ⟨rfl, by omega, rfl⟩⟩⟩
  · replace hx2 := hx2.resolve_left (fun z => absurd (c3.symm.trans z.1) (by decide))
    clear c3
    refine (show po_X11_start_e T ru m T (some (vI (-2))) from ?_)
    exact ⟨_, rfl, fr_0 _ _, ⟨hfm, hzs, hgs⟩, Or.inl ⟨rfl, by omega, rfl⟩⟩
theorem bk_X11_walkOver_e_0 : ck_ fX11 (some .int) cX11_walkOver 0 [.iload 1, .aload 0, .tableswitch 0 11 29 #[]] 5 = true := qck_r (nn_ _) (by decide +kernel)
theorem bs_X11_walkOver_e_0 {P : Zt → Option Zv → Prop} (K : Int → Zl → List Zv → Zt → Prop) : sx_ K P [.iload 1, .aload 0, .tableswitch 0 11 29 #[]] 5 = x_iload 1 (x_aload 0 (x_g0 111 29 0 400 (K 5))) := ((xe_iload 1).trans (congrArg (x_iload 1) ((xe_aload 0).trans (congrArg (x_aload 0) ((xe_g0 (kk := 111) rfl tl_11_29).trans (congrArg (x_g0 111 29 0 400) xe_nil))))))
theorem bk_X11_walkOver_e_8 : ck_ fX11 (some .int) cX11_walkOver 8 [.ifCond .ne 14, .iconst (-2), .ireturn] 14 = true := qck_r (nn_ _) (by decide +kernel)
theorem bs_X11_walkOver_e_8 {P : Zt → Option Zv → Prop} (K : Int → Zl → List Zv → Zt → Prop) : sx_ K P [.ifCond .ne 14, .iconst (-2), .ireturn] 14 = x_ifCond .ne 14 K (x_iconst (-2) (x_ireturn P)) := ((xe_ifCond .ne 14).trans (congrArg (x_ifCond .ne 14 K) ((xe_iconst (-2)).trans (congrArg (x_iconst (-2)) (xe_ireturn)))))
theorem bk_X11_walkOver_e_14 : ck_ fX11 (some .int) cX11_walkOver 14 [.iload 2, .iconst 0, .iconst 1] 17 = true := qck_r (nn_ _) (by decide +kernel)
theorem bs_X11_walkOver_e_14 {P : Zt → Option Zv → Prop} (K : Int → Zl → List Zv → Zt → Prop) : sx_ K P [.iload 2, .iconst 0, .iconst 1] 17 = x_iload 2 (x_iconst 0 (x_iconst 1 (K 17))) := ((xe_iload 2).trans (congrArg (x_iload 2) ((xe_iconst 0).trans (congrArg (x_iconst 0) ((xe_iconst 1).trans (congrArg (x_iconst 1) xe_nil))))))
theorem bk_X11_walkOver_e_20 : ck_ fX11 (some .int) cX11_walkOver 20 [.ifCond .ne 26, .iconst (-3), .ireturn] 26 = true := qck_r (nn_ _) (by decide +kernel)
theorem bs_X11_walkOver_e_20 {P : Zt → Option Zv → Prop} (K : Int → Zl → List Zv → Zt → Prop) : sx_ K P [.ifCond .ne 26, .iconst (-3), .ireturn] 26 = x_ifCond .ne 26 K (x_iconst (-3) (x_ireturn P)) := ((xe_ifCond .ne 26).trans (congrArg (x_ifCond .ne 26 K) ((xe_iconst (-3)).trans (congrArg (x_iconst (-3)) (xe_ireturn)))))
theorem bk_X11_walkOver_e_26 : ck_ fX11 (some .int) cX11_walkOver 26 [.aload 0, .tableswitch 0 11 35 #[], .iload 1, .iaload, .ifCond .ne 48, .aload 0, .tableswitch 0 11 34 #[], .iload 1, .iaload, .aload 0, .tableswitch 0 11 3 #[], .if_icmp .le 51, .iconst (-4), .ireturn] 51 = true := qck_r (nn_ _) (by decide +kernel)
theorem bs_X11_walkOver_e_26 {P : Zt → Option Zv → Prop} (K : Int → Zl → List Zv → Zt → Prop) : sx_ K P [.aload 0, .tableswitch 0 11 35 #[], .iload 1, .iaload, .ifCond .ne 48, .aload 0, .tableswitch 0 11 34 #[], .iload 1, .iaload, .aload 0, .tableswitch 0 11 3 #[], .if_icmp .le 51, .iconst (-4), .ireturn] 51 = x_aload 0 (x_g1 111 235 (x_iload 1 (x_iaload (x_ifCond .ne 48 K (x_aload 0 (x_g1 111 234 (x_iload 1 (x_iaload (x_aload 0 (x_g0 111 3 0 999 (x_if_icmp .le 51 K (x_iconst (-4) (x_ireturn P))))))))))))) := ((xe_aload 0).trans (congrArg (x_aload 0) ((xe_g1 (kk := 111) rfl tl_11_35).trans (congrArg (x_g1 111 235) ((xe_iload 1).trans (congrArg (x_iload 1) ((xe_iaload).trans (congrArg (x_iaload) ((xe_ifCond .ne 48).trans (congrArg (x_ifCond .ne 48 K) ((xe_aload 0).trans (congrArg (x_aload 0) ((xe_g1 (kk := 111) rfl tl_11_34).trans (congrArg (x_g1 111 234) ((xe_iload 1).trans (congrArg (x_iload 1) ((xe_iaload).trans (congrArg (x_iaload) ((xe_aload 0).trans (congrArg (x_aload 0) ((xe_g0 (kk := 111) rfl tl_11_3).trans (congrArg (x_g0 111 3 0 999) ((xe_if_icmp .le 51).trans (congrArg (x_if_icmp .le 51 K) ((xe_iconst (-4)).trans (congrArg (x_iconst (-4)) (xe_ireturn)))))))))))))))))))))))))))
theorem bk_X11_walkOver_e_48 : ck_ fX11 (some .int) cX11_walkOver 48 [.iconst (-4), .ireturn] 51 = true := qck_r (nn_ _) (by decide +kernel)
theorem bs_X11_walkOver_e_48 {P : Zt → Option Zv → Prop} (K : Int → Zl → List Zv → Zt → Prop) : sx_ K P [.iconst (-4), .ireturn] 51 = x_iconst (-4) (x_ireturn P) := ((xe_iconst (-4)).trans (congrArg (x_iconst (-4)) (xe_ireturn)))
theorem bk_X11_walkOver_e_51 : ck_ fX11 (some .int) cX11_walkOver 51 [.aload 0, .tableswitch 0 11 35 #[], .iload 1, .iconst 3, .iastore, .aload 0, .tableswitch 0 11 36 #[], .iload 1, .iload 2, .ifCond .ne 71, .iconst 0, .goto 83] 71 = true := qck_r (nn_ _) (by decide +kernel)
theorem bs_X11_walkOver_e_51 {P : Zt → Option Zv → Prop} (K : Int → Zl → List Zv → Zt → Prop) : sx_ K P [.aload 0, .tableswitch 0 11 35 #[], .iload 1, .iconst 3, .iastore, .aload 0, .tableswitch 0 11 36 #[], .iload 1, .iload 2, .ifCond .ne 71, .iconst 0, .goto 83] 71 = x_aload 0 (x_g1 111 235 (x_iload 1 (x_iconst 3 (x_iastore (x_aload 0 (x_g1 111 236 (x_iload 1 (x_iload 2 (x_ifCond .ne 71 K (x_iconst 0 (x_goto 83 K))))))))))) := ((xe_aload 0).trans (congrArg (x_aload 0) ((xe_g1 (kk := 111) rfl tl_11_35).trans (congrArg (x_g1 111 235) ((xe_iload 1).trans (congrArg (x_iload 1) ((xe_iconst 3).trans (congrArg (x_iconst 3) ((xe_iastore).trans (congrArg (x_iastore) ((xe_aload 0).trans (congrArg (x_aload 0) ((xe_g1 (kk := 111) rfl tl_11_36).trans (congrArg (x_g1 111 236) ((xe_iload 1).trans (congrArg (x_iload 1) ((xe_iload 2).trans (congrArg (x_iload 2) ((xe_ifCond .ne 71).trans (congrArg (x_ifCond .ne 71 K) ((xe_iconst 0).trans (congrArg (x_iconst 0) (xe_goto 83)))))))))))))))))))))))
theorem bk_X11_walkOver_e_71 : ck_ fX11 (some .int) cX11_walkOver 71 [.aload 0, .aload 0, .tableswitch 0 11 30 #[], .iload 1, .iaload, .iconst 12] 80 = true := qck_r (nn_ _) (by decide +kernel)
theorem bs_X11_walkOver_e_71 {P : Zt → Option Zv → Prop} (K : Int → Zl → List Zv → Zt → Prop) : sx_ K P [.aload 0, .aload 0, .tableswitch 0 11 30 #[], .iload 1, .iaload, .iconst 12] 80 = x_aload 0 (x_aload 0 (x_g1 111 230 (x_iload 1 (x_iaload (x_iconst 12 (K 80)))))) := ((xe_aload 0).trans (congrArg (x_aload 0) ((xe_aload 0).trans (congrArg (x_aload 0) ((xe_g1 (kk := 111) rfl tl_11_30).trans (congrArg (x_g1 111 230) ((xe_iload 1).trans (congrArg (x_iload 1) ((xe_iaload).trans (congrArg (x_iaload) ((xe_iconst 12).trans (congrArg (x_iconst 12) xe_nil))))))))))))
theorem bk_X11_walkOver_e_83 : ck_ fX11 (some .int) cX11_walkOver 83 [.iastore, .aload 0, .tableswitch 0 11 37 #[], .iload 1, .iload 2, .ifCond .ne 108, .aload 0, .aload 0, .tableswitch 0 11 30 #[], .iload 1, .iaload, .iconst 12] 102 = true := qck_r (nn_ _) (by decide +kernel)
theorem bs_X11_walkOver_e_83 {P : Zt → Option Zv → Prop} (K : Int → Zl → List Zv → Zt → Prop) : sx_ K P [.iastore, .aload 0, .tableswitch 0 11 37 #[], .iload 1, .iload 2, .ifCond .ne 108, .aload 0, .aload 0, .tableswitch 0 11 30 #[], .iload 1, .iaload, .iconst 12] 102 = x_iastore (x_aload 0 (x_g1 111 237 (x_iload 1 (x_iload 2 (x_ifCond .ne 108 K (x_aload 0 (x_aload 0 (x_g1 111 230 (x_iload 1 (x_iaload (x_iconst 12 (K 102)))))))))))) := ((xe_iastore).trans (congrArg (x_iastore) ((xe_aload 0).trans (congrArg (x_aload 0) ((xe_g1 (kk := 111) rfl tl_11_37).trans (congrArg (x_g1 111 237) ((xe_iload 1).trans (congrArg (x_iload 1) ((xe_iload 2).trans (congrArg (x_iload 2) ((xe_ifCond .ne 108).trans (congrArg (x_ifCond .ne 108 K) ((xe_aload 0).trans (congrArg (x_aload 0) ((xe_aload 0).trans (congrArg (x_aload 0) ((xe_g1 (kk := 111) rfl tl_11_30).trans (congrArg (x_g1 111 230) ((xe_iload 1).trans (congrArg (x_iload 1) ((xe_iaload).trans (congrArg (x_iaload) ((xe_iconst 12).trans (congrArg (x_iconst 12) xe_nil))))))))))))))))))))))))
theorem bk_X11_walkOver_e_108 : ck_ fX11 (some .int) cX11_walkOver 108 [.iconst 0, .iastore, .iconst 1, .ireturn] 112 = true := qck_r (nn_ _) (by decide +kernel)
theorem bs_X11_walkOver_e_108 {P : Zt → Option Zv → Prop} (K : Int → Zl → List Zv → Zt → Prop) : sx_ K P [.iconst 0, .iastore, .iconst 1, .ireturn] 112 = x_iconst 0 (x_iastore (x_iconst 1 (x_ireturn P))) := ((xe_iconst 0).trans (congrArg (x_iconst 0) ((xe_iastore).trans (congrArg (x_iastore) ((xe_iconst 1).trans (congrArg (x_iconst 1) (xe_ireturn)))))))
theorem bk_X11_walkOver_e_105 : ck_ fX11 (some .int) cX11_walkOver 105 [.goto 109] 108 = true := qck_r (nn_ _) (by decide +kernel)
theorem bs_X11_walkOver_e_105 {P : Zt → Option Zv → Prop} (K : Int → Zl → List Zv → Zt → Prop) : sx_ K P [.goto 109] 108 = x_goto 109 K := (xe_goto 109)
theorem bk_X11_walkOver_e_109 : ck_ fX11 (some .int) cX11_walkOver 109 [.iastore, .iconst 1, .ireturn] 112 = true := qck_r (nn_ _) (by decide +kernel)
theorem bs_X11_walkOver_e_109 {P : Zt → Option Zv → Prop} (K : Int → Zl → List Zv → Zt → Prop) : sx_ K P [.iastore, .iconst 1, .ireturn] 112 = x_iastore (x_iconst 1 (x_ireturn P)) := ((xe_iastore).trans (congrArg (x_iastore) ((xe_iconst 1).trans (congrArg (x_iconst 1) (xe_ireturn)))))
abbrev po_X11_walkOver_e (T : Zt) (m s : Int) : Zt → Option Zv → Prop := fun T' r => ∃ x : Int, r = some (vI x) ∧ fr_ [(235, []), (236, []), (237, [])] T T' ∧ ((FM_ T' ∧ ZS_ T' ∧ GX_ T' (-1)) ∧ ((x = -2 ∧ ¬ (0 ≤ m ∧ m < T 111 0 29) ∧ T = T') ∨ ((0 ≤ m ∧ m < T 111 0 29) ∧ ((x = -3 ∧ ¬ (0 ≤ s ∧ s ≤ 1) ∧ T = T') ∨ ((0 ≤ s ∧ s ≤ 1) ∧ ((x = -4 ∧ ¬ (T 235 0 m = 0 ∧ T 234 0 m ≤ T 111 0 3) ∧ T = T') ∨ (x = 1 ∧ (T 235 0 m = 0 ∧ T 234 0 m ≤ T 111 0 3) ∧ T' 235 0 m = 3 ∧ (s = 0 → T' 236 0 m = 0 ∧ T' 237 0 m = T 205 0 (23 * T 230 0 m + 12)) ∧ (s = 1 → T' 236 0 m = T 205 0 (23 * T 230 0 m + 12) ∧ T' 237 0 m = 0) ∧ ro9_ T T' m)))))))
set_option maxHeartbeats 4000000 in
theorem ct_X11_walkOver_e {T : Zt} {m s : Int} (hmc : MC_ T) (hri : RI_ T) (hfm : FM_ T) (hzs : ZS_ T) (hgs : GX_ T (-1)) : Ct_ yX11_walkOver zX11_walkOver T [vR 111 0, vI m, vI s] (po_X11_walkOver_e T m s) := by
  refine ct_of pn_11 rfl rfl (Nat.le_of_ble_eq_true rfl) (fun hT hav => ?_)
  have hr_m : -2147483648 ≤ m ∧ m ≤ 2147483647 := hav (vI m) (List.mem_cons_of_mem _ List.mem_cons_self)
  have hr_s : -2147483648 ≤ s ∧ s ≤ 2147483647 := hav (vI s) (List.mem_cons_of_mem _ (List.mem_cons_of_mem _ List.mem_cons_self))
  have hz : zX11_walkOver.2.2.2.1 = some .boolean → ∀ (T' : Zt) (x : Int), po_X11_walkOver_e T m s T' (some (vI x)) → 0 ≤ x ∧ x ≤ 1 := fun h => by cases h
  have hb_29 : 0 ≤ T 111 0 29 ∧ T 111 0 29 ≤ 400 := bd_f hT 111 29 tl_11_29 0
  have hb_6 : 0 ≤ T 111 0 6 ∧ T 111 0 6 ≤ 4 := bd_f hT 111 6 tl_11_6 0
  show J_ zX11_walkOver T (po_X11_walkOver_e T m s) 0 0 0 [some (vR 111 0), some (vI m), some (vI s)] [] T
  refine j_blx (F := fX11) tb_X11 (nn_ _) bk_X11_walkOver_e_0 bs_X11_walkOver_e_0 hz (fun K hK => ?_)
  intro b1 b1b
  refine hK 5 _ [vI (T 111 0 29), vI m] T ?_
  refine j_callS (y := yX11_isOf) (Yc := zX11_isOf) (rest := []) [vI m, vI (T 111 0 29)] (ct_X11_isOf (T := T) (by omega)) cl_X11_317 (qd_c (by decide +kernel)) (nn_ _) rfl (rf_of rfl) (Nat.le_of_ble_eq_true rfl) (Nat.le_of_ble_eq_true rfl) (Nat.le_of_ble_eq_true rfl) rfl ?_
  rintro _ _ ⟨rfl, x2, rfl, hx2⟩
  show J_ zX11_walkOver T (po_X11_walkOver_e T m s) 0 0 8 _ [vI x2] T
  refine j_blx (F := fX11) tb_X11 (nn_ _) bk_X11_walkOver_e_8 bs_X11_walkOver_e_8 hz (fun K hK => ?_)
  refine And.intro (fun c3 => ?_) (fun c3 => ?_)
  · replace hx2 := hx2.resolve_right (fun z => c3 z.1)
    clear c3
    refine hK 14 _ [] T ?_
    refine j_blx (F := fX11) tb_X11 (nn_ _) bk_X11_walkOver_e_14 bs_X11_walkOver_e_14 hz (fun K hK => ?_)
    refine hK 17 _ [vI 1, vI 0, vI s] T ?_
    refine j_callS (y := yX11_in) (Yc := zX11_in) (rest := []) [vI s, vI 0, vI 1] (ct_X11_in (T := T)) cl_X11_255 (qd_c (by decide +kernel)) (nn_ _) rfl (rf_of rfl) (Nat.le_of_ble_eq_true rfl) (Nat.le_of_ble_eq_true rfl) (Nat.le_of_ble_eq_true rfl) rfl ?_
    rintro _ _ ⟨rfl, x4, rfl, hx4⟩
    show J_ zX11_walkOver T (po_X11_walkOver_e T m s) 0 0 20 _ [vI x4] T
    refine j_blx (F := fX11) tb_X11 (nn_ _) bk_X11_walkOver_e_20 bs_X11_walkOver_e_20 hz (fun K hK => ?_)
    refine And.intro (fun c5 => ?_) (fun c5 => ?_)
    · replace hx4 := hx4.resolve_right (fun z => c5 z.1)
      clear c5
      refine hK 26 _ [] T ?_
      have hcm := hmc m (by omega) (by omega)
      have hcb : 0 ≤ T 230 0 m ∧ T 230 0 m ≤ 3 := bd_a hT 230 (by decide +kernel : ta_ 230 = some (1, some 400, 0, 3)) 0 (by omega)
      have hr12 : (1 : Int) ≤ T 205 0 (23 * T 230 0 m + 12) ∧ T 205 0 (23 * T 230 0 m + 12) ≤ (9 : Int) := hri (T 230 0 m) 12 (by omega) (by omega) (by omega) (by omega)
      have hsb : SB1_ T m (4 * T 254 0 m + 9) := hgs m (by omega) (by omega) (by omega)
      have hrn : 0 ≤ T 254 0 m ∧ T 254 0 m ≤ 3000 := bd_a hT 254 (by decide +kernel : ta_ 254 = some (1, some 400, 0, 3000)) 0 (by omega)
      refine j_blx (F := fX11) tb_X11 (nn_ _) bk_X11_walkOver_e_26 bs_X11_walkOver_e_26 hz (fun K hK => ?_)
      refine ix_i (by omega) ?_
      intro b6 b6b
      refine And.intro (fun c7 => ?_) (fun c7 => ?_)
      · refine hK 48 _ [] T ?_
        refine j_blx (F := fX11) tb_X11 (nn_ _) bk_X11_walkOver_e_48 bs_X11_walkOver_e_48 hz (fun K hK => ?_)
        refine (show po_X11_walkOver_e T m s T (some (vI (-4))) from ?_)
        exact ⟨_, rfl, fr_0 _ _, ⟨hfm, hzs, hgs⟩, Or.inr ⟨by omega, Or.inr ⟨by omega, Or.inl ⟨rfl, by omega, rfl⟩⟩⟩⟩
      · refine ix_i (by omega) ?_
        intro b8 b8b
        intro b9 b9b
        refine And.intro (fun c10 => ?_) (fun c10 => ?_)
        · refine hK 51 _ [] T ?_
          refine j_blx (F := fX11) tb_X11 (nn_ _) bk_X11_walkOver_e_51 bs_X11_walkOver_e_51 hz (fun K hK => ?_)
          refine iy_i (by omega) (by omega) ?_
          refine x_nm (fun U11 hU11 => ?_)
          have e12 := up_f hU11
          refine And.intro (fun c13 => ?_) (fun c13 => ?_)
          · refine hK 71 _ [vI m, vR 236 0] U11 ?_
            refine j_blx (F := fX11) tb_X11 (nn_ _) bk_X11_walkOver_e_71 bs_X11_walkOver_e_71 hz (fun K hK => ?_)
            refine ix_i (by omega) ?_
            intro b14 b14b
            have e15 : U11 230 0 m = T 230 0 m := up_k hU11 (by exact Nat.ne_of_beq_eq_false rfl) 0 m
            rw [e15] at b14 b14b ⊢
            refine hK 80 _ [vI 12, vI (T 230 0 m), vR 111 0, vI m, vR 236 0] U11 ?_
            refine j_callV (y := yX11_rule0) (Yc := zX11_rule0) (rest := [vI m, vR 236 0]) [vI (T 230 0 m), vI 12] (ct_X11_rule0 (T := U11) (by omega) (by omega)) cl_X11_321 (qd_c (by decide +kernel)) (nn_ _) rfl (rf_of rfl) (Nat.le_of_ble_eq_true rfl) (Nat.le_of_ble_eq_true rfl) (Nat.le_of_ble_eq_true rfl) rfl ?_
            rintro _ _ ⟨rfl, rfl⟩
            have e16 : U11 205 0 (23 * (T 230 0 m) + 12) = T 205 0 (23 * (T 230 0 m) + 12) := up_k hU11 (by exact Nat.ne_of_beq_eq_false rfl) 0 (23 * (T 230 0 m) + 12)
            rw [e16]
            show J_ zX11_walkOver T (po_X11_walkOver_e T m s) 0 0 83 _ [vI (T 205 0 (23 * (T 230 0 m) + 12)), vI m, vR 236 0] U11
            refine j_blx (F := fX11) tb_X11 (nn_ _) bk_X11_walkOver_e_83 bs_X11_walkOver_e_83 hz (fun K hK => ?_)
            refine iy_i (by omega) (by omega) ?_
            refine x_nm (fun U17 hU17 => ?_)
            have e18 := up_f hU17
            refine And.intro (fun c19 => ?_) (fun c19 => ?_)
            · refine hK 108 _ [vI m, vR 237 0] U17 ?_
              refine j_blx (F := fX11) tb_X11 (nn_ _) bk_X11_walkOver_e_108 bs_X11_walkOver_e_108 hz (fun K hK => ?_)
              refine iy_i (by omega) (by omega) ?_
              refine x_nm (fun U20 hU20 => ?_)
              have e21 := up_f hU20
              refine (show po_X11_walkOver_e T m s U20 (some (vI 1)) from ?_)
              have e22 : U20 235 0 m = 3 := (up_k hU20 (by exact Nat.ne_of_beq_eq_false rfl) 0 m).trans ((up_k hU17 (by exact Nat.ne_of_beq_eq_false rfl) 0 m).trans (up_f hU11))
              have e23 : U20 236 0 m = T 205 0 (23 * (T 230 0 m) + 12) := (up_k hU20 (by exact Nat.ne_of_beq_eq_false rfl) 0 m).trans (up_f hU17)
              have e24 : U20 237 0 m = 0 := up_f hU20
              have ff : fr_ [(237, []), (236, []), (235, [])] T U20 := fr_u (fr_u (fr_u (fr_0 _ _) hU11 rfl) hU17 rfl) hU20 rfl
              have so5 : SO_ T U20 m := so_1 (so_0 (so_f (ws := [(235, [])]) (so_r) (fr_u (fr_0 _ _) hU11 rfl) ⟨fun _ => rfl, fun _ => rfl, fun _ => rfl⟩) hU17) hU20
              have hrm : 0 ≤ T 254 0 m ∧ T 254 0 m ≤ 3000 := bd_a hT 254 (by decide +kernel : ta_ 254 = some (1, some 400, 0, 3000)) 0 (by omega)
              have e25 : U20 235 0 m = 3 := (up_k hU20 (by exact Nat.ne_of_beq_eq_false rfl) 0 m).trans ((up_k hU17 (by exact Nat.ne_of_beq_eq_false rfl) 0 m).trans (up_f hU11))
              have e26 : U20 236 0 m = T 205 0 (23 * (T 230 0 m) + 12) := (up_k hU20 (by exact Nat.ne_of_beq_eq_false rfl) 0 m).trans (up_f hU17)
              have e27 : U20 237 0 m = 0 := up_f hU20
              exact ⟨_, rfl, fr_s ff rfl, ⟨FM__f (ws := [(237, [])]) (FM__f (ws := [(236, [])]) (fm_w (hfm) hU11 (by decide)) (fr_u (fr_0 _ _) hU17 rfl) ⟨fun _ => rfl, fun _ => rfl, trivial⟩) (fr_u (fr_0 _ _) hU20 rfl) ⟨fun _ => rfl, fun _ => rfl, trivial⟩, zs_o hzs so5 (fun j => ff 239 0 j rfl), gx_o (gx_x hgs) so5 (sb1_m (sb1_1 (sb1_0 (sb1_f (ws := [(235, [])]) (hsb) (fr_u (fr_0 _ _) hU11 rfl) ⟨fun _ => rfl, fun _ => rfl, fun _ => rfl⟩) hU17 (by omega)) hU20 (by omega)) (by rw [ff 254 0 m rfl]; omega)) (fun j _ => ff 254 0 j rfl)⟩, Or.inr ⟨by omega, Or.inr ⟨by omega, Or.inr ⟨rfl, by omega, by omega, fun z => ⟨by omega, by omega⟩, fun z => ⟨by omega, by omega⟩, ro_u (m := m) (k := 468) (j := 1) (ro_u (m := m) (k := 468) (j := 0) (ro_u (m := m) (k := 103) (j := 3) (ro_r) hU11 rfl rfl (by show m = _; omega)) hU17 rfl rfl (by show m = _; omega)) hU20 rfl rfl (by show m = _; omega)⟩⟩⟩⟩
            · refine ix_i (by omega) ?_
              intro b28 b28b
              have e29 : U17 230 0 m = T 230 0 m := (up_k hU17 (by exact Nat.ne_of_beq_eq_false rfl) 0 m).trans (up_k hU11 (by exact Nat.ne_of_beq_eq_false rfl) 0 m)
              rw [e29] at b28 b28b ⊢
              refine hK 102 _ [vI 12, vI (T 230 0 m), vR 111 0, vI m, vR 237 0] U17 ?_
              refine j_callV (y := yX11_rule0) (Yc := zX11_rule0) (rest := [vI m, vR 237 0]) [vI (T 230 0 m), vI 12] (ct_X11_rule0 (T := U17) (by omega) (by omega)) cl_X11_321 (qd_c (by decide +kernel)) (nn_ _) rfl (rf_of rfl) (Nat.le_of_ble_eq_true rfl) (Nat.le_of_ble_eq_true rfl) (Nat.le_of_ble_eq_true rfl) rfl ?_
              rintro _ _ ⟨rfl, rfl⟩
              have e30 : U17 205 0 (23 * (T 230 0 m) + 12) = T 205 0 (23 * (T 230 0 m) + 12) := (up_k hU17 (by exact Nat.ne_of_beq_eq_false rfl) 0 (23 * (T 230 0 m) + 12)).trans (up_k hU11 (by exact Nat.ne_of_beq_eq_false rfl) 0 (23 * (T 230 0 m) + 12))
              rw [e30]
              show J_ zX11_walkOver T (po_X11_walkOver_e T m s) 0 0 105 _ [vI (T 205 0 (23 * (T 230 0 m) + 12)), vI m, vR 237 0] U17
              refine j_blx (F := fX11) tb_X11 (nn_ _) bk_X11_walkOver_e_105 bs_X11_walkOver_e_105 hz (fun K hK => ?_)
              refine hK 109 _ [vI (T 205 0 (23 * (T 230 0 m) + 12)), vI m, vR 237 0] U17 ?_
              refine j_blx (F := fX11) tb_X11 (nn_ _) bk_X11_walkOver_e_109 bs_X11_walkOver_e_109 hz (fun K hK => ?_)
              refine iy_i (by omega) (by omega) ?_
              refine x_nm (fun U31 hU31 => ?_)
              have e32 := up_f hU31
              refine (show po_X11_walkOver_e T m s U31 (some (vI 1)) from ?_)
              have e33 : U31 235 0 m = 3 := (up_k hU31 (by exact Nat.ne_of_beq_eq_false rfl) 0 m).trans ((up_k hU17 (by exact Nat.ne_of_beq_eq_false rfl) 0 m).trans (up_f hU11))
              have e34 : U31 236 0 m = T 205 0 (23 * (T 230 0 m) + 12) := (up_k hU31 (by exact Nat.ne_of_beq_eq_false rfl) 0 m).trans (up_f hU17)
              have e35 : U31 237 0 m = T 205 0 (23 * (T 230 0 m) + 12) := up_f hU31
              have ff : fr_ [(237, []), (236, []), (235, [])] T U31 := fr_u (fr_u (fr_u (fr_0 _ _) hU11 rfl) hU17 rfl) hU31 rfl
              have so5 : SO_ T U31 m := so_1 (so_0 (so_f (ws := [(235, [])]) (so_r) (fr_u (fr_0 _ _) hU11 rfl) ⟨fun _ => rfl, fun _ => rfl, fun _ => rfl⟩) hU17) hU31
              have hrm : 0 ≤ T 254 0 m ∧ T 254 0 m ≤ 3000 := bd_a hT 254 (by decide +kernel : ta_ 254 = some (1, some 400, 0, 3000)) 0 (by omega)
              have e36 : U31 235 0 m = 3 := (up_k hU31 (by exact Nat.ne_of_beq_eq_false rfl) 0 m).trans ((up_k hU17 (by exact Nat.ne_of_beq_eq_false rfl) 0 m).trans (up_f hU11))
              have e37 : U31 236 0 m = T 205 0 (23 * (T 230 0 m) + 12) := (up_k hU31 (by exact Nat.ne_of_beq_eq_false rfl) 0 m).trans (up_f hU17)
              have e38 : U31 237 0 m = T 205 0 (23 * (T 230 0 m) + 12) := up_f hU31
              exact ⟨_, rfl, fr_s ff rfl, ⟨FM__f (ws := [(237, [])]) (FM__f (ws := [(236, [])]) (fm_w (hfm) hU11 (by decide)) (fr_u (fr_0 _ _) hU17 rfl) ⟨fun _ => rfl, fun _ => rfl, trivial⟩) (fr_u (fr_0 _ _) hU31 rfl) ⟨fun _ => rfl, fun _ => rfl, trivial⟩, zs_o hzs so5 (fun j => ff 239 0 j rfl), gx_o (gx_x hgs) so5 (sb1_m (sb1_1 (sb1_0 (sb1_f (ws := [(235, [])]) (hsb) (fr_u (fr_0 _ _) hU11 rfl) ⟨fun _ => rfl, fun _ => rfl, fun _ => rfl⟩) hU17 (by omega)) hU31 (by omega)) (by rw [ff 254 0 m rfl]; omega)) (fun j _ => ff 254 0 j rfl)⟩, Or.inr ⟨by omega, Or.inr ⟨by omega, Or.inr ⟨rfl, by omega, by omega, fun z => ⟨by omega, by omega⟩, fun z => ⟨by omega, by omega⟩, ro_u (m := m) (k := 468) (j := 1) (ro_u (m := m) (k := 468) (j := 0) (ro_u (m := m) (k := 103) (j := 3) (ro_r) hU11 rfl rfl (by show m = _; omega)) hU17 rfl rfl (by show m = _; omega)) hU31 rfl rfl (by show m = _; omega)⟩⟩⟩⟩
          · refine hK 83 _ [vI 0, vI m, vR 236 0] U11 ?_
            refine j_blx (F := fX11) tb_X11 (nn_ _) bk_X11_walkOver_e_83 bs_X11_walkOver_e_83 hz (fun K hK => ?_)
            refine iy_i (by omega) (by omega) ?_
            refine x_nm (fun U39 hU39 => ?_)
            have e40 := up_f hU39
            refine And.intro (fun c41 => ?_) (fun c41 => ?_)
            · refine hK 108 _ [vI m, vR 237 0] U39 ?_
              refine j_blx (F := fX11) tb_X11 (nn_ _) bk_X11_walkOver_e_108 bs_X11_walkOver_e_108 hz (fun K hK => ?_)
              refine iy_i (by omega) (by omega) ?_
              refine x_nm (fun U42 hU42 => ?_)
              have e43 := up_f hU42
              refine (show po_X11_walkOver_e T m s U42 (some (vI 1)) from ?_)
              have e44 : U42 235 0 m = 3 := (up_k hU42 (by exact Nat.ne_of_beq_eq_false rfl) 0 m).trans ((up_k hU39 (by exact Nat.ne_of_beq_eq_false rfl) 0 m).trans (up_f hU11))
              have e45 : U42 236 0 m = 0 := (up_k hU42 (by exact Nat.ne_of_beq_eq_false rfl) 0 m).trans (up_f hU39)
              have e46 : U42 237 0 m = 0 := up_f hU42
              have ff : fr_ [(237, []), (236, []), (235, [])] T U42 := fr_u (fr_u (fr_u (fr_0 _ _) hU11 rfl) hU39 rfl) hU42 rfl
              have so5 : SO_ T U42 m := so_1 (so_0 (so_f (ws := [(235, [])]) (so_r) (fr_u (fr_0 _ _) hU11 rfl) ⟨fun _ => rfl, fun _ => rfl, fun _ => rfl⟩) hU39) hU42
              have hrm : 0 ≤ T 254 0 m ∧ T 254 0 m ≤ 3000 := bd_a hT 254 (by decide +kernel : ta_ 254 = some (1, some 400, 0, 3000)) 0 (by omega)
              have e47 : U42 235 0 m = 3 := (up_k hU42 (by exact Nat.ne_of_beq_eq_false rfl) 0 m).trans ((up_k hU39 (by exact Nat.ne_of_beq_eq_false rfl) 0 m).trans (up_f hU11))
              have e48 : U42 236 0 m = 0 := (up_k hU42 (by exact Nat.ne_of_beq_eq_false rfl) 0 m).trans (up_f hU39)
              have e49 : U42 237 0 m = 0 := up_f hU42
              exact ⟨_, rfl, fr_s ff rfl, ⟨FM__f (ws := [(237, [])]) (FM__f (ws := [(236, [])]) (fm_w (hfm) hU11 (by decide)) (fr_u (fr_0 _ _) hU39 rfl) ⟨fun _ => rfl, fun _ => rfl, trivial⟩) (fr_u (fr_0 _ _) hU42 rfl) ⟨fun _ => rfl, fun _ => rfl, trivial⟩, zs_o hzs so5 (fun j => ff 239 0 j rfl), gx_o (gx_x hgs) so5 (sb1_m (sb1_1 (sb1_0 (sb1_f (ws := [(235, [])]) (hsb) (fr_u (fr_0 _ _) hU11 rfl) ⟨fun _ => rfl, fun _ => rfl, fun _ => rfl⟩) hU39 (by omega)) hU42 (by omega)) (by rw [ff 254 0 m rfl]; omega)) (fun j _ => ff 254 0 j rfl)⟩, Or.inr ⟨by omega, Or.inr ⟨by omega, Or.inr ⟨rfl, by omega, by omega, fun z => ⟨by omega, by omega⟩, fun z => ⟨by omega, by omega⟩, ro_u (m := m) (k := 468) (j := 1) (ro_u (m := m) (k := 468) (j := 0) (ro_u (m := m) (k := 103) (j := 3) (ro_r) hU11 rfl rfl (by show m = _; omega)) hU39 rfl rfl (by show m = _; omega)) hU42 rfl rfl (by show m = _; omega)⟩⟩⟩⟩
            · refine ix_i (by omega) ?_
              intro b50 b50b
              have e51 : U39 230 0 m = T 230 0 m := (up_k hU39 (by exact Nat.ne_of_beq_eq_false rfl) 0 m).trans (up_k hU11 (by exact Nat.ne_of_beq_eq_false rfl) 0 m)
              rw [e51] at b50 b50b ⊢
              refine hK 102 _ [vI 12, vI (T 230 0 m), vR 111 0, vI m, vR 237 0] U39 ?_
              refine j_callV (y := yX11_rule0) (Yc := zX11_rule0) (rest := [vI m, vR 237 0]) [vI (T 230 0 m), vI 12] (ct_X11_rule0 (T := U39) (by omega) (by omega)) cl_X11_321 (qd_c (by decide +kernel)) (nn_ _) rfl (rf_of rfl) (Nat.le_of_ble_eq_true rfl) (Nat.le_of_ble_eq_true rfl) (Nat.le_of_ble_eq_true rfl) rfl ?_
              rintro _ _ ⟨rfl, rfl⟩
              have e52 : U39 205 0 (23 * (T 230 0 m) + 12) = T 205 0 (23 * (T 230 0 m) + 12) := (up_k hU39 (by exact Nat.ne_of_beq_eq_false rfl) 0 (23 * (T 230 0 m) + 12)).trans (up_k hU11 (by exact Nat.ne_of_beq_eq_false rfl) 0 (23 * (T 230 0 m) + 12))
              rw [e52]
              show J_ zX11_walkOver T (po_X11_walkOver_e T m s) 0 0 105 _ [vI (T 205 0 (23 * (T 230 0 m) + 12)), vI m, vR 237 0] U39
              refine j_blx (F := fX11) tb_X11 (nn_ _) bk_X11_walkOver_e_105 bs_X11_walkOver_e_105 hz (fun K hK => ?_)
              refine hK 109 _ [vI (T 205 0 (23 * (T 230 0 m) + 12)), vI m, vR 237 0] U39 ?_
              refine j_blx (F := fX11) tb_X11 (nn_ _) bk_X11_walkOver_e_109 bs_X11_walkOver_e_109 hz (fun K hK => ?_)
              refine iy_i (by omega) (by omega) ?_
              refine x_nm (fun U53 hU53 => ?_)
              have e54 := up_f hU53
              refine (show po_X11_walkOver_e T m s U53 (some (vI 1)) from ?_)
              have e55 : U53 235 0 m = 3 := (up_k hU53 (by exact Nat.ne_of_beq_eq_false rfl) 0 m).trans ((up_k hU39 (by exact Nat.ne_of_beq_eq_false rfl) 0 m).trans (up_f hU11))
              have e56 : U53 236 0 m = 0 := (up_k hU53 (by exact Nat.ne_of_beq_eq_false rfl) 0 m).trans (up_f hU39)
              have e57 : U53 237 0 m = T 205 0 (23 * (T 230 0 m) + 12) := up_f hU53
              have ff : fr_ [(237, []), (236, []), (235, [])] T U53 := fr_u (fr_u (fr_u (fr_0 _ _) hU11 rfl) hU39 rfl) hU53 rfl
              have so5 : SO_ T U53 m := so_1 (so_0 (so_f (ws := [(235, [])]) (so_r) (fr_u (fr_0 _ _) hU11 rfl) ⟨fun _ => rfl, fun _ => rfl, fun _ => rfl⟩) hU39) hU53
              have hrm : 0 ≤ T 254 0 m ∧ T 254 0 m ≤ 3000 := bd_a hT 254 (by decide +kernel : ta_ 254 = some (1, some 400, 0, 3000)) 0 (by omega)
              have e58 : U53 235 0 m = 3 := (up_k hU53 (by exact Nat.ne_of_beq_eq_false rfl) 0 m).trans ((up_k hU39 (by exact Nat.ne_of_beq_eq_false rfl) 0 m).trans (up_f hU11))
              have e59 : U53 236 0 m = 0 := (up_k hU53 (by exact Nat.ne_of_beq_eq_false rfl) 0 m).trans (up_f hU39)
              have e60 : U53 237 0 m = T 205 0 (23 * (T 230 0 m) + 12) := up_f hU53
              exact ⟨_, rfl, fr_s ff rfl, ⟨FM__f (ws := [(237, [])]) (FM__f (ws := [(236, [])]) (fm_w (hfm) hU11 (by decide)) (fr_u (fr_0 _ _) hU39 rfl) ⟨fun _ => rfl, fun _ => rfl, trivial⟩) (fr_u (fr_0 _ _) hU53 rfl) ⟨fun _ => rfl, fun _ => rfl, trivial⟩, zs_o hzs so5 (fun j => ff 239 0 j rfl), gx_o (gx_x hgs) so5 (sb1_m (sb1_1 (sb1_0 (sb1_f (ws := [(235, [])]) (hsb) (fr_u (fr_0 _ _) hU11 rfl) ⟨fun _ => rfl, fun _ => rfl, fun _ => rfl⟩) hU39 (by omega)) hU53 (by omega)) (by rw [ff 254 0 m rfl]; omega)) (fun j _ => ff 254 0 j rfl)⟩, Or.inr ⟨by omega, Or.inr ⟨by omega, Or.inr ⟨rfl, by omega, by omega, fun z => ⟨by omega, by omega⟩, fun z => ⟨by omega, by omega⟩, ro_u (m := m) (k := 468) (j := 1) (ro_u (m := m) (k := 468) (j := 0) (ro_u (m := m) (k := 103) (j := 3) (ro_r) hU11 rfl rfl (by show m = _; omega)) hU39 rfl rfl (by show m = _; omega)) hU53 rfl rfl (by show m = _; omega)⟩⟩⟩⟩
        · refine (show po_X11_walkOver_e T m s T (some (vI (-4))) from ?_)
          exact ⟨_, rfl, fr_0 _ _, ⟨hfm, hzs, hgs⟩, Or.inr ⟨by omega, Or.inr ⟨by omega, Or.inl ⟨rfl, by omega, rfl⟩⟩⟩⟩
    · replace hx4 := hx4.resolve_left (fun z => absurd (c5.symm.trans z.1) (by decide))
      clear c5
      refine (show po_X11_walkOver_e T m s T (some (vI (-3))) from ?_)
      exact ⟨_, rfl, fr_0 _ _, ⟨hfm, hzs, hgs⟩, Or.inr ⟨by omega, Or.inl ⟨rfl, by omega, rfl⟩⟩⟩
  · replace hx2 := hx2.resolve_left (fun z => absurd (c3.symm.trans z.1) (by decide))
    clear c3
    refine (show po_X11_walkOver_e T m s T (some (vI (-2))) from ?_)
    exact ⟨_, rfl, fr_0 _ _, ⟨hfm, hzs, hgs⟩, Or.inl ⟨rfl, by omega, rfl⟩⟩
