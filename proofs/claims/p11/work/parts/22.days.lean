abbrev cX11_breaks : ByteArray := prog_13_method_32_code
def yX11_breaks : MethodName := ⟨RX11, "breaks", "(II)I"⟩
def zX11_breaks : Zm := (RX11, cX11_breaks, 7, (some .int), { frames := 2, cells := 0, slots := 0, locals := 43 })
theorem bk_X11_breaks_59 : ck_ fX11 (some .int) cX11_breaks 59 [.iload 5, .aload 0, .tableswitch 0 11 10 #[], .iload 1, .iaload, .aload 0, .tableswitch 0 11 11 #[], .iload 1, .iaload, .iadd, .if_icmp .ge 142, .aload 0, .tableswitch 0 11 32 #[], .iload 5, .iaload, .iload 2, .if_icmp .eq 99, .aload 0, .tableswitch 0 11 33 #[], .iload 5, .iaload, .iload 2, .if_icmp .ne 136, .aload 0, .tableswitch 0 11 32 #[], .iload 5, .iaload, .iload 2, .if_icmp .ne 114, .iconst 0, .goto 115] 114 = true := qck_r (nn_ _) (by decide +kernel)
theorem bs_X11_breaks_59 {P : Zt → Option Zv → Prop} (K : Int → Zl → List Zv → Zt → Prop) : sx_ K P [.iload 5, .aload 0, .tableswitch 0 11 10 #[], .iload 1, .iaload, .aload 0, .tableswitch 0 11 11 #[], .iload 1, .iaload, .iadd, .if_icmp .ge 142, .aload 0, .tableswitch 0 11 32 #[], .iload 5, .iaload, .iload 2, .if_icmp .eq 99, .aload 0, .tableswitch 0 11 33 #[], .iload 5, .iaload, .iload 2, .if_icmp .ne 136, .aload 0, .tableswitch 0 11 32 #[], .iload 5, .iaload, .iload 2, .if_icmp .ne 114, .iconst 0, .goto 115] 114 = x_iload 5 (x_aload 0 (x_g1 111 210 (x_iload 1 (x_iaload (x_aload 0 (x_g1 111 211 (x_iload 1 (x_iaload (x_iadd (x_if_icmp .ge 142 K (x_aload 0 (x_g1 111 232 (x_iload 5 (x_iaload (x_iload 2 (x_if_icmp .eq 99 K (x_aload 0 (x_g1 111 233 (x_iload 5 (x_iaload (x_iload 2 (x_if_icmp .ne 136 K (x_aload 0 (x_g1 111 232 (x_iload 5 (x_iaload (x_iload 2 (x_if_icmp .ne 114 K (x_iconst 0 (x_goto 115 K)))))))))))))))))))))))))))))) := ((xe_iload 5).trans (congrArg (x_iload 5) ((xe_aload 0).trans (congrArg (x_aload 0) ((xe_g1 (kk := 111) rfl tl_11_10).trans (congrArg (x_g1 111 210) ((xe_iload 1).trans (congrArg (x_iload 1) ((xe_iaload).trans (congrArg (x_iaload) ((xe_aload 0).trans (congrArg (x_aload 0) ((xe_g1 (kk := 111) rfl tl_11_11).trans (congrArg (x_g1 111 211) ((xe_iload 1).trans (congrArg (x_iload 1) ((xe_iaload).trans (congrArg (x_iaload) ((xe_iadd).trans (congrArg (x_iadd) ((xe_if_icmp .ge 142).trans (congrArg (x_if_icmp .ge 142 K) ((xe_aload 0).trans (congrArg (x_aload 0) ((xe_g1 (kk := 111) rfl tl_11_32).trans (congrArg (x_g1 111 232) ((xe_iload 5).trans (congrArg (x_iload 5) ((xe_iaload).trans (congrArg (x_iaload) ((xe_iload 2).trans (congrArg (x_iload 2) ((xe_if_icmp .eq 99).trans (congrArg (x_if_icmp .eq 99 K) ((xe_aload 0).trans (congrArg (x_aload 0) ((xe_g1 (kk := 111) rfl tl_11_33).trans (congrArg (x_g1 111 233) ((xe_iload 5).trans (congrArg (x_iload 5) ((xe_iaload).trans (congrArg (x_iaload) ((xe_iload 2).trans (congrArg (x_iload 2) ((xe_if_icmp .ne 136).trans (congrArg (x_if_icmp .ne 136 K) ((xe_aload 0).trans (congrArg (x_aload 0) ((xe_g1 (kk := 111) rfl tl_11_32).trans (congrArg (x_g1 111 232) ((xe_iload 5).trans (congrArg (x_iload 5) ((xe_iaload).trans (congrArg (x_iaload) ((xe_iload 2).trans (congrArg (x_iload 2) ((xe_if_icmp .ne 114).trans (congrArg (x_if_icmp .ne 114 K) ((xe_iconst 0).trans (congrArg (x_iconst 0) (xe_goto 115)))))))))))))))))))))))))))))))))))))))))))))))))))))))))))))
theorem bk_X11_breaks_142 : ck_ fX11 (some .int) cX11_breaks 142 [.iload 4, .ireturn] 145 = true := qck_r (nn_ _) (by decide +kernel)
theorem bs_X11_breaks_142 {P : Zt → Option Zv → Prop} (K : Int → Zl → List Zv → Zt → Prop) : sx_ K P [.iload 4, .ireturn] 145 = x_iload 4 (x_ireturn P) := ((xe_iload 4).trans (congrArg (x_iload 4) (xe_ireturn)))
theorem bk_X11_breaks_99 : ck_ fX11 (some .int) cX11_breaks 99 [.aload 0, .tableswitch 0 11 32 #[], .iload 5, .iaload, .iload 2, .if_icmp .ne 114, .iconst 0, .goto 115] 114 = true := qck_r (nn_ _) (by decide +kernel)
theorem bs_X11_breaks_99 {P : Zt → Option Zv → Prop} (K : Int → Zl → List Zv → Zt → Prop) : sx_ K P [.aload 0, .tableswitch 0 11 32 #[], .iload 5, .iaload, .iload 2, .if_icmp .ne 114, .iconst 0, .goto 115] 114 = x_aload 0 (x_g1 111 232 (x_iload 5 (x_iaload (x_iload 2 (x_if_icmp .ne 114 K (x_iconst 0 (x_goto 115 K))))))) := ((xe_aload 0).trans (congrArg (x_aload 0) ((xe_g1 (kk := 111) rfl tl_11_32).trans (congrArg (x_g1 111 232) ((xe_iload 5).trans (congrArg (x_iload 5) ((xe_iaload).trans (congrArg (x_iaload) ((xe_iload 2).trans (congrArg (x_iload 2) ((xe_if_icmp .ne 114).trans (congrArg (x_if_icmp .ne 114 K) ((xe_iconst 0).trans (congrArg (x_iconst 0) (xe_goto 115)))))))))))))))
theorem bk_X11_breaks_114 : ck_ fX11 (some .int) cX11_breaks 114 [.iconst 1, .istore 6, .iload 4, .iload 6, .iload 3, .if_icmp .ne 129, .iconst 1, .goto 130] 129 = true := qck_r (nn_ _) (by decide +kernel)
theorem bs_X11_breaks_114 {P : Zt → Option Zv → Prop} (K : Int → Zl → List Zv → Zt → Prop) : sx_ K P [.iconst 1, .istore 6, .iload 4, .iload 6, .iload 3, .if_icmp .ne 129, .iconst 1, .goto 130] 129 = x_iconst 1 (x_istore 6 (x_iload 4 (x_iload 6 (x_iload 3 (x_if_icmp .ne 129 K (x_iconst 1 (x_goto 130 K))))))) := ((xe_iconst 1).trans (congrArg (x_iconst 1) ((xe_istore 6).trans (congrArg (x_istore 6) ((xe_iload 4).trans (congrArg (x_iload 4) ((xe_iload 6).trans (congrArg (x_iload 6) ((xe_iload 3).trans (congrArg (x_iload 3) ((xe_if_icmp .ne 129).trans (congrArg (x_if_icmp .ne 129 K) ((xe_iconst 1).trans (congrArg (x_iconst 1) (xe_goto 130)))))))))))))))
theorem bk_X11_breaks_129 : ck_ fX11 (some .int) cX11_breaks 129 [.iconst 0, .fadd, .istore 4, .iload 6, .istore 3, .iinc 5 1, .goto 59] 142 = true := qck_r (nn_ _) (by decide +kernel)
theorem bs_X11_breaks_129 {P : Zt → Option Zv → Prop} (K : Int → Zl → List Zv → Zt → Prop) : sx_ K P [.iconst 0, .fadd, .istore 4, .iload 6, .istore 3, .iinc 5 1, .goto 59] 142 = x_iconst 0 (x_fadd (x_istore 4 (x_iload 6 (x_istore 3 (x_iinc 5 1 (x_goto 59 K)))))) := ((xe_iconst 0).trans (congrArg (x_iconst 0) ((xe_fadd).trans (congrArg (x_fadd) ((xe_istore 4).trans (congrArg (x_istore 4) ((xe_iload 6).trans (congrArg (x_iload 6) ((xe_istore 3).trans (congrArg (x_istore 3) ((xe_iinc 5 1).trans (congrArg (x_iinc 5 1) (xe_goto 59)))))))))))))
theorem bk_X11_breaks_130 : ck_ fX11 (some .int) cX11_breaks 130 [.fadd, .istore 4, .iload 6, .istore 3, .iinc 5 1, .goto 59] 142 = true := qck_r (nn_ _) (by decide +kernel)
theorem bs_X11_breaks_130 {P : Zt → Option Zv → Prop} (K : Int → Zl → List Zv → Zt → Prop) : sx_ K P [.fadd, .istore 4, .iload 6, .istore 3, .iinc 5 1, .goto 59] 142 = x_fadd (x_istore 4 (x_iload 6 (x_istore 3 (x_iinc 5 1 (x_goto 59 K))))) := ((xe_fadd).trans (congrArg (x_fadd) ((xe_istore 4).trans (congrArg (x_istore 4) ((xe_iload 6).trans (congrArg (x_iload 6) ((xe_istore 3).trans (congrArg (x_istore 3) ((xe_iinc 5 1).trans (congrArg (x_iinc 5 1) (xe_goto 59)))))))))))
theorem bk_X11_breaks_115 : ck_ fX11 (some .int) cX11_breaks 115 [.istore 6, .iload 4, .iload 6, .iload 3, .if_icmp .ne 129, .iconst 1, .goto 130] 129 = true := qck_r (nn_ _) (by decide +kernel)
theorem bs_X11_breaks_115 {P : Zt → Option Zv → Prop} (K : Int → Zl → List Zv → Zt → Prop) : sx_ K P [.istore 6, .iload 4, .iload 6, .iload 3, .if_icmp .ne 129, .iconst 1, .goto 130] 129 = x_istore 6 (x_iload 4 (x_iload 6 (x_iload 3 (x_if_icmp .ne 129 K (x_iconst 1 (x_goto 130 K)))))) := ((xe_istore 6).trans (congrArg (x_istore 6) ((xe_iload 4).trans (congrArg (x_iload 4) ((xe_iload 6).trans (congrArg (x_iload 6) ((xe_iload 3).trans (congrArg (x_iload 3) ((xe_if_icmp .ne 129).trans (congrArg (x_if_icmp .ne 129 K) ((xe_iconst 1).trans (congrArg (x_iconst 1) (xe_goto 130)))))))))))))
theorem bk_X11_breaks_136 : ck_ fX11 (some .int) cX11_breaks 136 [.iinc 5 1, .goto 59] 142 = true := qck_r (nn_ _) (by decide +kernel)
theorem bs_X11_breaks_136 {P : Zt → Option Zv → Prop} (K : Int → Zl → List Zv → Zt → Prop) : sx_ K P [.iinc 5 1, .goto 59] 142 = x_iinc 5 1 (x_goto 59 K) := ((xe_iinc 5 1).trans (congrArg (x_iinc 5 1) (xe_goto 59)))
theorem bk_X11_breaks_0 : ck_ fX11 (some .int) cX11_breaks 0 [.iload 1, .aload 0, .tableswitch 0 11 6 #[]] 5 = true := qck_r (nn_ _) (by decide +kernel)
theorem bs_X11_breaks_0 {P : Zt → Option Zv → Prop} (K : Int → Zl → List Zv → Zt → Prop) : sx_ K P [.iload 1, .aload 0, .tableswitch 0 11 6 #[]] 5 = x_iload 1 (x_aload 0 (x_g0 111 6 0 4 (K 5))) := ((xe_iload 1).trans (congrArg (x_iload 1) ((xe_aload 0).trans (congrArg (x_aload 0) ((xe_g0 (kk := 111) rfl tl_11_6).trans (congrArg (x_g0 111 6 0 4) xe_nil))))))
theorem bk_X11_breaks_8 : ck_ fX11 (some .int) cX11_breaks 8 [.ifCond .eq 22, .iload 2, .aload 0, .tableswitch 0 11 12 #[]] 16 = true := qck_r (nn_ _) (by decide +kernel)
theorem bs_X11_breaks_8 {P : Zt → Option Zv → Prop} (K : Int → Zl → List Zv → Zt → Prop) : sx_ K P [.ifCond .eq 22, .iload 2, .aload 0, .tableswitch 0 11 12 #[]] 16 = x_ifCond .eq 22 K (x_iload 2 (x_aload 0 (x_g0 111 12 0 12 (K 16)))) := ((xe_ifCond .eq 22).trans (congrArg (x_ifCond .eq 22 K) ((xe_iload 2).trans (congrArg (x_iload 2) ((xe_aload 0).trans (congrArg (x_aload 0) ((xe_g0 (kk := 111) rfl tl_11_12).trans (congrArg (x_g0 111 12 0 12) xe_nil))))))))
theorem bk_X11_breaks_22 : ck_ fX11 (some .int) cX11_breaks 22 [.iconst (-2), .ireturn] 25 = true := qck_r (nn_ _) (by decide +kernel)
theorem bs_X11_breaks_22 {P : Zt → Option Zv → Prop} (K : Int → Zl → List Zv → Zt → Prop) : sx_ K P [.iconst (-2), .ireturn] 25 = x_iconst (-2) (x_ireturn P) := ((xe_iconst (-2)).trans (congrArg (x_iconst (-2)) (xe_ireturn)))
theorem bk_X11_breaks_19 : ck_ fX11 (some .int) cX11_breaks 19 [.ifCond .ne 25, .iconst (-2), .ireturn] 25 = true := qck_r (nn_ _) (by decide +kernel)
theorem bs_X11_breaks_19 {P : Zt → Option Zv → Prop} (K : Int → Zl → List Zv → Zt → Prop) : sx_ K P [.ifCond .ne 25, .iconst (-2), .ireturn] 25 = x_ifCond .ne 25 K (x_iconst (-2) (x_ireturn P)) := ((xe_ifCond .ne 25).trans (congrArg (x_ifCond .ne 25 K) ((xe_iconst (-2)).trans (congrArg (x_iconst (-2)) (xe_ireturn)))))
theorem bk_X11_breaks_25 : ck_ fX11 (some .int) cX11_breaks 25 [.aload 0, .tableswitch 0 11 9 #[], .iload 1, .baload, .ifCond .eq 43, .aload 0, .iload 1, .iload 2] 37 = true := qck_r (nn_ _) (by decide +kernel)
theorem bs_X11_breaks_25 {P : Zt → Option Zv → Prop} (K : Int → Zl → List Zv → Zt → Prop) : sx_ K P [.aload 0, .tableswitch 0 11 9 #[], .iload 1, .baload, .ifCond .eq 43, .aload 0, .iload 1, .iload 2] 37 = x_aload 0 (x_g1 111 209 (x_iload 1 (x_baload (x_ifCond .eq 43 K (x_aload 0 (x_iload 1 (x_iload 2 (K 37)))))))) := ((xe_aload 0).trans (congrArg (x_aload 0) ((xe_g1 (kk := 111) rfl tl_11_9).trans (congrArg (x_g1 111 209) ((xe_iload 1).trans (congrArg (x_iload 1) ((xe_baload).trans (congrArg (x_baload) ((xe_ifCond .eq 43).trans (congrArg (x_ifCond .eq 43 K) ((xe_aload 0).trans (congrArg (x_aload 0) ((xe_iload 1).trans (congrArg (x_iload 1) ((xe_iload 2).trans (congrArg (x_iload 2) xe_nil))))))))))))))))
theorem bk_X11_breaks_43 : ck_ fX11 (some .int) cX11_breaks 43 [.iconst (-4), .ireturn] 46 = true := qck_r (nn_ _) (by decide +kernel)
theorem bs_X11_breaks_43 {P : Zt → Option Zv → Prop} (K : Int → Zl → List Zv → Zt → Prop) : sx_ K P [.iconst (-4), .ireturn] 46 = x_iconst (-4) (x_ireturn P) := ((xe_iconst (-4)).trans (congrArg (x_iconst (-4)) (xe_ireturn)))
theorem bk_X11_breaks_40 : ck_ fX11 (some .int) cX11_breaks 40 [.ifCond .ne 46, .iconst (-4), .ireturn] 46 = true := qck_r (nn_ _) (by decide +kernel)
theorem bs_X11_breaks_40 {P : Zt → Option Zv → Prop} (K : Int → Zl → List Zv → Zt → Prop) : sx_ K P [.ifCond .ne 46, .iconst (-4), .ireturn] 46 = x_ifCond .ne 46 K (x_iconst (-4) (x_ireturn P)) := ((xe_ifCond .ne 46).trans (congrArg (x_ifCond .ne 46 K) ((xe_iconst (-4)).trans (congrArg (x_iconst (-4)) (xe_ireturn)))))
theorem bk_X11_breaks_46 : ck_ fX11 (some .int) cX11_breaks 46 [.iconst (-1), .istore 3, .iconst 0, .istore 4, .aload 0, .tableswitch 0 11 10 #[], .iload 1, .iaload, .istore 5] 59 = true := qck_r (nn_ _) (by decide +kernel)
theorem bs_X11_breaks_46 {P : Zt → Option Zv → Prop} (K : Int → Zl → List Zv → Zt → Prop) : sx_ K P [.iconst (-1), .istore 3, .iconst 0, .istore 4, .aload 0, .tableswitch 0 11 10 #[], .iload 1, .iaload, .istore 5] 59 = x_iconst (-1) (x_istore 3 (x_iconst 0 (x_istore 4 (x_aload 0 (x_g1 111 210 (x_iload 1 (x_iaload (x_istore 5 (K 59))))))))) := ((xe_iconst (-1)).trans (congrArg (x_iconst (-1)) ((xe_istore 3).trans (congrArg (x_istore 3) ((xe_iconst 0).trans (congrArg (x_iconst 0) ((xe_istore 4).trans (congrArg (x_istore 4) ((xe_aload 0).trans (congrArg (x_aload 0) ((xe_g1 (kk := 111) rfl tl_11_10).trans (congrArg (x_g1 111 210) ((xe_iload 1).trans (congrArg (x_iload 1) ((xe_iaload).trans (congrArg (x_iaload) ((xe_istore 5).trans (congrArg (x_istore 5) xe_nil))))))))))))))))))
abbrev po_X11_breaks (T : Zt) (c cl : Int) : Zt → Option Zv → Prop := fun T' r => T = T' ∧ ∃ x : Int, r = some (vI x) ∧ (True)
set_option maxHeartbeats 4000000 in
theorem ct_X11_breaks {T : Zt} {c cl : Int} (hML : ML_ T) : Ct_ yX11_breaks zX11_breaks T [vR 111 0, vI c, vI cl] (po_X11_breaks T c cl) := by
  refine ct_of pn_11 rfl rfl (Nat.le_of_ble_eq_true rfl) (fun hT hav => ?_)
  have hr_c : -2147483648 ≤ c ∧ c ≤ 2147483647 := hav (vI c) (by simp)
  have hr_cl : -2147483648 ≤ cl ∧ cl ≤ 2147483647 := hav (vI cl) (by simp)
  have hz : zX11_breaks.2.2.2.1 = some .boolean → ∀ (T' : Zt) (x : Int), po_X11_breaks T c cl T' (some (vI x)) → 0 ≤ x ∧ x ≤ 1 := fun h => by cases h
  have hb_29 : 0 ≤ T 111 0 29 ∧ T 111 0 29 ≤ 400 := bd_f hT 111 29 (by decide +kernel : (tf_ 111)[29]? = some (0, 0, 0, 400)) 0
  have hb_6 : 0 ≤ T 111 0 6 ∧ T 111 0 6 ≤ 4 := bd_f hT 111 6 (by decide +kernel : (tf_ 111)[6]? = some (0, 0, 0, 4)) 0
  show J_ zX11_breaks T (po_X11_breaks T c cl) 0 0 0 [some (vR 111 0), some (vI c), some (vI cl), none, none, none, none] [] T
  have c_59 : ∀ (nn : Nat) (la : Int) (mn : Int) (m : Int), ((400 - m).toNat) ≤ nn → (0 ≤ c ∧ c < 4) → (0 ≤ m) → J_ zX11_breaks T (po_X11_breaks T c cl) 0 0 59 [some (vR 111 0), some (vI c), some (vI cl), some (vI la), some (vI mn), some (vI m), none] [] T := by
    intro nn
    induction nn using Nat.strongRecOn with
    | _ nn ih_59 =>
      intro la mn m hm_59 c0 i1
      have hml := hML c (by omega) (by omega)
      refine j_blx (F := fX11) tb_X11 (nn_ _) bk_X11_breaks_59 bs_X11_breaks_59 hz (fun K hK => ?_)
      refine ix_i (by omega) ?_
      intro b1 b1b
      refine ix_i (by omega) ?_
      intro b2 b2b
      refine rg_i (by omega) ?_
      refine And.intro (fun c3 => ?_) (fun c3 => ?_)
      · refine hK 142 _ [] T ?_
        refine j_blx (F := fX11) tb_X11 (nn_ _) bk_X11_breaks_142 bs_X11_breaks_142 hz (fun K hK => ?_)
        refine (show po_X11_breaks T c cl T (some (vI mn)) from ?_)
        exact ⟨rfl, _, rfl, by trivial⟩
      · refine ix_i (by omega) ?_
        intro b4 b4b
        refine And.intro (fun c5 => ?_) (fun c5 => ?_)
        · refine hK 99 _ [] T ?_
          refine j_blx (F := fX11) tb_X11 (nn_ _) bk_X11_breaks_99 bs_X11_breaks_99 hz (fun K hK => ?_)
          refine ix_i (by omega) ?_
          intro b6 b6b
          refine And.intro (fun c7 => ?_) (fun c7 => ?_)
          · refine hK 114 _ [] T ?_
            refine j_blx (F := fX11) tb_X11 (nn_ _) bk_X11_breaks_114 bs_X11_breaks_114 hz (fun K hK => ?_)
            refine And.intro (fun c8 => ?_) (fun c8 => ?_)
            · refine hK 129 [some (vR 111 0), some (vI c), some (vI cl), some (vI la), some (vI mn), some (vI m), some (vI 1)] [vI mn] T ?_
              refine j_blx (F := fX11) tb_X11 (nn_ _) bk_X11_breaks_129 bs_X11_breaks_129 hz (fun K hK => ?_)
              intro w9 w9b
              refine rg_i (by omega) ?_
              refine hK 59 [some (vR 111 0), some (vI c), some (vI cl), some (vI 1), some (vI (wr_ (mn + 0))), some (vI (m + 1)), some (vI 1)] [] T ?_
              refine j_drop [some (vR 111 0), some (vI c), some (vI cl), some (vI 1), some (vI (wr_ (mn + 0))), some (vI (m + 1)), none] (fun k v hk => ?_) rfl ?_
              · match k, hk with
                | 0, hk => exact hk
                | 1, hk => exact hk
                | 2, hk => exact hk
                | 3, hk => exact hk
                | 4, hk => exact hk
                | 5, hk => exact hk
                | 6, hk => cases hk
                | k + 7, hk => cases hk
              refine ih_59 _ ?_ 1 (wr_ (mn + 0)) (m + 1) (Nat.le_refl _) ?_ ?_
              · omega
              · omega
              · omega
            · refine hK 130 [some (vR 111 0), some (vI c), some (vI cl), some (vI la), some (vI mn), some (vI m), some (vI 1)] [vI 1, vI mn] T ?_
              refine j_blx (F := fX11) tb_X11 (nn_ _) bk_X11_breaks_130 bs_X11_breaks_130 hz (fun K hK => ?_)
              intro w10 w10b
              refine rg_i (by omega) ?_
              refine hK 59 [some (vR 111 0), some (vI c), some (vI cl), some (vI 1), some (vI (wr_ (mn + 1))), some (vI (m + 1)), some (vI 1)] [] T ?_
              refine j_drop [some (vR 111 0), some (vI c), some (vI cl), some (vI 1), some (vI (wr_ (mn + 1))), some (vI (m + 1)), none] (fun k v hk => ?_) rfl ?_
              · match k, hk with
                | 0, hk => exact hk
                | 1, hk => exact hk
                | 2, hk => exact hk
                | 3, hk => exact hk
                | 4, hk => exact hk
                | 5, hk => exact hk
                | 6, hk => cases hk
                | k + 7, hk => cases hk
              refine ih_59 _ ?_ 1 (wr_ (mn + 1)) (m + 1) (Nat.le_refl _) ?_ ?_
              · omega
              · omega
              · omega
          · refine hK 115 _ [vI 0] T ?_
            refine j_blx (F := fX11) tb_X11 (nn_ _) bk_X11_breaks_115 bs_X11_breaks_115 hz (fun K hK => ?_)
            refine And.intro (fun c11 => ?_) (fun c11 => ?_)
            · refine hK 129 [some (vR 111 0), some (vI c), some (vI cl), some (vI la), some (vI mn), some (vI m), some (vI 0)] [vI mn] T ?_
              refine j_blx (F := fX11) tb_X11 (nn_ _) bk_X11_breaks_129 bs_X11_breaks_129 hz (fun K hK => ?_)
              intro w12 w12b
              refine rg_i (by omega) ?_
              refine hK 59 [some (vR 111 0), some (vI c), some (vI cl), some (vI 0), some (vI (wr_ (mn + 0))), some (vI (m + 1)), some (vI 0)] [] T ?_
              refine j_drop [some (vR 111 0), some (vI c), some (vI cl), some (vI 0), some (vI (wr_ (mn + 0))), some (vI (m + 1)), none] (fun k v hk => ?_) rfl ?_
              · match k, hk with
                | 0, hk => exact hk
                | 1, hk => exact hk
                | 2, hk => exact hk
                | 3, hk => exact hk
                | 4, hk => exact hk
                | 5, hk => exact hk
                | 6, hk => cases hk
                | k + 7, hk => cases hk
              refine ih_59 _ ?_ 0 (wr_ (mn + 0)) (m + 1) (Nat.le_refl _) ?_ ?_
              · omega
              · omega
              · omega
            · refine hK 130 [some (vR 111 0), some (vI c), some (vI cl), some (vI la), some (vI mn), some (vI m), some (vI 0)] [vI 1, vI mn] T ?_
              refine j_blx (F := fX11) tb_X11 (nn_ _) bk_X11_breaks_130 bs_X11_breaks_130 hz (fun K hK => ?_)
              intro w13 w13b
              refine rg_i (by omega) ?_
              refine hK 59 [some (vR 111 0), some (vI c), some (vI cl), some (vI 0), some (vI (wr_ (mn + 1))), some (vI (m + 1)), some (vI 0)] [] T ?_
              refine j_drop [some (vR 111 0), some (vI c), some (vI cl), some (vI 0), some (vI (wr_ (mn + 1))), some (vI (m + 1)), none] (fun k v hk => ?_) rfl ?_
              · match k, hk with
                | 0, hk => exact hk
                | 1, hk => exact hk
                | 2, hk => exact hk
                | 3, hk => exact hk
                | 4, hk => exact hk
                | 5, hk => exact hk
                | 6, hk => cases hk
                | k + 7, hk => cases hk
              refine ih_59 _ ?_ 0 (wr_ (mn + 1)) (m + 1) (Nat.le_refl _) ?_ ?_
              · omega
              · omega
              · omega
        · refine ix_i (by omega) ?_
          intro b14 b14b
          refine And.intro (fun c15 => ?_) (fun c15 => ?_)
          · refine hK 136 _ [] T ?_
            refine j_blx (F := fX11) tb_X11 (nn_ _) bk_X11_breaks_136 bs_X11_breaks_136 hz (fun K hK => ?_)
            refine rg_i (by omega) ?_
            refine hK 59 [some (vR 111 0), some (vI c), some (vI cl), some (vI la), some (vI mn), some (vI (m + 1)), none] [] T ?_
            refine ih_59 _ ?_ la mn (m + 1) (Nat.le_refl _) ?_ ?_
            · omega
            · omega
            · omega
          · refine ix_i (by omega) ?_
            intro b16 b16b
            refine And.intro (fun c17 => ?_) (fun c17 => ?_)
            · refine hK 114 [some (vR 111 0), some (vI c), some (vI cl), some (vI la), some (vI mn), some (vI m), none] [] T ?_
              refine j_blx (F := fX11) tb_X11 (nn_ _) bk_X11_breaks_114 bs_X11_breaks_114 hz (fun K hK => ?_)
              refine And.intro (fun c18 => ?_) (fun c18 => ?_)
              · refine hK 129 [some (vR 111 0), some (vI c), some (vI cl), some (vI la), some (vI mn), some (vI m), some (vI 1)] [vI mn] T ?_
                refine j_blx (F := fX11) tb_X11 (nn_ _) bk_X11_breaks_129 bs_X11_breaks_129 hz (fun K hK => ?_)
                intro w19 w19b
                refine rg_i (by omega) ?_
                refine hK 59 [some (vR 111 0), some (vI c), some (vI cl), some (vI 1), some (vI (wr_ (mn + 0))), some (vI (m + 1)), some (vI 1)] [] T ?_
                refine j_drop [some (vR 111 0), some (vI c), some (vI cl), some (vI 1), some (vI (wr_ (mn + 0))), some (vI (m + 1)), none] (fun k v hk => ?_) rfl ?_
                · match k, hk with
                  | 0, hk => exact hk
                  | 1, hk => exact hk
                  | 2, hk => exact hk
                  | 3, hk => exact hk
                  | 4, hk => exact hk
                  | 5, hk => exact hk
                  | 6, hk => cases hk
                  | k + 7, hk => cases hk
                refine ih_59 _ ?_ 1 (wr_ (mn + 0)) (m + 1) (Nat.le_refl _) ?_ ?_
                · omega
                · omega
                · omega
              · refine hK 130 [some (vR 111 0), some (vI c), some (vI cl), some (vI la), some (vI mn), some (vI m), some (vI 1)] [vI 1, vI mn] T ?_
                refine j_blx (F := fX11) tb_X11 (nn_ _) bk_X11_breaks_130 bs_X11_breaks_130 hz (fun K hK => ?_)
                intro w20 w20b
                refine rg_i (by omega) ?_
                refine hK 59 [some (vR 111 0), some (vI c), some (vI cl), some (vI 1), some (vI (wr_ (mn + 1))), some (vI (m + 1)), some (vI 1)] [] T ?_
                refine j_drop [some (vR 111 0), some (vI c), some (vI cl), some (vI 1), some (vI (wr_ (mn + 1))), some (vI (m + 1)), none] (fun k v hk => ?_) rfl ?_
                · match k, hk with
                  | 0, hk => exact hk
                  | 1, hk => exact hk
                  | 2, hk => exact hk
                  | 3, hk => exact hk
                  | 4, hk => exact hk
                  | 5, hk => exact hk
                  | 6, hk => cases hk
                  | k + 7, hk => cases hk
                refine ih_59 _ ?_ 1 (wr_ (mn + 1)) (m + 1) (Nat.le_refl _) ?_ ?_
                · omega
                · omega
                · omega
            · refine hK 115 _ [vI 0] T ?_
              refine j_blx (F := fX11) tb_X11 (nn_ _) bk_X11_breaks_115 bs_X11_breaks_115 hz (fun K hK => ?_)
              refine And.intro (fun c21 => ?_) (fun c21 => ?_)
              · refine hK 129 [some (vR 111 0), some (vI c), some (vI cl), some (vI la), some (vI mn), some (vI m), some (vI 0)] [vI mn] T ?_
                refine j_blx (F := fX11) tb_X11 (nn_ _) bk_X11_breaks_129 bs_X11_breaks_129 hz (fun K hK => ?_)
                intro w22 w22b
                refine rg_i (by omega) ?_
                refine hK 59 [some (vR 111 0), some (vI c), some (vI cl), some (vI 0), some (vI (wr_ (mn + 0))), some (vI (m + 1)), some (vI 0)] [] T ?_
                refine j_drop [some (vR 111 0), some (vI c), some (vI cl), some (vI 0), some (vI (wr_ (mn + 0))), some (vI (m + 1)), none] (fun k v hk => ?_) rfl ?_
                · match k, hk with
                  | 0, hk => exact hk
                  | 1, hk => exact hk
                  | 2, hk => exact hk
                  | 3, hk => exact hk
                  | 4, hk => exact hk
                  | 5, hk => exact hk
                  | 6, hk => cases hk
                  | k + 7, hk => cases hk
                refine ih_59 _ ?_ 0 (wr_ (mn + 0)) (m + 1) (Nat.le_refl _) ?_ ?_
                · omega
                · omega
                · omega
              · refine hK 130 [some (vR 111 0), some (vI c), some (vI cl), some (vI la), some (vI mn), some (vI m), some (vI 0)] [vI 1, vI mn] T ?_
                refine j_blx (F := fX11) tb_X11 (nn_ _) bk_X11_breaks_130 bs_X11_breaks_130 hz (fun K hK => ?_)
                intro w23 w23b
                refine rg_i (by omega) ?_
                refine hK 59 [some (vR 111 0), some (vI c), some (vI cl), some (vI 0), some (vI (wr_ (mn + 1))), some (vI (m + 1)), some (vI 0)] [] T ?_
                refine j_drop [some (vR 111 0), some (vI c), some (vI cl), some (vI 0), some (vI (wr_ (mn + 1))), some (vI (m + 1)), none] (fun k v hk => ?_) rfl ?_
                · match k, hk with
                  | 0, hk => exact hk
                  | 1, hk => exact hk
                  | 2, hk => exact hk
                  | 3, hk => exact hk
                  | 4, hk => exact hk
                  | 5, hk => exact hk
                  | 6, hk => cases hk
                  | k + 7, hk => cases hk
                refine ih_59 _ ?_ 0 (wr_ (mn + 1)) (m + 1) (Nat.le_refl _) ?_ ?_
                · omega
                · omega
                · omega
  refine j_blx (F := fX11) tb_X11 (nn_ _) bk_X11_breaks_0 bs_X11_breaks_0 hz (fun K hK => ?_)
  intro b24 b24b
  refine hK 5 _ [vI (T 111 0 6), vI c] T ?_
  refine j_callS (y := yX11_isOf) (Yc := zX11_isOf) (rest := []) [vI c, vI (T 111 0 6)] (ct_X11_isOf (T := T) (by omega)) cl_X11_317 (qd_c (by decide +kernel)) (nn_ _) rfl (rf_of rfl) (Nat.le_of_ble_eq_true rfl) (Nat.le_of_ble_eq_true rfl) (Nat.le_of_ble_eq_true rfl) rfl ?_
  rintro _ _ ⟨rfl, x25, rfl, hx25⟩
  show J_ zX11_breaks T (po_X11_breaks T c cl) 0 0 8 _ [vI x25] T
  refine j_blx (F := fX11) tb_X11 (nn_ _) bk_X11_breaks_8 bs_X11_breaks_8 hz (fun K hK => ?_)
  refine And.intro (fun c26 => ?_) (fun c26 => ?_)
  · refine hK 22 _ [] T ?_
    refine j_blx (F := fX11) tb_X11 (nn_ _) bk_X11_breaks_22 bs_X11_breaks_22 hz (fun K hK => ?_)
    refine (show po_X11_breaks T c cl T (some (vI (-2))) from ?_)
    exact ⟨rfl, _, rfl, by trivial⟩
  · intro b27 b27b
    refine hK 16 _ [vI (T 111 0 12), vI cl] T ?_
    refine j_callS (y := yX11_isOf) (Yc := zX11_isOf) (rest := []) [vI cl, vI (T 111 0 12)] (ct_X11_isOf (T := T) (by omega)) cl_X11_317 (qd_c (by decide +kernel)) (nn_ _) rfl (rf_of rfl) (Nat.le_of_ble_eq_true rfl) (Nat.le_of_ble_eq_true rfl) (Nat.le_of_ble_eq_true rfl) rfl ?_
    rintro _ _ ⟨rfl, x28, rfl, hx28⟩
    show J_ zX11_breaks T (po_X11_breaks T c cl) 0 0 19 _ [vI x28] T
    refine j_blx (F := fX11) tb_X11 (nn_ _) bk_X11_breaks_19 bs_X11_breaks_19 hz (fun K hK => ?_)
    refine And.intro (fun c29 => ?_) (fun c29 => ?_)
    · refine hK 25 _ [] T ?_
      refine j_blx (F := fX11) tb_X11 (nn_ _) bk_X11_breaks_25 bs_X11_breaks_25 hz (fun K hK => ?_)
      refine ix_i (by omega) ?_
      intro b30 b30b
      refine And.intro (fun c31 => ?_) (fun c31 => ?_)
      · refine hK 43 _ [] T ?_
        refine j_blx (F := fX11) tb_X11 (nn_ _) bk_X11_breaks_43 bs_X11_breaks_43 hz (fun K hK => ?_)
        refine (show po_X11_breaks T c cl T (some (vI (-4))) from ?_)
        exact ⟨rfl, _, rfl, by trivial⟩
      · refine hK 37 _ [vI cl, vI c, vR 111 0] T ?_
        refine j_callV (y := yX11_hasEntered) (Yc := zX11_hasEntered) (rest := []) [vI c, vI cl] (ct_X11_hasEntered (T := T) (by omega)) cl_X11_340 (qd_c (by decide +kernel)) (nn_ _) rfl (rf_of rfl) (Nat.le_of_ble_eq_true rfl) (Nat.le_of_ble_eq_true rfl) (Nat.le_of_ble_eq_true rfl) rfl ?_
        rintro _ _ ⟨rfl, x32, rfl, hx32⟩
        show J_ zX11_breaks T (po_X11_breaks T c cl) 0 0 40 _ [vI x32] T
        refine j_blx (F := fX11) tb_X11 (nn_ _) bk_X11_breaks_40 bs_X11_breaks_40 hz (fun K hK => ?_)
        refine And.intro (fun c33 => ?_) (fun c33 => ?_)
        · refine hK 46 _ [] T ?_
          refine j_blx (F := fX11) tb_X11 (nn_ _) bk_X11_breaks_46 bs_X11_breaks_46 hz (fun K hK => ?_)
          refine ix_i (by omega) ?_
          intro b34 b34b
          refine hK 59 [some (vR 111 0), some (vI c), some (vI cl), some (vI (-1)), some (vI 0), some (vI (T 210 0 c)), none] [] T ?_
          refine c_59 _ (-1) 0 (T 210 0 c) (Nat.le_refl _) ?_ ?_
          · omega
          · omega
        · refine (show po_X11_breaks T c cl T (some (vI (-4))) from ?_)
          exact ⟨rfl, _, rfl, by trivial⟩
    · refine (show po_X11_breaks T c cl T (some (vI (-2))) from ?_)
      exact ⟨rfl, _, rfl, by trivial⟩
abbrev cX11_shareClub : ByteArray := prog_13_method_33_code
def yX11_shareClub : MethodName := ⟨RX11, "shareClub", "(II)Z"⟩
def zX11_shareClub : Zm := (RX11, cX11_shareClub, 3, (some .boolean), { frames := 0, cells := 0, slots := 0, locals := 0 })
theorem bk_X11_shareClub_0 : ck_ fX11 (some .boolean) cX11_shareClub 0 [.aload 0, .tableswitch 0 11 32 #[], .iload 1, .iaload, .aload 0, .tableswitch 0 11 32 #[], .iload 2, .iaload, .if_icmp .eq 60, .aload 0, .tableswitch 0 11 32 #[], .iload 1, .iaload, .aload 0, .tableswitch 0 11 33 #[], .iload 2, .iaload, .if_icmp .eq 60, .aload 0, .tableswitch 0 11 33 #[], .iload 1, .iaload, .aload 0, .tableswitch 0 11 32 #[], .iload 2, .iaload, .if_icmp .eq 60, .aload 0, .tableswitch 0 11 33 #[], .iload 1, .iaload, .aload 0, .tableswitch 0 11 33 #[], .iload 2, .iaload, .if_icmp .ne 64, .iconst 1, .goto 65] 64 = true := qck_r (nn_ _) (by decide +kernel)
theorem bs_X11_shareClub_0 {P : Zt → Option Zv → Prop} (K : Int → Zl → List Zv → Zt → Prop) : sx_ K P [.aload 0, .tableswitch 0 11 32 #[], .iload 1, .iaload, .aload 0, .tableswitch 0 11 32 #[], .iload 2, .iaload, .if_icmp .eq 60, .aload 0, .tableswitch 0 11 32 #[], .iload 1, .iaload, .aload 0, .tableswitch 0 11 33 #[], .iload 2, .iaload, .if_icmp .eq 60, .aload 0, .tableswitch 0 11 33 #[], .iload 1, .iaload, .aload 0, .tableswitch 0 11 32 #[], .iload 2, .iaload, .if_icmp .eq 60, .aload 0, .tableswitch 0 11 33 #[], .iload 1, .iaload, .aload 0, .tableswitch 0 11 33 #[], .iload 2, .iaload, .if_icmp .ne 64, .iconst 1, .goto 65] 64 = x_aload 0 (x_g1 111 232 (x_iload 1 (x_iaload (x_aload 0 (x_g1 111 232 (x_iload 2 (x_iaload (x_if_icmp .eq 60 K (x_aload 0 (x_g1 111 232 (x_iload 1 (x_iaload (x_aload 0 (x_g1 111 233 (x_iload 2 (x_iaload (x_if_icmp .eq 60 K (x_aload 0 (x_g1 111 233 (x_iload 1 (x_iaload (x_aload 0 (x_g1 111 232 (x_iload 2 (x_iaload (x_if_icmp .eq 60 K (x_aload 0 (x_g1 111 233 (x_iload 1 (x_iaload (x_aload 0 (x_g1 111 233 (x_iload 2 (x_iaload (x_if_icmp .ne 64 K (x_iconst 1 (x_goto 65 K))))))))))))))))))))))))))))))))))))) := ((xe_aload 0).trans (congrArg (x_aload 0) ((xe_g1 (kk := 111) rfl tl_11_32).trans (congrArg (x_g1 111 232) ((xe_iload 1).trans (congrArg (x_iload 1) ((xe_iaload).trans (congrArg (x_iaload) ((xe_aload 0).trans (congrArg (x_aload 0) ((xe_g1 (kk := 111) rfl tl_11_32).trans (congrArg (x_g1 111 232) ((xe_iload 2).trans (congrArg (x_iload 2) ((xe_iaload).trans (congrArg (x_iaload) ((xe_if_icmp .eq 60).trans (congrArg (x_if_icmp .eq 60 K) ((xe_aload 0).trans (congrArg (x_aload 0) ((xe_g1 (kk := 111) rfl tl_11_32).trans (congrArg (x_g1 111 232) ((xe_iload 1).trans (congrArg (x_iload 1) ((xe_iaload).trans (congrArg (x_iaload) ((xe_aload 0).trans (congrArg (x_aload 0) ((xe_g1 (kk := 111) rfl tl_11_33).trans (congrArg (x_g1 111 233) ((xe_iload 2).trans (congrArg (x_iload 2) ((xe_iaload).trans (congrArg (x_iaload) ((xe_if_icmp .eq 60).trans (congrArg (x_if_icmp .eq 60 K) ((xe_aload 0).trans (congrArg (x_aload 0) ((xe_g1 (kk := 111) rfl tl_11_33).trans (congrArg (x_g1 111 233) ((xe_iload 1).trans (congrArg (x_iload 1) ((xe_iaload).trans (congrArg (x_iaload) ((xe_aload 0).trans (congrArg (x_aload 0) ((xe_g1 (kk := 111) rfl tl_11_32).trans (congrArg (x_g1 111 232) ((xe_iload 2).trans (congrArg (x_iload 2) ((xe_iaload).trans (congrArg (x_iaload) ((xe_if_icmp .eq 60).trans (congrArg (x_if_icmp .eq 60 K) ((xe_aload 0).trans (congrArg (x_aload 0) ((xe_g1 (kk := 111) rfl tl_11_33).trans (congrArg (x_g1 111 233) ((xe_iload 1).trans (congrArg (x_iload 1) ((xe_iaload).trans (congrArg (x_iaload) ((xe_aload 0).trans (congrArg (x_aload 0) ((xe_g1 (kk := 111) rfl tl_11_33).trans (congrArg (x_g1 111 233) ((xe_iload 2).trans (congrArg (x_iload 2) ((xe_iaload).trans (congrArg (x_iaload) ((xe_if_icmp .ne 64).trans (congrArg (x_if_icmp .ne 64 K) ((xe_iconst 1).trans (congrArg (x_iconst 1) (xe_goto 65)))))))))))))))))))))))))))))))))))))))))))))))))))))))))))))))))))))))))))
theorem bk_X11_shareClub_60 : ck_ fX11 (some .boolean) cX11_shareClub 60 [.iconst 1, .goto 65] 64 = true := qck_r (nn_ _) (by decide +kernel)
theorem bs_X11_shareClub_60 {P : Zt → Option Zv → Prop} (K : Int → Zl → List Zv → Zt → Prop) : sx_ K P [.iconst 1, .goto 65] 64 = x_iconst 1 (x_goto 65 K) := ((xe_iconst 1).trans (congrArg (x_iconst 1) (xe_goto 65)))
theorem bk_X11_shareClub_65 : ck_ fX11 (some .boolean) cX11_shareClub 65 [.ireturn] 66 = true := qck_r (nn_ _) (by decide +kernel)
theorem bs_X11_shareClub_65 {P : Zt → Option Zv → Prop} (K : Int → Zl → List Zv → Zt → Prop) : sx_ K P [.ireturn] 66 = x_ireturn P := (xe_ireturn)
theorem bk_X11_shareClub_64 : ck_ fX11 (some .boolean) cX11_shareClub 64 [.iconst 0, .ireturn] 66 = true := qck_r (nn_ _) (by decide +kernel)
theorem bs_X11_shareClub_64 {P : Zt → Option Zv → Prop} (K : Int → Zl → List Zv → Zt → Prop) : sx_ K P [.iconst 0, .ireturn] 66 = x_iconst 0 (x_ireturn P) := ((xe_iconst 0).trans (congrArg (x_iconst 0) (xe_ireturn)))
abbrev po_X11_shareClub (T : Zt) (a b : Int) : Zt → Option Zv → Prop := fun T' r => T = T' ∧ ∃ x : Int, r = some (vI x) ∧ (0 ≤ x ∧ x ≤ 1)
set_option maxHeartbeats 4000000 in
theorem ct_X11_shareClub {T : Zt} {a b : Int} (h1 : 0 ≤ a ∧ a < 400) (h2 : 0 ≤ b ∧ b < 400) : Ct_ yX11_shareClub zX11_shareClub T [vR 111 0, vI a, vI b] (po_X11_shareClub T a b) := by
  refine ct_of pn_11 rfl rfl (Nat.le_of_ble_eq_true rfl) (fun hT hav => ?_)
  have hr_a : -2147483648 ≤ a ∧ a ≤ 2147483647 := hav (vI a) (by simp)
  have hr_b : -2147483648 ≤ b ∧ b ≤ 2147483647 := hav (vI b) (by simp)
  have hz : zX11_shareClub.2.2.2.1 = some .boolean → ∀ (T' : Zt) (x : Int), po_X11_shareClub T a b T' (some (vI x)) → 0 ≤ x ∧ x ≤ 1 := fun _ T' x h => by obtain ⟨-, y, e, hy⟩ := h; cases e; omega
  show J_ zX11_shareClub T (po_X11_shareClub T a b) 0 0 0 [some (vR 111 0), some (vI a), some (vI b)] [] T
  refine j_blx (F := fX11) tb_X11 (nn_ _) bk_X11_shareClub_0 bs_X11_shareClub_0 hz (fun K hK => ?_)
  refine ix_i (by omega) ?_
  intro b1 b1b
  refine ix_i (by omega) ?_
  intro b2 b2b
  refine And.intro (fun c3 => ?_) (fun c3 => ?_)
  · refine hK 60 _ [] T ?_
    refine j_blx (F := fX11) tb_X11 (nn_ _) bk_X11_shareClub_60 bs_X11_shareClub_60 hz (fun K hK => ?_)
    refine hK 65 _ [vI 1] T ?_
    refine j_blx (F := fX11) tb_X11 (nn_ _) bk_X11_shareClub_65 bs_X11_shareClub_65 hz (fun K hK => ?_)
    refine (show po_X11_shareClub T a b T (some (vI 1)) from ?_)
    exact ⟨rfl, _, rfl, by omega⟩
  · refine ix_i (by omega) ?_
    intro b4 b4b
    refine ix_i (by omega) ?_
    intro b5 b5b
    refine And.intro (fun c6 => ?_) (fun c6 => ?_)
    · refine hK 60 _ [] T ?_
      refine j_blx (F := fX11) tb_X11 (nn_ _) bk_X11_shareClub_60 bs_X11_shareClub_60 hz (fun K hK => ?_)
      refine hK 65 _ [vI 1] T ?_
      refine j_blx (F := fX11) tb_X11 (nn_ _) bk_X11_shareClub_65 bs_X11_shareClub_65 hz (fun K hK => ?_)
      refine (show po_X11_shareClub T a b T (some (vI 1)) from ?_)
      exact ⟨rfl, _, rfl, by omega⟩
    · refine ix_i (by omega) ?_
      intro b7 b7b
      refine ix_i (by omega) ?_
      intro b8 b8b
      refine And.intro (fun c9 => ?_) (fun c9 => ?_)
      · refine hK 60 _ [] T ?_
        refine j_blx (F := fX11) tb_X11 (nn_ _) bk_X11_shareClub_60 bs_X11_shareClub_60 hz (fun K hK => ?_)
        refine hK 65 _ [vI 1] T ?_
        refine j_blx (F := fX11) tb_X11 (nn_ _) bk_X11_shareClub_65 bs_X11_shareClub_65 hz (fun K hK => ?_)
        refine (show po_X11_shareClub T a b T (some (vI 1)) from ?_)
        exact ⟨rfl, _, rfl, by omega⟩
      · refine ix_i (by omega) ?_
        intro b10 b10b
        refine ix_i (by omega) ?_
        intro b11 b11b
        refine And.intro (fun c12 => ?_) (fun c12 => ?_)
        · refine hK 64 _ [] T ?_
          refine j_blx (F := fX11) tb_X11 (nn_ _) bk_X11_shareClub_64 bs_X11_shareClub_64 hz (fun K hK => ?_)
          refine (show po_X11_shareClub T a b T (some (vI 0)) from ?_)
          exact ⟨rfl, _, rfl, by omega⟩
        · refine hK 65 _ [vI 1] T ?_
          refine j_blx (F := fX11) tb_X11 (nn_ _) bk_X11_shareClub_65 bs_X11_shareClub_65 hz (fun K hK => ?_)
          refine (show po_X11_shareClub T a b T (some (vI 1)) from ?_)
          exact ⟨rfl, _, rfl, by omega⟩
abbrev cX11_standAgainst : ByteArray := prog_13_method_34_code
def yX11_standAgainst : MethodName := ⟨RX11, "standAgainst", "(II)Z"⟩
def zX11_standAgainst : Zm := (RX11, cX11_standAgainst, 5, (some .boolean), { frames := 1, cells := 0, slots := 0, locals := 22 })
theorem bk_X11_standAgainst_126 : ck_ fX11 (some .boolean) cX11_standAgainst 126 [.istore 4, .iload 4, .iload 3, .if_icmp .ge 143, .aload 0, .iload 1, .iload 2] 137 = true := qck_r (nn_ _) (by decide +kernel)
theorem bs_X11_standAgainst_126 {P : Zt → Option Zv → Prop} (K : Int → Zl → List Zv → Zt → Prop) : sx_ K P [.istore 4, .iload 4, .iload 3, .if_icmp .ge 143, .aload 0, .iload 1, .iload 2] 137 = x_istore 4 (x_iload 4 (x_iload 3 (x_if_icmp .ge 143 K (x_aload 0 (x_iload 1 (x_iload 2 (K 137))))))) := ((xe_istore 4).trans (congrArg (x_istore 4) ((xe_iload 4).trans (congrArg (x_iload 4) ((xe_iload 3).trans (congrArg (x_iload 3) ((xe_if_icmp .ge 143).trans (congrArg (x_if_icmp .ge 143 K) ((xe_aload 0).trans (congrArg (x_aload 0) ((xe_iload 1).trans (congrArg (x_iload 1) ((xe_iload 2).trans (congrArg (x_iload 2) xe_nil))))))))))))))
theorem bk_X11_standAgainst_143 : ck_ fX11 (some .boolean) cX11_standAgainst 143 [.iload 4, .ifCond .ne 177, .aload 0, .tableswitch 0 11 13 #[], .aload 0, .tableswitch 0 11 32 #[], .iload 1, .iaload, .iaload, .aload 0, .tableswitch 0 11 13 #[], .aload 0, .tableswitch 0 11 32 #[], .iload 2, .iaload, .iaload, .if_icmp .ne 177, .iconst 1, .goto 178] 177 = true := qck_r (nn_ _) (by decide +kernel)
theorem bs_X11_standAgainst_143 {P : Zt → Option Zv → Prop} (K : Int → Zl → List Zv → Zt → Prop) : sx_ K P [.iload 4, .ifCond .ne 177, .aload 0, .tableswitch 0 11 13 #[], .aload 0, .tableswitch 0 11 32 #[], .iload 1, .iaload, .iaload, .aload 0, .tableswitch 0 11 13 #[], .aload 0, .tableswitch 0 11 32 #[], .iload 2, .iaload, .iaload, .if_icmp .ne 177, .iconst 1, .goto 178] 177 = x_iload 4 (x_ifCond .ne 177 K (x_aload 0 (x_g1 111 213 (x_aload 0 (x_g1 111 232 (x_iload 1 (x_iaload (x_iaload (x_aload 0 (x_g1 111 213 (x_aload 0 (x_g1 111 232 (x_iload 2 (x_iaload (x_iaload (x_if_icmp .ne 177 K (x_iconst 1 (x_goto 178 K)))))))))))))))))) := ((xe_iload 4).trans (congrArg (x_iload 4) ((xe_ifCond .ne 177).trans (congrArg (x_ifCond .ne 177 K) ((xe_aload 0).trans (congrArg (x_aload 0) ((xe_g1 (kk := 111) rfl tl_11_13).trans (congrArg (x_g1 111 213) ((xe_aload 0).trans (congrArg (x_aload 0) ((xe_g1 (kk := 111) rfl tl_11_32).trans (congrArg (x_g1 111 232) ((xe_iload 1).trans (congrArg (x_iload 1) ((xe_iaload).trans (congrArg (x_iaload) ((xe_iaload).trans (congrArg (x_iaload) ((xe_aload 0).trans (congrArg (x_aload 0) ((xe_g1 (kk := 111) rfl tl_11_13).trans (congrArg (x_g1 111 213) ((xe_aload 0).trans (congrArg (x_aload 0) ((xe_g1 (kk := 111) rfl tl_11_32).trans (congrArg (x_g1 111 232) ((xe_iload 2).trans (congrArg (x_iload 2) ((xe_iaload).trans (congrArg (x_iaload) ((xe_iaload).trans (congrArg (x_iaload) ((xe_if_icmp .ne 177).trans (congrArg (x_if_icmp .ne 177 K) ((xe_iconst 1).trans (congrArg (x_iconst 1) (xe_goto 178)))))))))))))))))))))))))))))))))))))
theorem bk_X11_standAgainst_177 : ck_ fX11 (some .boolean) cX11_standAgainst 177 [.iconst 0, .ireturn] 179 = true := qck_r (nn_ _) (by decide +kernel)
theorem bs_X11_standAgainst_177 {P : Zt → Option Zv → Prop} (K : Int → Zl → List Zv → Zt → Prop) : sx_ K P [.iconst 0, .ireturn] 179 = x_iconst 0 (x_ireturn P) := ((xe_iconst 0).trans (congrArg (x_iconst 0) (xe_ireturn)))
theorem bk_X11_standAgainst_178 : ck_ fX11 (some .boolean) cX11_standAgainst 178 [.ireturn] 179 = true := qck_r (nn_ _) (by decide +kernel)
theorem bs_X11_standAgainst_178 {P : Zt → Option Zv → Prop} (K : Int → Zl → List Zv → Zt → Prop) : sx_ K P [.ireturn] 179 = x_ireturn P := (xe_ireturn)
set_option maxRecDepth 100000 in
theorem cl_X11_350 : cv_ RX11 350 yX11_shareClub zX11_shareClub 11 2 := ⟨gi_V (lw_b8 211 (by decide +kernel) rfl : Cond.methodLink RX11 350 yX11_shareClub ∈ lw_g) (lw_b8 213 (by decide +kernel) rfl : Cond.instanceMethod yX11_shareClub ∈ lw_g) (lw_sel 66 rfl : Cond.selects yX11_shareClub.cls yX11_shareClub yX11_shareClub ∈ lw_g) (lw_b1 10 (by decide +kernel) rfl : Cond.initialized yX11_shareClub.cls ∈ lw_g) (lw_b8 214 rfl rfl : Cond.code yX11_shareClub cX11_shareClub 3 (some .boolean) ∈ lw_g), ⟨by decide, by decide, by decide +kernel⟩, ⟨_, _, rfl⟩⟩
theorem bk_X11_standAgainst_140 : ck_ fX11 (some .boolean) cX11_standAgainst 140 [.ifCond .ne 173, .iload 4, .ifCond .ne 177, .aload 0, .tableswitch 0 11 13 #[], .aload 0, .tableswitch 0 11 32 #[], .iload 1, .iaload, .iaload, .aload 0, .tableswitch 0 11 13 #[], .aload 0, .tableswitch 0 11 32 #[], .iload 2, .iaload, .iaload, .if_icmp .ne 177, .iconst 1, .goto 178] 177 = true := qck_r (nn_ _) (by decide +kernel)
theorem bs_X11_standAgainst_140 {P : Zt → Option Zv → Prop} (K : Int → Zl → List Zv → Zt → Prop) : sx_ K P [.ifCond .ne 173, .iload 4, .ifCond .ne 177, .aload 0, .tableswitch 0 11 13 #[], .aload 0, .tableswitch 0 11 32 #[], .iload 1, .iaload, .iaload, .aload 0, .tableswitch 0 11 13 #[], .aload 0, .tableswitch 0 11 32 #[], .iload 2, .iaload, .iaload, .if_icmp .ne 177, .iconst 1, .goto 178] 177 = x_ifCond .ne 173 K (x_iload 4 (x_ifCond .ne 177 K (x_aload 0 (x_g1 111 213 (x_aload 0 (x_g1 111 232 (x_iload 1 (x_iaload (x_iaload (x_aload 0 (x_g1 111 213 (x_aload 0 (x_g1 111 232 (x_iload 2 (x_iaload (x_iaload (x_if_icmp .ne 177 K (x_iconst 1 (x_goto 178 K))))))))))))))))))) := ((xe_ifCond .ne 173).trans (congrArg (x_ifCond .ne 173 K) ((xe_iload 4).trans (congrArg (x_iload 4) ((xe_ifCond .ne 177).trans (congrArg (x_ifCond .ne 177 K) ((xe_aload 0).trans (congrArg (x_aload 0) ((xe_g1 (kk := 111) rfl tl_11_13).trans (congrArg (x_g1 111 213) ((xe_aload 0).trans (congrArg (x_aload 0) ((xe_g1 (kk := 111) rfl tl_11_32).trans (congrArg (x_g1 111 232) ((xe_iload 1).trans (congrArg (x_iload 1) ((xe_iaload).trans (congrArg (x_iaload) ((xe_iaload).trans (congrArg (x_iaload) ((xe_aload 0).trans (congrArg (x_aload 0) ((xe_g1 (kk := 111) rfl tl_11_13).trans (congrArg (x_g1 111 213) ((xe_aload 0).trans (congrArg (x_aload 0) ((xe_g1 (kk := 111) rfl tl_11_32).trans (congrArg (x_g1 111 232) ((xe_iload 2).trans (congrArg (x_iload 2) ((xe_iaload).trans (congrArg (x_iaload) ((xe_iaload).trans (congrArg (x_iaload) ((xe_if_icmp .ne 177).trans (congrArg (x_if_icmp .ne 177 K) ((xe_iconst 1).trans (congrArg (x_iconst 1) (xe_goto 178)))))))))))))))))))))))))))))))))))))))
theorem bk_X11_standAgainst_173 : ck_ fX11 (some .boolean) cX11_standAgainst 173 [.iconst 1, .goto 178] 177 = true := qck_r (nn_ _) (by decide +kernel)
theorem bs_X11_standAgainst_173 {P : Zt → Option Zv → Prop} (K : Int → Zl → List Zv → Zt → Prop) : sx_ K P [.iconst 1, .goto 178] 177 = x_iconst 1 (x_goto 178 K) := ((xe_iconst 1).trans (congrArg (x_iconst 1) (xe_goto 178)))
theorem bk_X11_standAgainst_81 : ck_ fX11 (some .boolean) cX11_standAgainst 81 [.istore 3, .aload 0, .tableswitch 0 11 34 #[], .iload 1, .iaload, .aload 0, .tableswitch 0 11 34 #[], .iload 2, .iaload, .if_icmp .le 113, .aload 0, .tableswitch 0 11 34 #[], .iload 1, .iaload, .aload 0, .tableswitch 0 11 34 #[], .iload 2, .iaload, .isub, .goto 126] 113 = true := qck_r (nn_ _) (by decide +kernel)
theorem bs_X11_standAgainst_81 {P : Zt → Option Zv → Prop} (K : Int → Zl → List Zv → Zt → Prop) : sx_ K P [.istore 3, .aload 0, .tableswitch 0 11 34 #[], .iload 1, .iaload, .aload 0, .tableswitch 0 11 34 #[], .iload 2, .iaload, .if_icmp .le 113, .aload 0, .tableswitch 0 11 34 #[], .iload 1, .iaload, .aload 0, .tableswitch 0 11 34 #[], .iload 2, .iaload, .isub, .goto 126] 113 = x_istore 3 (x_aload 0 (x_g1 111 234 (x_iload 1 (x_iaload (x_aload 0 (x_g1 111 234 (x_iload 2 (x_iaload (x_if_icmp .le 113 K (x_aload 0 (x_g1 111 234 (x_iload 1 (x_iaload (x_aload 0 (x_g1 111 234 (x_iload 2 (x_iaload (x_isub (x_goto 126 K))))))))))))))))))) := ((xe_istore 3).trans (congrArg (x_istore 3) ((xe_aload 0).trans (congrArg (x_aload 0) ((xe_g1 (kk := 111) rfl tl_11_34).trans (congrArg (x_g1 111 234) ((xe_iload 1).trans (congrArg (x_iload 1) ((xe_iaload).trans (congrArg (x_iaload) ((xe_aload 0).trans (congrArg (x_aload 0) ((xe_g1 (kk := 111) rfl tl_11_34).trans (congrArg (x_g1 111 234) ((xe_iload 2).trans (congrArg (x_iload 2) ((xe_iaload).trans (congrArg (x_iaload) ((xe_if_icmp .le 113).trans (congrArg (x_if_icmp .le 113 K) ((xe_aload 0).trans (congrArg (x_aload 0) ((xe_g1 (kk := 111) rfl tl_11_34).trans (congrArg (x_g1 111 234) ((xe_iload 1).trans (congrArg (x_iload 1) ((xe_iaload).trans (congrArg (x_iaload) ((xe_aload 0).trans (congrArg (x_aload 0) ((xe_g1 (kk := 111) rfl tl_11_34).trans (congrArg (x_g1 111 234) ((xe_iload 2).trans (congrArg (x_iload 2) ((xe_iaload).trans (congrArg (x_iaload) ((xe_isub).trans (congrArg (x_isub) (xe_goto 126)))))))))))))))))))))))))))))))))))))))
theorem bk_X11_standAgainst_113 : ck_ fX11 (some .boolean) cX11_standAgainst 113 [.aload 0, .tableswitch 0 11 34 #[], .iload 2, .iaload, .aload 0, .tableswitch 0 11 34 #[], .iload 1, .iaload, .isub] 126 = true := qck_r (nn_ _) (by decide +kernel)
theorem bs_X11_standAgainst_113 {P : Zt → Option Zv → Prop} (K : Int → Zl → List Zv → Zt → Prop) : sx_ K P [.aload 0, .tableswitch 0 11 34 #[], .iload 2, .iaload, .aload 0, .tableswitch 0 11 34 #[], .iload 1, .iaload, .isub] 126 = x_aload 0 (x_g1 111 234 (x_iload 2 (x_iaload (x_aload 0 (x_g1 111 234 (x_iload 1 (x_iaload (x_isub (K 126))))))))) := ((xe_aload 0).trans (congrArg (x_aload 0) ((xe_g1 (kk := 111) rfl tl_11_34).trans (congrArg (x_g1 111 234) ((xe_iload 2).trans (congrArg (x_iload 2) ((xe_iaload).trans (congrArg (x_iaload) ((xe_aload 0).trans (congrArg (x_aload 0) ((xe_g1 (kk := 111) rfl tl_11_34).trans (congrArg (x_g1 111 234) ((xe_iload 1).trans (congrArg (x_iload 1) ((xe_iaload).trans (congrArg (x_iaload) ((xe_isub).trans (congrArg (x_isub) xe_nil))))))))))))))))))
theorem bk_X11_standAgainst_0 : ck_ fX11 (some .boolean) cX11_standAgainst 0 [.iload 1, .iload 2, .if_icmp .eq 25, .aload 0, .tableswitch 0 11 35 #[], .iload 1, .iaload, .iconst 3, .if_icmp .eq 25, .aload 0, .tableswitch 0 11 35 #[], .iload 2, .iaload, .iconst 3, .if_icmp .ne 27, .iconst 0, .ireturn] 27 = true := qck_r (nn_ _) (by decide +kernel)
theorem bs_X11_standAgainst_0 {P : Zt → Option Zv → Prop} (K : Int → Zl → List Zv → Zt → Prop) : sx_ K P [.iload 1, .iload 2, .if_icmp .eq 25, .aload 0, .tableswitch 0 11 35 #[], .iload 1, .iaload, .iconst 3, .if_icmp .eq 25, .aload 0, .tableswitch 0 11 35 #[], .iload 2, .iaload, .iconst 3, .if_icmp .ne 27, .iconst 0, .ireturn] 27 = x_iload 1 (x_iload 2 (x_if_icmp .eq 25 K (x_aload 0 (x_g1 111 235 (x_iload 1 (x_iaload (x_iconst 3 (x_if_icmp .eq 25 K (x_aload 0 (x_g1 111 235 (x_iload 2 (x_iaload (x_iconst 3 (x_if_icmp .ne 27 K (x_iconst 0 (x_ireturn P)))))))))))))))) := ((xe_iload 1).trans (congrArg (x_iload 1) ((xe_iload 2).trans (congrArg (x_iload 2) ((xe_if_icmp .eq 25).trans (congrArg (x_if_icmp .eq 25 K) ((xe_aload 0).trans (congrArg (x_aload 0) ((xe_g1 (kk := 111) rfl tl_11_35).trans (congrArg (x_g1 111 235) ((xe_iload 1).trans (congrArg (x_iload 1) ((xe_iaload).trans (congrArg (x_iaload) ((xe_iconst 3).trans (congrArg (x_iconst 3) ((xe_if_icmp .eq 25).trans (congrArg (x_if_icmp .eq 25 K) ((xe_aload 0).trans (congrArg (x_aload 0) ((xe_g1 (kk := 111) rfl tl_11_35).trans (congrArg (x_g1 111 235) ((xe_iload 2).trans (congrArg (x_iload 2) ((xe_iaload).trans (congrArg (x_iaload) ((xe_iconst 3).trans (congrArg (x_iconst 3) ((xe_if_icmp .ne 27).trans (congrArg (x_if_icmp .ne 27 K) ((xe_iconst 0).trans (congrArg (x_iconst 0) (xe_ireturn)))))))))))))))))))))))))))))))))
theorem bk_X11_standAgainst_25 : ck_ fX11 (some .boolean) cX11_standAgainst 25 [.iconst 0, .ireturn] 27 = true := qck_r (nn_ _) (by decide +kernel)
theorem bs_X11_standAgainst_25 {P : Zt → Option Zv → Prop} (K : Int → Zl → List Zv → Zt → Prop) : sx_ K P [.iconst 0, .ireturn] 27 = x_iconst 0 (x_ireturn P) := ((xe_iconst 0).trans (congrArg (x_iconst 0) (xe_ireturn)))
theorem bk_X11_standAgainst_27 : ck_ fX11 (some .boolean) cX11_standAgainst 27 [.aload 0, .aload 0, .tableswitch 0 11 30 #[], .iload 1, .iaload, .iconst 8] 36 = true := qck_r (nn_ _) (by decide +kernel)
theorem bs_X11_standAgainst_27 {P : Zt → Option Zv → Prop} (K : Int → Zl → List Zv → Zt → Prop) : sx_ K P [.aload 0, .aload 0, .tableswitch 0 11 30 #[], .iload 1, .iaload, .iconst 8] 36 = x_aload 0 (x_aload 0 (x_g1 111 230 (x_iload 1 (x_iaload (x_iconst 8 (K 36)))))) := ((xe_aload 0).trans (congrArg (x_aload 0) ((xe_aload 0).trans (congrArg (x_aload 0) ((xe_g1 (kk := 111) rfl tl_11_30).trans (congrArg (x_g1 111 230) ((xe_iload 1).trans (congrArg (x_iload 1) ((xe_iaload).trans (congrArg (x_iaload) ((xe_iconst 8).trans (congrArg (x_iconst 8) xe_nil))))))))))))
theorem bk_X11_standAgainst_39 : ck_ fX11 (some .boolean) cX11_standAgainst 39 [.aload 0, .aload 0, .tableswitch 0 11 30 #[], .iload 2, .iaload, .iconst 8] 48 = true := qck_r (nn_ _) (by decide +kernel)
theorem bs_X11_standAgainst_39 {P : Zt → Option Zv → Prop} (K : Int → Zl → List Zv → Zt → Prop) : sx_ K P [.aload 0, .aload 0, .tableswitch 0 11 30 #[], .iload 2, .iaload, .iconst 8] 48 = x_aload 0 (x_aload 0 (x_g1 111 230 (x_iload 2 (x_iaload (x_iconst 8 (K 48)))))) := ((xe_aload 0).trans (congrArg (x_aload 0) ((xe_aload 0).trans (congrArg (x_aload 0) ((xe_g1 (kk := 111) rfl tl_11_30).trans (congrArg (x_g1 111 230) ((xe_iload 2).trans (congrArg (x_iload 2) ((xe_iaload).trans (congrArg (x_iaload) ((xe_iconst 8).trans (congrArg (x_iconst 8) xe_nil))))))))))))
theorem bk_X11_standAgainst_51 : ck_ fX11 (some .boolean) cX11_standAgainst 51 [.if_icmp .le 69, .aload 0, .aload 0, .tableswitch 0 11 30 #[], .iload 1, .iaload, .iconst 8] 63 = true := qck_r (nn_ _) (by decide +kernel)
theorem bs_X11_standAgainst_51 {P : Zt → Option Zv → Prop} (K : Int → Zl → List Zv → Zt → Prop) : sx_ K P [.if_icmp .le 69, .aload 0, .aload 0, .tableswitch 0 11 30 #[], .iload 1, .iaload, .iconst 8] 63 = x_if_icmp .le 69 K (x_aload 0 (x_aload 0 (x_g1 111 230 (x_iload 1 (x_iaload (x_iconst 8 (K 63))))))) := ((xe_if_icmp .le 69).trans (congrArg (x_if_icmp .le 69 K) ((xe_aload 0).trans (congrArg (x_aload 0) ((xe_aload 0).trans (congrArg (x_aload 0) ((xe_g1 (kk := 111) rfl tl_11_30).trans (congrArg (x_g1 111 230) ((xe_iload 1).trans (congrArg (x_iload 1) ((xe_iaload).trans (congrArg (x_iaload) ((xe_iconst 8).trans (congrArg (x_iconst 8) xe_nil))))))))))))))
theorem bk_X11_standAgainst_69 : ck_ fX11 (some .boolean) cX11_standAgainst 69 [.aload 0, .aload 0, .tableswitch 0 11 30 #[], .iload 2, .iaload, .iconst 8] 78 = true := qck_r (nn_ _) (by decide +kernel)
theorem bs_X11_standAgainst_69 {P : Zt → Option Zv → Prop} (K : Int → Zl → List Zv → Zt → Prop) : sx_ K P [.aload 0, .aload 0, .tableswitch 0 11 30 #[], .iload 2, .iaload, .iconst 8] 78 = x_aload 0 (x_aload 0 (x_g1 111 230 (x_iload 2 (x_iaload (x_iconst 8 (K 78)))))) := ((xe_aload 0).trans (congrArg (x_aload 0) ((xe_aload 0).trans (congrArg (x_aload 0) ((xe_g1 (kk := 111) rfl tl_11_30).trans (congrArg (x_g1 111 230) ((xe_iload 2).trans (congrArg (x_iload 2) ((xe_iaload).trans (congrArg (x_iaload) ((xe_iconst 8).trans (congrArg (x_iconst 8) xe_nil))))))))))))
theorem bk_X11_standAgainst_66 : ck_ fX11 (some .boolean) cX11_standAgainst 66 [.goto 81] 69 = true := qck_r (nn_ _) (by decide +kernel)
theorem bs_X11_standAgainst_66 {P : Zt → Option Zv → Prop} (K : Int → Zl → List Zv → Zt → Prop) : sx_ K P [.goto 81] 69 = x_goto 81 K := (xe_goto 81)
abbrev po_X11_standAgainst (T : Zt) (a b : Int) : Zt → Option Zv → Prop := fun T' r => T = T' ∧ ∃ x : Int, r = some (vI x) ∧ (0 ≤ x ∧ x ≤ 1)
set_option maxHeartbeats 4000000 in
theorem ct_X11_standAgainst {T : Zt} {a b : Int} (h1 : 0 ≤ a ∧ a < 400) (h2 : 0 ≤ b ∧ b < 400) : Ct_ yX11_standAgainst zX11_standAgainst T [vR 111 0, vI a, vI b] (po_X11_standAgainst T a b) := by
  refine ct_of pn_11 rfl rfl (Nat.le_of_ble_eq_true rfl) (fun hT hav => ?_)
  have hr_a : -2147483648 ≤ a ∧ a ≤ 2147483647 := hav (vI a) (by simp)
  have hr_b : -2147483648 ≤ b ∧ b ≤ 2147483647 := hav (vI b) (by simp)
  have hz : zX11_standAgainst.2.2.2.1 = some .boolean → ∀ (T' : Zt) (x : Int), po_X11_standAgainst T a b T' (some (vI x)) → 0 ≤ x ∧ x ≤ 1 := fun _ T' x h => by obtain ⟨-, y, e, hy⟩ := h; cases e; omega
  show J_ zX11_standAgainst T (po_X11_standAgainst T a b) 0 0 0 [some (vR 111 0), some (vI a), some (vI b), none, none] [] T
  have c_81 : ∀ (rs : Int), J_ zX11_standAgainst T (po_X11_standAgainst T a b) 0 0 81 [some (vR 111 0), some (vI a), some (vI b), none, none] [vI rs] T := by
    intro rs 
    have c_126 : ∀ (fa : Int), J_ zX11_standAgainst T (po_X11_standAgainst T a b) 0 0 126 [some (vR 111 0), some (vI a), some (vI b), some (vI rs), none] [vI fa] T := by
      intro fa 
      refine j_blx (F := fX11) tb_X11 (nn_ _) bk_X11_standAgainst_126 bs_X11_standAgainst_126 hz (fun K hK => ?_)
      refine And.intro (fun c1 => ?_) (fun c1 => ?_)
      · refine hK 143 [some (vR 111 0), some (vI a), some (vI b), some (vI rs), some (vI fa)] [] T ?_
        refine j_blx (F := fX11) tb_X11 (nn_ _) bk_X11_standAgainst_143 bs_X11_standAgainst_143 hz (fun K hK => ?_)
        refine And.intro (fun c2 => ?_) (fun c2 => ?_)
        · refine hK 177 _ [] T ?_
          refine j_blx (F := fX11) tb_X11 (nn_ _) bk_X11_standAgainst_177 bs_X11_standAgainst_177 hz (fun K hK => ?_)
          refine (show po_X11_standAgainst T a b T (some (vI 0)) from ?_)
          exact ⟨rfl, _, rfl, by omega⟩
        · refine ix_i (by omega) ?_
          intro b3 b3b
          refine ix_i (by omega) ?_
          intro b4 b4b
          refine ix_i (by omega) ?_
          intro b5 b5b
          refine ix_i (by omega) ?_
          intro b6 b6b
          refine And.intro (fun c7 => ?_) (fun c7 => ?_)
          · refine hK 177 _ [] T ?_
            refine j_blx (F := fX11) tb_X11 (nn_ _) bk_X11_standAgainst_177 bs_X11_standAgainst_177 hz (fun K hK => ?_)
            refine (show po_X11_standAgainst T a b T (some (vI 0)) from ?_)
            exact ⟨rfl, _, rfl, by omega⟩
          · refine hK 178 _ [vI 1] T ?_
            refine j_blx (F := fX11) tb_X11 (nn_ _) bk_X11_standAgainst_178 bs_X11_standAgainst_178 hz (fun K hK => ?_)
            refine (show po_X11_standAgainst T a b T (some (vI 1)) from ?_)
            exact ⟨rfl, _, rfl, by omega⟩
      · refine hK 137 _ [vI b, vI a, vR 111 0] T ?_
        refine j_callV (y := yX11_shareClub) (Yc := zX11_shareClub) (rest := []) [vI a, vI b] (ct_X11_shareClub (T := T) (by omega) (by omega)) cl_X11_350 (qd_c (by decide +kernel)) (nn_ _) rfl (rf_of rfl) (Nat.le_of_ble_eq_true rfl) (Nat.le_of_ble_eq_true rfl) (Nat.le_of_ble_eq_true rfl) rfl ?_
        rintro _ _ ⟨rfl, x8, rfl, hx8⟩
        show J_ zX11_standAgainst T (po_X11_standAgainst T a b) 0 0 140 _ [vI x8] T
        refine j_blx (F := fX11) tb_X11 (nn_ _) bk_X11_standAgainst_140 bs_X11_standAgainst_140 hz (fun K hK => ?_)
        refine And.intro (fun c9 => ?_) (fun c9 => ?_)
        · refine hK 173 _ [] T ?_
          refine j_blx (F := fX11) tb_X11 (nn_ _) bk_X11_standAgainst_173 bs_X11_standAgainst_173 hz (fun K hK => ?_)
          refine hK 178 _ [vI 1] T ?_
          refine j_blx (F := fX11) tb_X11 (nn_ _) bk_X11_standAgainst_178 bs_X11_standAgainst_178 hz (fun K hK => ?_)
          refine (show po_X11_standAgainst T a b T (some (vI 1)) from ?_)
          exact ⟨rfl, _, rfl, by omega⟩
        · refine And.intro (fun c10 => ?_) (fun c10 => ?_)
          · refine hK 177 _ [] T ?_
            refine j_blx (F := fX11) tb_X11 (nn_ _) bk_X11_standAgainst_177 bs_X11_standAgainst_177 hz (fun K hK => ?_)
            refine (show po_X11_standAgainst T a b T (some (vI 0)) from ?_)
            exact ⟨rfl, _, rfl, by omega⟩
          · refine ix_i (by omega) ?_
            intro b11 b11b
            refine ix_i (by omega) ?_
            intro b12 b12b
            refine ix_i (by omega) ?_
            intro b13 b13b
            refine ix_i (by omega) ?_
            intro b14 b14b
            refine And.intro (fun c15 => ?_) (fun c15 => ?_)
            · refine hK 177 _ [] T ?_
              refine j_blx (F := fX11) tb_X11 (nn_ _) bk_X11_standAgainst_177 bs_X11_standAgainst_177 hz (fun K hK => ?_)
              refine (show po_X11_standAgainst T a b T (some (vI 0)) from ?_)
              exact ⟨rfl, _, rfl, by omega⟩
            · refine hK 178 _ [vI 1] T ?_
              refine j_blx (F := fX11) tb_X11 (nn_ _) bk_X11_standAgainst_178 bs_X11_standAgainst_178 hz (fun K hK => ?_)
              refine (show po_X11_standAgainst T a b T (some (vI 1)) from ?_)
              exact ⟨rfl, _, rfl, by omega⟩
    refine j_blx (F := fX11) tb_X11 (nn_ _) bk_X11_standAgainst_81 bs_X11_standAgainst_81 hz (fun K hK => ?_)
    refine ix_i (by omega) ?_
    intro b16 b16b
    refine ix_i (by omega) ?_
    intro b17 b17b
    refine And.intro (fun c18 => ?_) (fun c18 => ?_)
    · refine hK 113 [some (vR 111 0), some (vI a), some (vI b), some (vI rs), none] [] T ?_
      refine j_blx (F := fX11) tb_X11 (nn_ _) bk_X11_standAgainst_113 bs_X11_standAgainst_113 hz (fun K hK => ?_)
      refine ix_i (by omega) ?_
      intro b19 b19b
      refine ix_i (by omega) ?_
      intro b20 b20b
      refine rg_i (by omega) ?_
      refine hK 126 _ [vI ((T 234 0 b) - (T 234 0 a))] T ?_
      exact c_126 ((T 234 0 b) - (T 234 0 a))
    · refine ix_i (by omega) ?_
      intro b21 b21b
      refine ix_i (by omega) ?_
      intro b22 b22b
      refine rg_i (by omega) ?_
      refine hK 126 _ [vI ((T 234 0 a) - (T 234 0 b))] T ?_
      exact c_126 ((T 234 0 a) - (T 234 0 b))
  refine j_blx (F := fX11) tb_X11 (nn_ _) bk_X11_standAgainst_0 bs_X11_standAgainst_0 hz (fun K hK => ?_)
  refine And.intro (fun c23 => ?_) (fun c23 => ?_)
  · refine hK 25 _ [] T ?_
    refine j_blx (F := fX11) tb_X11 (nn_ _) bk_X11_standAgainst_25 bs_X11_standAgainst_25 hz (fun K hK => ?_)
    refine (show po_X11_standAgainst T a b T (some (vI 0)) from ?_)
    exact ⟨rfl, _, rfl, by omega⟩
  · refine ix_i (by omega) ?_
    intro b24 b24b
    refine And.intro (fun c25 => ?_) (fun c25 => ?_)
    · refine hK 25 _ [] T ?_
      refine j_blx (F := fX11) tb_X11 (nn_ _) bk_X11_standAgainst_25 bs_X11_standAgainst_25 hz (fun K hK => ?_)
      refine (show po_X11_standAgainst T a b T (some (vI 0)) from ?_)
      exact ⟨rfl, _, rfl, by omega⟩
    · refine ix_i (by omega) ?_
      intro b26 b26b
      refine And.intro (fun c27 => ?_) (fun c27 => ?_)
      · refine hK 27 _ [] T ?_
        refine j_blx (F := fX11) tb_X11 (nn_ _) bk_X11_standAgainst_27 bs_X11_standAgainst_27 hz (fun K hK => ?_)
        refine ix_i (by omega) ?_
        intro b28 b28b
        refine hK 36 _ [vI 8, vI (T 230 0 a), vR 111 0] T ?_
        refine j_callV (y := yX11_rule0) (Yc := zX11_rule0) (rest := []) [vI (T 230 0 a), vI 8] (ct_X11_rule0 (T := T) (by omega) (by omega)) cl_X11_321 (qd_c (by decide +kernel)) (nn_ _) rfl (rf_of rfl) (Nat.le_of_ble_eq_true rfl) (Nat.le_of_ble_eq_true rfl) (Nat.le_of_ble_eq_true rfl) rfl ?_
        rintro _ _ ⟨rfl, rfl⟩
        show J_ zX11_standAgainst T (po_X11_standAgainst T a b) 0 0 39 _ [vI (T 205 0 (23 * (T 230 0 a) + 8))] T
        refine j_blx (F := fX11) tb_X11 (nn_ _) bk_X11_standAgainst_39 bs_X11_standAgainst_39 hz (fun K hK => ?_)
        refine ix_i (by omega) ?_
        intro b29 b29b
        refine hK 48 _ [vI 8, vI (T 230 0 b), vR 111 0, vI (T 205 0 (23 * (T 230 0 a) + 8))] T ?_
        refine j_callV (y := yX11_rule0) (Yc := zX11_rule0) (rest := [vI (T 205 0 (23 * (T 230 0 a) + 8))]) [vI (T 230 0 b), vI 8] (ct_X11_rule0 (T := T) (by omega) (by omega)) cl_X11_321 (qd_c (by decide +kernel)) (nn_ _) rfl (rf_of rfl) (Nat.le_of_ble_eq_true rfl) (Nat.le_of_ble_eq_true rfl) (Nat.le_of_ble_eq_true rfl) rfl ?_
        rintro _ _ ⟨rfl, rfl⟩
        show J_ zX11_standAgainst T (po_X11_standAgainst T a b) 0 0 51 _ [vI (T 205 0 (23 * (T 230 0 b) + 8)), vI (T 205 0 (23 * (T 230 0 a) + 8))] T
        refine j_blx (F := fX11) tb_X11 (nn_ _) bk_X11_standAgainst_51 bs_X11_standAgainst_51 hz (fun K hK => ?_)
        refine And.intro (fun c30 => ?_) (fun c30 => ?_)
        · refine hK 69 _ [] T ?_
          refine j_blx (F := fX11) tb_X11 (nn_ _) bk_X11_standAgainst_69 bs_X11_standAgainst_69 hz (fun K hK => ?_)
          refine ix_i (by omega) ?_
          intro b31 b31b
          refine hK 78 _ [vI 8, vI (T 230 0 b), vR 111 0] T ?_
          refine j_callV (y := yX11_rule0) (Yc := zX11_rule0) (rest := []) [vI (T 230 0 b), vI 8] (ct_X11_rule0 (T := T) (by omega) (by omega)) cl_X11_321 (qd_c (by decide +kernel)) (nn_ _) rfl (rf_of rfl) (Nat.le_of_ble_eq_true rfl) (Nat.le_of_ble_eq_true rfl) (Nat.le_of_ble_eq_true rfl) rfl ?_
          rintro _ _ ⟨rfl, rfl⟩
          show J_ zX11_standAgainst T (po_X11_standAgainst T a b) 0 0 81 _ [vI (T 205 0 (23 * (T 230 0 b) + 8))] T
          exact c_81 (T 205 0 (23 * (T 230 0 b) + 8))
        · refine ix_i (by omega) ?_
          intro b32 b32b
          refine hK 63 _ [vI 8, vI (T 230 0 a), vR 111 0] T ?_
          refine j_callV (y := yX11_rule0) (Yc := zX11_rule0) (rest := []) [vI (T 230 0 a), vI 8] (ct_X11_rule0 (T := T) (by omega) (by omega)) cl_X11_321 (qd_c (by decide +kernel)) (nn_ _) rfl (rf_of rfl) (Nat.le_of_ble_eq_true rfl) (Nat.le_of_ble_eq_true rfl) (Nat.le_of_ble_eq_true rfl) rfl ?_
          rintro _ _ ⟨rfl, rfl⟩
          show J_ zX11_standAgainst T (po_X11_standAgainst T a b) 0 0 66 _ [vI (T 205 0 (23 * (T 230 0 a) + 8))] T
          refine j_blx (F := fX11) tb_X11 (nn_ _) bk_X11_standAgainst_66 bs_X11_standAgainst_66 hz (fun K hK => ?_)
          refine hK 81 _ [vI (T 205 0 (23 * (T 230 0 a) + 8))] T ?_
          exact c_81 (T 205 0 (23 * (T 230 0 a) + 8))
      · refine (show po_X11_standAgainst T a b T (some (vI 0)) from ?_)
        exact ⟨rfl, _, rfl, by omega⟩
abbrev cX11_nothingAgainst : ByteArray := prog_13_method_35_code
def yX11_nothingAgainst : MethodName := ⟨RX11, "nothingAgainst", "(I)Z"⟩
def zX11_nothingAgainst : Zm := (RX11, cX11_nothingAgainst, 4, (some .boolean), { frames := 2, cells := 0, slots := 0, locals := 46 })
theorem bk_X11_nothingAgainst_4 : ck_ fX11 (some .boolean) cX11_nothingAgainst 4 [.iload 3, .aload 0, .tableswitch 0 11 29 #[], .if_icmp .ge 37, .iload 2, .ifCond .eq 37, .aload 0, .iload 1, .iload 3] 19 = true := qck_r (nn_ _) (by decide +kernel)
theorem bs_X11_nothingAgainst_4 {P : Zt → Option Zv → Prop} (K : Int → Zl → List Zv → Zt → Prop) : sx_ K P [.iload 3, .aload 0, .tableswitch 0 11 29 #[], .if_icmp .ge 37, .iload 2, .ifCond .eq 37, .aload 0, .iload 1, .iload 3] 19 = x_iload 3 (x_aload 0 (x_g0 111 29 0 400 (x_if_icmp .ge 37 K (x_iload 2 (x_ifCond .eq 37 K (x_aload 0 (x_iload 1 (x_iload 3 (K 19))))))))) := ((xe_iload 3).trans (congrArg (x_iload 3) ((xe_aload 0).trans (congrArg (x_aload 0) ((xe_g0 (kk := 111) rfl tl_11_29).trans (congrArg (x_g0 111 29 0 400) ((xe_if_icmp .ge 37).trans (congrArg (x_if_icmp .ge 37 K) ((xe_iload 2).trans (congrArg (x_iload 2) ((xe_ifCond .eq 37).trans (congrArg (x_ifCond .eq 37 K) ((xe_aload 0).trans (congrArg (x_aload 0) ((xe_iload 1).trans (congrArg (x_iload 1) ((xe_iload 3).trans (congrArg (x_iload 3) xe_nil))))))))))))))))))
theorem bk_X11_nothingAgainst_37 : ck_ fX11 (some .boolean) cX11_nothingAgainst 37 [.iload 2, .ireturn] 39 = true := qck_r (nn_ _) (by decide +kernel)
theorem bs_X11_nothingAgainst_37 {P : Zt → Option Zv → Prop} (K : Int → Zl → List Zv → Zt → Prop) : sx_ K P [.iload 2, .ireturn] 39 = x_iload 2 (x_ireturn P) := ((xe_iload 2).trans (congrArg (x_iload 2) (xe_ireturn)))
set_option maxRecDepth 100000 in
theorem cl_X11_353 : cv_ RX11 353 yX11_standAgainst zX11_standAgainst 11 2 := ⟨gi_V (lw_b8 207 (by decide +kernel) rfl : Cond.methodLink RX11 353 yX11_standAgainst ∈ lw_g) (lw_b8 209 (by decide +kernel) rfl : Cond.instanceMethod yX11_standAgainst ∈ lw_g) (lw_sel 69 rfl : Cond.selects yX11_standAgainst.cls yX11_standAgainst yX11_standAgainst ∈ lw_g) (lw_b1 10 (by decide +kernel) rfl : Cond.initialized yX11_standAgainst.cls ∈ lw_g) (lw_b8 210 rfl rfl : Cond.code yX11_standAgainst cX11_standAgainst 5 (some .boolean) ∈ lw_g), ⟨by decide, by decide, by decide +kernel⟩, ⟨_, _, rfl⟩⟩
theorem bk_X11_nothingAgainst_22 : ck_ fX11 (some .boolean) cX11_nothingAgainst 22 [.ifCond .ne 29, .iconst 1, .goto 30] 29 = true := qck_r (nn_ _) (by decide +kernel)
theorem bs_X11_nothingAgainst_22 {P : Zt → Option Zv → Prop} (K : Int → Zl → List Zv → Zt → Prop) : sx_ K P [.ifCond .ne 29, .iconst 1, .goto 30] 29 = x_ifCond .ne 29 K (x_iconst 1 (x_goto 30 K)) := ((xe_ifCond .ne 29).trans (congrArg (x_ifCond .ne 29 K) ((xe_iconst 1).trans (congrArg (x_iconst 1) (xe_goto 30)))))
theorem bk_X11_nothingAgainst_29 : ck_ fX11 (some .boolean) cX11_nothingAgainst 29 [.iconst 0, .istore 2, .iinc 3 1, .goto 4] 37 = true := qck_r (nn_ _) (by decide +kernel)
theorem bs_X11_nothingAgainst_29 {P : Zt → Option Zv → Prop} (K : Int → Zl → List Zv → Zt → Prop) : sx_ K P [.iconst 0, .istore 2, .iinc 3 1, .goto 4] 37 = x_iconst 0 (x_istore 2 (x_iinc 3 1 (x_goto 4 K))) := ((xe_iconst 0).trans (congrArg (x_iconst 0) ((xe_istore 2).trans (congrArg (x_istore 2) ((xe_iinc 3 1).trans (congrArg (x_iinc 3 1) (xe_goto 4)))))))
theorem bk_X11_nothingAgainst_30 : ck_ fX11 (some .boolean) cX11_nothingAgainst 30 [.istore 2, .iinc 3 1, .goto 4] 37 = true := qck_r (nn_ _) (by decide +kernel)
theorem bs_X11_nothingAgainst_30 {P : Zt → Option Zv → Prop} (K : Int → Zl → List Zv → Zt → Prop) : sx_ K P [.istore 2, .iinc 3 1, .goto 4] 37 = x_istore 2 (x_iinc 3 1 (x_goto 4 K)) := ((xe_istore 2).trans (congrArg (x_istore 2) ((xe_iinc 3 1).trans (congrArg (x_iinc 3 1) (xe_goto 4)))))
theorem bk_X11_nothingAgainst_0 : ck_ fX11 (some .boolean) cX11_nothingAgainst 0 [.iconst 1, .istore 2, .iconst 0, .istore 3] 4 = true := qck_r (nn_ _) (by decide +kernel)
theorem bs_X11_nothingAgainst_0 {P : Zt → Option Zv → Prop} (K : Int → Zl → List Zv → Zt → Prop) : sx_ K P [.iconst 1, .istore 2, .iconst 0, .istore 3] 4 = x_iconst 1 (x_istore 2 (x_iconst 0 (x_istore 3 (K 4)))) := ((xe_iconst 1).trans (congrArg (x_iconst 1) ((xe_istore 2).trans (congrArg (x_istore 2) ((xe_iconst 0).trans (congrArg (x_iconst 0) ((xe_istore 3).trans (congrArg (x_istore 3) xe_nil))))))))
abbrev po_X11_nothingAgainst (T : Zt) (m : Int) : Zt → Option Zv → Prop := fun T' r => T = T' ∧ ∃ x : Int, r = some (vI x) ∧ (0 ≤ x ∧ x ≤ 1)
set_option maxHeartbeats 4000000 in
theorem ct_X11_nothingAgainst {T : Zt} {m : Int} (h1 : 0 ≤ m ∧ m < 400) : Ct_ yX11_nothingAgainst zX11_nothingAgainst T [vR 111 0, vI m] (po_X11_nothingAgainst T m) := by
  refine ct_of pn_11 rfl rfl (Nat.le_of_ble_eq_true rfl) (fun hT hav => ?_)
  have hr_m : -2147483648 ≤ m ∧ m ≤ 2147483647 := hav (vI m) (by simp)
  have hz : zX11_nothingAgainst.2.2.2.1 = some .boolean → ∀ (T' : Zt) (x : Int), po_X11_nothingAgainst T m T' (some (vI x)) → 0 ≤ x ∧ x ≤ 1 := fun _ T' x h => by obtain ⟨-, y, e, hy⟩ := h; cases e; omega
  show J_ zX11_nothingAgainst T (po_X11_nothingAgainst T m) 0 0 0 [some (vR 111 0), some (vI m), none, none] [] T
  have c_4 : ∀ (nn : Nat) (no : Int) (k : Int), ((400 - k).toNat) ≤ nn → (0 ≤ k ∧ 0 ≤ no ∧ no ≤ 1) → J_ zX11_nothingAgainst T (po_X11_nothingAgainst T m) 0 0 4 [some (vR 111 0), some (vI m), some (vI no), some (vI k)] [] T := by
    intro nn
    induction nn using Nat.strongRecOn with
    | _ nn ih_4 =>
      intro no k hm_4 i1
      refine j_blx (F := fX11) tb_X11 (nn_ _) bk_X11_nothingAgainst_4 bs_X11_nothingAgainst_4 hz (fun K hK => ?_)
      intro b1 b1b
      refine And.intro (fun c2 => ?_) (fun c2 => ?_)
      · refine hK 37 _ [] T ?_
        refine j_blx (F := fX11) tb_X11 (nn_ _) bk_X11_nothingAgainst_37 bs_X11_nothingAgainst_37 hz (fun K hK => ?_)
        refine (show po_X11_nothingAgainst T m T (some (vI no)) from ?_)
        exact ⟨rfl, _, rfl, by omega⟩
      · refine And.intro (fun c3 => ?_) (fun c3 => ?_)
        · refine hK 37 _ [] T ?_
          refine j_blx (F := fX11) tb_X11 (nn_ _) bk_X11_nothingAgainst_37 bs_X11_nothingAgainst_37 hz (fun K hK => ?_)
          refine (show po_X11_nothingAgainst T m T (some (vI no)) from ?_)
          exact ⟨rfl, _, rfl, by omega⟩
        · refine hK 19 _ [vI k, vI m, vR 111 0] T ?_
          refine j_callV (y := yX11_standAgainst) (Yc := zX11_standAgainst) (rest := []) [vI m, vI k] (ct_X11_standAgainst (T := T) (by omega) (by omega)) cl_X11_353 (qd_c (by decide +kernel)) (nn_ _) rfl (rf_of rfl) (Nat.le_of_ble_eq_true rfl) (Nat.le_of_ble_eq_true rfl) (Nat.le_of_ble_eq_true rfl) rfl ?_
          rintro _ _ ⟨rfl, x4, rfl, hx4⟩
          show J_ zX11_nothingAgainst T (po_X11_nothingAgainst T m) 0 0 22 _ [vI x4] T
          refine j_blx (F := fX11) tb_X11 (nn_ _) bk_X11_nothingAgainst_22 bs_X11_nothingAgainst_22 hz (fun K hK => ?_)
          refine And.intro (fun c5 => ?_) (fun c5 => ?_)
          · refine hK 29 _ [] T ?_
            refine j_blx (F := fX11) tb_X11 (nn_ _) bk_X11_nothingAgainst_29 bs_X11_nothingAgainst_29 hz (fun K hK => ?_)
            refine rg_i (by omega) ?_
            refine hK 4 [some (vR 111 0), some (vI m), some (vI 0), some (vI (k + 1))] [] T ?_
            refine ih_4 _ ?_ 0 (k + 1) (Nat.le_refl _) ?_
            · omega
            · omega
          · refine hK 30 [some (vR 111 0), some (vI m), some (vI no), some (vI k)] [vI 1] T ?_
            refine j_blx (F := fX11) tb_X11 (nn_ _) bk_X11_nothingAgainst_30 bs_X11_nothingAgainst_30 hz (fun K hK => ?_)
            refine rg_i (by omega) ?_
            refine hK 4 [some (vR 111 0), some (vI m), some (vI 1), some (vI (k + 1))] [] T ?_
            refine ih_4 _ ?_ 1 (k + 1) (Nat.le_refl _) ?_
            · omega
            · omega
  refine j_blx (F := fX11) tb_X11 (nn_ _) bk_X11_nothingAgainst_0 bs_X11_nothingAgainst_0 hz (fun K hK => ?_)
  refine hK 4 [some (vR 111 0), some (vI m), some (vI 1), some (vI 0)] [] T ?_
  refine c_4 _ 1 0 (Nat.le_refl _) ?_
  · omega
abbrev cX11_postpone : ByteArray := prog_13_method_36_code
def yX11_postpone : MethodName := ⟨RX11, "postpone", "(II)I"⟩
def zX11_postpone : Zm := (RX11, cX11_postpone, 9, (some .int), { frames := 3, cells := 0, slots := 0, locals := 69 })
theorem bk_X11_postpone_259 : ck_ fX11 (some .int) cX11_postpone 259 [.iload 5, .aload 0, .tableswitch 0 11 73 #[], .if_icmp .ge 293, .aload 0, .tableswitch 0 11 34 #[], .aload 0, .tableswitch 0 11 71 #[], .iload 5, .iaload, .aload 0, .tableswitch 0 11 72 #[], .iload 5, .iaload, .iastore, .iinc 5 1, .goto 259] 293 = true := qck_r (nn_ _) (by decide +kernel)
theorem bs_X11_postpone_259 {P : Zt → Option Zv → Prop} (K : Int → Zl → List Zv → Zt → Prop) : sx_ K P [.iload 5, .aload 0, .tableswitch 0 11 73 #[], .if_icmp .ge 293, .aload 0, .tableswitch 0 11 34 #[], .aload 0, .tableswitch 0 11 71 #[], .iload 5, .iaload, .aload 0, .tableswitch 0 11 72 #[], .iload 5, .iaload, .iastore, .iinc 5 1, .goto 259] 293 = x_iload 5 (x_aload 0 (x_g0 111 73 0 400 (x_if_icmp .ge 293 K (x_aload 0 (x_g1 111 234 (x_aload 0 (x_g1 111 271 (x_iload 5 (x_iaload (x_aload 0 (x_g1 111 272 (x_iload 5 (x_iaload (x_iastore (x_iinc 5 1 (x_goto 259 K)))))))))))))))) := ((xe_iload 5).trans (congrArg (x_iload 5) ((xe_aload 0).trans (congrArg (x_aload 0) ((xe_g0 (kk := 111) rfl tl_11_73).trans (congrArg (x_g0 111 73 0 400) ((xe_if_icmp .ge 293).trans (congrArg (x_if_icmp .ge 293 K) ((xe_aload 0).trans (congrArg (x_aload 0) ((xe_g1 (kk := 111) rfl tl_11_34).trans (congrArg (x_g1 111 234) ((xe_aload 0).trans (congrArg (x_aload 0) ((xe_g1 (kk := 111) rfl tl_11_71).trans (congrArg (x_g1 111 271) ((xe_iload 5).trans (congrArg (x_iload 5) ((xe_iaload).trans (congrArg (x_iaload) ((xe_aload 0).trans (congrArg (x_aload 0) ((xe_g1 (kk := 111) rfl tl_11_72).trans (congrArg (x_g1 111 272) ((xe_iload 5).trans (congrArg (x_iload 5) ((xe_iaload).trans (congrArg (x_iaload) ((xe_iastore).trans (congrArg (x_iastore) ((xe_iinc 5 1).trans (congrArg (x_iinc 5 1) (xe_goto 259)))))))))))))))))))))))))))))))))
theorem bk_X11_postpone_293 : ck_ fX11 (some .int) cX11_postpone 293 [.iconst (-4), .ireturn] 296 = true := qck_r (nn_ _) (by decide +kernel)
theorem bs_X11_postpone_293 {P : Zt → Option Zv → Prop} (K : Int → Zl → List Zv → Zt → Prop) : sx_ K P [.iconst (-4), .ireturn] 296 = x_iconst (-4) (x_ireturn P) := ((xe_iconst (-4)).trans (congrArg (x_iconst (-4)) (xe_ireturn)))
theorem bk_X11_postpone_307 : ck_ fX11 (some .int) cX11_postpone 307 [.iload 5, .aload 0, .tableswitch 0 11 73 #[], .if_icmp .ge 336, .aload 0, .tableswitch 0 11 74 #[], .iload 5, .aload 0, .tableswitch 0 11 71 #[], .iload 5, .iaload, .iastore, .iinc 5 1, .goto 307] 336 = true := qck_r (nn_ _) (by decide +kernel)
theorem bs_X11_postpone_307 {P : Zt → Option Zv → Prop} (K : Int → Zl → List Zv → Zt → Prop) : sx_ K P [.iload 5, .aload 0, .tableswitch 0 11 73 #[], .if_icmp .ge 336, .aload 0, .tableswitch 0 11 74 #[], .iload 5, .aload 0, .tableswitch 0 11 71 #[], .iload 5, .iaload, .iastore, .iinc 5 1, .goto 307] 336 = x_iload 5 (x_aload 0 (x_g0 111 73 0 400 (x_if_icmp .ge 336 K (x_aload 0 (x_g1 111 274 (x_iload 5 (x_aload 0 (x_g1 111 271 (x_iload 5 (x_iaload (x_iastore (x_iinc 5 1 (x_goto 307 K))))))))))))) := ((xe_iload 5).trans (congrArg (x_iload 5) ((xe_aload 0).trans (congrArg (x_aload 0) ((xe_g0 (kk := 111) rfl tl_11_73).trans (congrArg (x_g0 111 73 0 400) ((xe_if_icmp .ge 336).trans (congrArg (x_if_icmp .ge 336 K) ((xe_aload 0).trans (congrArg (x_aload 0) ((xe_g1 (kk := 111) rfl tl_11_74).trans (congrArg (x_g1 111 274) ((xe_iload 5).trans (congrArg (x_iload 5) ((xe_aload 0).trans (congrArg (x_aload 0) ((xe_g1 (kk := 111) rfl tl_11_71).trans (congrArg (x_g1 111 271) ((xe_iload 5).trans (congrArg (x_iload 5) ((xe_iaload).trans (congrArg (x_iaload) ((xe_iastore).trans (congrArg (x_iastore) ((xe_iinc 5 1).trans (congrArg (x_iinc 5 1) (xe_goto 307)))))))))))))))))))))))))))
theorem bk_X11_postpone_336 : ck_ fX11 (some .int) cX11_postpone 336 [.aload 0, .tableswitch 0 11 75 #[], .ireturn] 341 = true := qck_r (nn_ _) (by decide +kernel)
theorem bs_X11_postpone_336 {P : Zt → Option Zv → Prop} (K : Int → Zl → List Zv → Zt → Prop) : sx_ K P [.aload 0, .tableswitch 0 11 75 #[], .ireturn] 341 = x_aload 0 (x_g0 111 75 0 400 (x_ireturn P)) := ((xe_aload 0).trans (congrArg (x_aload 0) ((xe_g0 (kk := 111) rfl tl_11_75).trans (congrArg (x_g0 111 75 0 400) (xe_ireturn)))))
theorem bk_X11_postpone_244 : ck_ fX11 (some .int) cX11_postpone 244 [.iload 4, .ifCond .ne 296, .aload 0, .tableswitch 0 11 34 #[], .iload 1, .iload 3, .iastore, .iconst 0, .istore 5] 259 = true := qck_r (nn_ _) (by decide +kernel)
theorem bs_X11_postpone_244 {P : Zt → Option Zv → Prop} (K : Int → Zl → List Zv → Zt → Prop) : sx_ K P [.iload 4, .ifCond .ne 296, .aload 0, .tableswitch 0 11 34 #[], .iload 1, .iload 3, .iastore, .iconst 0, .istore 5] 259 = x_iload 4 (x_ifCond .ne 296 K (x_aload 0 (x_g1 111 234 (x_iload 1 (x_iload 3 (x_iastore (x_iconst 0 (x_istore 5 (K 259))))))))) := ((xe_iload 4).trans (congrArg (x_iload 4) ((xe_ifCond .ne 296).trans (congrArg (x_ifCond .ne 296 K) ((xe_aload 0).trans (congrArg (x_aload 0) ((xe_g1 (kk := 111) rfl tl_11_34).trans (congrArg (x_g1 111 234) ((xe_iload 1).trans (congrArg (x_iload 1) ((xe_iload 3).trans (congrArg (x_iload 3) ((xe_iastore).trans (congrArg (x_iastore) ((xe_iconst 0).trans (congrArg (x_iconst 0) ((xe_istore 5).trans (congrArg (x_istore 5) xe_nil))))))))))))))))))
theorem bk_X11_postpone_296 : ck_ fX11 (some .int) cX11_postpone 296 [.aload 0, .aload 0, .tableswitch 0 11 73 #[], .tableswitch 1 11 75 #[], .iconst 0, .istore 5] 307 = true := qck_r (nn_ _) (by decide +kernel)
theorem bs_X11_postpone_296 {P : Zt → Option Zv → Prop} (K : Int → Zl → List Zv → Zt → Prop) : sx_ K P [.aload 0, .aload 0, .tableswitch 0 11 73 #[], .tableswitch 1 11 75 #[], .iconst 0, .istore 5] 307 = x_aload 0 (x_aload 0 (x_g0 111 73 0 400 (x_p 111 75 0 400 (x_iconst 0 (x_istore 5 (K 307)))))) := ((xe_aload 0).trans (congrArg (x_aload 0) ((xe_aload 0).trans (congrArg (x_aload 0) ((xe_g0 (kk := 111) rfl tl_11_73).trans (congrArg (x_g0 111 73 0 400) ((xe_p (kk := 111) rfl tl_11_75).trans (congrArg (x_p 111 75 0 400) ((xe_iconst 0).trans (congrArg (x_iconst 0) ((xe_istore 5).trans (congrArg (x_istore 5) xe_nil))))))))))))
theorem bk_X11_postpone_198 : ck_ fX11 (some .int) cX11_postpone 198 [.iload 7, .iconst 999, .if_icmp .gt 234, .iload 8, .ifCond .ne 234, .aload 0, .tableswitch 0 11 34 #[], .iload 6, .iload 7, .iastore, .aload 0, .iload 6] 223 = true := qck_r (nn_ _) (by decide +kernel)
theorem bs_X11_postpone_198 {P : Zt → Option Zv → Prop} (K : Int → Zl → List Zv → Zt → Prop) : sx_ K P [.iload 7, .iconst 999, .if_icmp .gt 234, .iload 8, .ifCond .ne 234, .aload 0, .tableswitch 0 11 34 #[], .iload 6, .iload 7, .iastore, .aload 0, .iload 6] 223 = x_iload 7 (x_iconst 999 (x_if_icmp .gt 234 K (x_iload 8 (x_ifCond .ne 234 K (x_aload 0 (x_g1 111 234 (x_iload 6 (x_iload 7 (x_iastore (x_aload 0 (x_iload 6 (K 223)))))))))))) := ((xe_iload 7).trans (congrArg (x_iload 7) ((xe_iconst 999).trans (congrArg (x_iconst 999) ((xe_if_icmp .gt 234).trans (congrArg (x_if_icmp .gt 234 K) ((xe_iload 8).trans (congrArg (x_iload 8) ((xe_ifCond .ne 234).trans (congrArg (x_ifCond .ne 234 K) ((xe_aload 0).trans (congrArg (x_aload 0) ((xe_g1 (kk := 111) rfl tl_11_34).trans (congrArg (x_g1 111 234) ((xe_iload 6).trans (congrArg (x_iload 6) ((xe_iload 7).trans (congrArg (x_iload 7) ((xe_iastore).trans (congrArg (x_iastore) ((xe_aload 0).trans (congrArg (x_aload 0) ((xe_iload 6).trans (congrArg (x_iload 6) xe_nil))))))))))))))))))))))))
theorem bk_X11_postpone_234 : ck_ fX11 (some .int) cX11_postpone 234 [.iload 8, .istore 4, .iinc 5 1, .goto 167] 244 = true := qck_r (nn_ _) (by decide +kernel)
theorem bs_X11_postpone_234 {P : Zt → Option Zv → Prop} (K : Int → Zl → List Zv → Zt → Prop) : sx_ K P [.iload 8, .istore 4, .iinc 5 1, .goto 167] 244 = x_iload 8 (x_istore 4 (x_iinc 5 1 (x_goto 167 K))) := ((xe_iload 8).trans (congrArg (x_iload 8) ((xe_istore 4).trans (congrArg (x_istore 4) ((xe_iinc 5 1).trans (congrArg (x_iinc 5 1) (xe_goto 167)))))))
set_option maxRecDepth 100000 in
theorem cl_X11_359 : cv_ RX11 359 yX11_nothingAgainst zX11_nothingAgainst 11 1 := ⟨gi_V (lw_b8 215 (by decide +kernel) rfl : Cond.methodLink RX11 359 yX11_nothingAgainst ∈ lw_g) (lw_b8 217 (by decide +kernel) rfl : Cond.instanceMethod yX11_nothingAgainst ∈ lw_g) (lw_sel 40 rfl : Cond.selects yX11_nothingAgainst.cls yX11_nothingAgainst yX11_nothingAgainst ∈ lw_g) (lw_b1 10 (by decide +kernel) rfl : Cond.initialized yX11_nothingAgainst.cls ∈ lw_g) (lw_b8 218 rfl rfl : Cond.code yX11_nothingAgainst cX11_nothingAgainst 4 (some .boolean) ∈ lw_g), ⟨by decide, by decide, by decide +kernel⟩, ⟨_, _, rfl⟩⟩
theorem bk_X11_postpone_226 : ck_ fX11 (some .int) cX11_postpone 226 [.istore 8, .iinc 7 1, .goto 198] 234 = true := qck_r (nn_ _) (by decide +kernel)
theorem bs_X11_postpone_226 {P : Zt → Option Zv → Prop} (K : Int → Zl → List Zv → Zt → Prop) : sx_ K P [.istore 8, .iinc 7 1, .goto 198] 234 = x_istore 8 (x_iinc 7 1 (x_goto 198 K)) := ((xe_istore 8).trans (congrArg (x_istore 8) ((xe_iinc 7 1).trans (congrArg (x_iinc 7 1) (xe_goto 198)))))
theorem bk_X11_postpone_167 : ck_ fX11 (some .int) cX11_postpone 167 [.iload 5, .aload 0, .tableswitch 0 11 73 #[], .if_icmp .ge 244, .iload 4, .ifCond .eq 244, .aload 0, .tableswitch 0 11 71 #[], .iload 5, .iaload, .istore 6, .iload 2, .iconst 1, .iadd, .istore 7, .iconst 0, .istore 8] 198 = true := qck_r (nn_ _) (by decide +kernel)
theorem bs_X11_postpone_167 {P : Zt → Option Zv → Prop} (K : Int → Zl → List Zv → Zt → Prop) : sx_ K P [.iload 5, .aload 0, .tableswitch 0 11 73 #[], .if_icmp .ge 244, .iload 4, .ifCond .eq 244, .aload 0, .tableswitch 0 11 71 #[], .iload 5, .iaload, .istore 6, .iload 2, .iconst 1, .iadd, .istore 7, .iconst 0, .istore 8] 198 = x_iload 5 (x_aload 0 (x_g0 111 73 0 400 (x_if_icmp .ge 244 K (x_iload 4 (x_ifCond .eq 244 K (x_aload 0 (x_g1 111 271 (x_iload 5 (x_iaload (x_istore 6 (x_iload 2 (x_iconst 1 (x_iadd (x_istore 7 (x_iconst 0 (x_istore 8 (K 198))))))))))))))))) := ((xe_iload 5).trans (congrArg (x_iload 5) ((xe_aload 0).trans (congrArg (x_aload 0) ((xe_g0 (kk := 111) rfl tl_11_73).trans (congrArg (x_g0 111 73 0 400) ((xe_if_icmp .ge 244).trans (congrArg (x_if_icmp .ge 244 K) ((xe_iload 4).trans (congrArg (x_iload 4) ((xe_ifCond .eq 244).trans (congrArg (x_ifCond .eq 244 K) ((xe_aload 0).trans (congrArg (x_aload 0) ((xe_g1 (kk := 111) rfl tl_11_71).trans (congrArg (x_g1 111 271) ((xe_iload 5).trans (congrArg (x_iload 5) ((xe_iaload).trans (congrArg (x_iaload) ((xe_istore 6).trans (congrArg (x_istore 6) ((xe_iload 2).trans (congrArg (x_iload 2) ((xe_iconst 1).trans (congrArg (x_iconst 1) ((xe_iadd).trans (congrArg (x_iadd) ((xe_istore 7).trans (congrArg (x_istore 7) ((xe_iconst 0).trans (congrArg (x_iconst 0) ((xe_istore 8).trans (congrArg (x_istore 8) xe_nil))))))))))))))))))))))))))))))))))
theorem bk_X11_postpone_80 : ck_ fX11 (some .int) cX11_postpone 80 [.iload 5, .aload 0, .tableswitch 0 11 29 #[], .if_icmp .ge 164, .aload 0, .iload 1, .iload 5] 93 = true := qck_r (nn_ _) (by decide +kernel)
theorem bs_X11_postpone_80 {P : Zt → Option Zv → Prop} (K : Int → Zl → List Zv → Zt → Prop) : sx_ K P [.iload 5, .aload 0, .tableswitch 0 11 29 #[], .if_icmp .ge 164, .aload 0, .iload 1, .iload 5] 93 = x_iload 5 (x_aload 0 (x_g0 111 29 0 400 (x_if_icmp .ge 164 K (x_aload 0 (x_iload 1 (x_iload 5 (K 93))))))) := ((xe_iload 5).trans (congrArg (x_iload 5) ((xe_aload 0).trans (congrArg (x_aload 0) ((xe_g0 (kk := 111) rfl tl_11_29).trans (congrArg (x_g0 111 29 0 400) ((xe_if_icmp .ge 164).trans (congrArg (x_if_icmp .ge 164 K) ((xe_aload 0).trans (congrArg (x_aload 0) ((xe_iload 1).trans (congrArg (x_iload 1) ((xe_iload 5).trans (congrArg (x_iload 5) xe_nil))))))))))))))
theorem bk_X11_postpone_164 : ck_ fX11 (some .int) cX11_postpone 164 [.iconst 0, .istore 5] 167 = true := qck_r (nn_ _) (by decide +kernel)
theorem bs_X11_postpone_164 {P : Zt → Option Zv → Prop} (K : Int → Zl → List Zv → Zt → Prop) : sx_ K P [.iconst 0, .istore 5] 167 = x_iconst 0 (x_istore 5 (K 167)) := ((xe_iconst 0).trans (congrArg (x_iconst 0) ((xe_istore 5).trans (congrArg (x_istore 5) xe_nil))))
theorem bk_X11_postpone_96 : ck_ fX11 (some .int) cX11_postpone 96 [.ifCond .eq 158, .aload 0, .tableswitch 0 11 71 #[], .aload 0, .tableswitch 0 11 73 #[], .iload 5, .iastore, .aload 0, .tableswitch 0 11 72 #[], .aload 0, .tableswitch 0 11 73 #[], .aload 0, .tableswitch 0 11 34 #[], .iload 5, .iaload, .iastore, .aload 0, .dup, .tableswitch 0 11 73 #[], .iconst 1, .iadd, .tableswitch 1 11 73 #[], .iload 4, .ifCond .eq 155, .aload 0, .tableswitch 0 11 35 #[], .iload 5, .iaload, .ifCond .ne 155, .iconst 1, .goto 156] 155 = true := qck_r (nn_ _) (by decide +kernel)
theorem bs_X11_postpone_96 {P : Zt → Option Zv → Prop} (K : Int → Zl → List Zv → Zt → Prop) : sx_ K P [.ifCond .eq 158, .aload 0, .tableswitch 0 11 71 #[], .aload 0, .tableswitch 0 11 73 #[], .iload 5, .iastore, .aload 0, .tableswitch 0 11 72 #[], .aload 0, .tableswitch 0 11 73 #[], .aload 0, .tableswitch 0 11 34 #[], .iload 5, .iaload, .iastore, .aload 0, .dup, .tableswitch 0 11 73 #[], .iconst 1, .iadd, .tableswitch 1 11 73 #[], .iload 4, .ifCond .eq 155, .aload 0, .tableswitch 0 11 35 #[], .iload 5, .iaload, .ifCond .ne 155, .iconst 1, .goto 156] 155 = x_ifCond .eq 158 K (x_aload 0 (x_g1 111 271 (x_aload 0 (x_g0 111 73 0 400 (x_iload 5 (x_iastore (x_aload 0 (x_g1 111 272 (x_aload 0 (x_g0 111 73 0 400 (x_aload 0 (x_g1 111 234 (x_iload 5 (x_iaload (x_iastore (x_aload 0 (x_dup (x_g0 111 73 0 400 (x_iconst 1 (x_iadd (x_p 111 73 0 400 (x_iload 4 (x_ifCond .eq 155 K (x_aload 0 (x_g1 111 235 (x_iload 5 (x_iaload (x_ifCond .ne 155 K (x_iconst 1 (x_goto 156 K)))))))))))))))))))))))))))))) := ((xe_ifCond .eq 158).trans (congrArg (x_ifCond .eq 158 K) ((xe_aload 0).trans (congrArg (x_aload 0) ((xe_g1 (kk := 111) rfl tl_11_71).trans (congrArg (x_g1 111 271) ((xe_aload 0).trans (congrArg (x_aload 0) ((xe_g0 (kk := 111) rfl tl_11_73).trans (congrArg (x_g0 111 73 0 400) ((xe_iload 5).trans (congrArg (x_iload 5) ((xe_iastore).trans (congrArg (x_iastore) ((xe_aload 0).trans (congrArg (x_aload 0) ((xe_g1 (kk := 111) rfl tl_11_72).trans (congrArg (x_g1 111 272) ((xe_aload 0).trans (congrArg (x_aload 0) ((xe_g0 (kk := 111) rfl tl_11_73).trans (congrArg (x_g0 111 73 0 400) ((xe_aload 0).trans (congrArg (x_aload 0) ((xe_g1 (kk := 111) rfl tl_11_34).trans (congrArg (x_g1 111 234) ((xe_iload 5).trans (congrArg (x_iload 5) ((xe_iaload).trans (congrArg (x_iaload) ((xe_iastore).trans (congrArg (x_iastore) ((xe_aload 0).trans (congrArg (x_aload 0) ((xe_dup).trans (congrArg (x_dup) ((xe_g0 (kk := 111) rfl tl_11_73).trans (congrArg (x_g0 111 73 0 400) ((xe_iconst 1).trans (congrArg (x_iconst 1) ((xe_iadd).trans (congrArg (x_iadd) ((xe_p (kk := 111) rfl tl_11_73).trans (congrArg (x_p 111 73 0 400) ((xe_iload 4).trans (congrArg (x_iload 4) ((xe_ifCond .eq 155).trans (congrArg (x_ifCond .eq 155 K) ((xe_aload 0).trans (congrArg (x_aload 0) ((xe_g1 (kk := 111) rfl tl_11_35).trans (congrArg (x_g1 111 235) ((xe_iload 5).trans (congrArg (x_iload 5) ((xe_iaload).trans (congrArg (x_iaload) ((xe_ifCond .ne 155).trans (congrArg (x_ifCond .ne 155 K) ((xe_iconst 1).trans (congrArg (x_iconst 1) (xe_goto 156)))))))))))))))))))))))))))))))))))))))))))))))))))))))))))))
theorem bk_X11_postpone_158 : ck_ fX11 (some .int) cX11_postpone 158 [.iinc 5 1, .goto 80] 164 = true := qck_r (nn_ _) (by decide +kernel)
theorem bs_X11_postpone_158 {P : Zt → Option Zv → Prop} (K : Int → Zl → List Zv → Zt → Prop) : sx_ K P [.iinc 5 1, .goto 80] 164 = x_iinc 5 1 (x_goto 80 K) := ((xe_iinc 5 1).trans (congrArg (x_iinc 5 1) (xe_goto 80)))
theorem bk_X11_postpone_155 : ck_ fX11 (some .int) cX11_postpone 155 [.iconst 0, .istore 4, .iinc 5 1, .goto 80] 164 = true := qck_r (nn_ _) (by decide +kernel)
theorem bs_X11_postpone_155 {P : Zt → Option Zv → Prop} (K : Int → Zl → List Zv → Zt → Prop) : sx_ K P [.iconst 0, .istore 4, .iinc 5 1, .goto 80] 164 = x_iconst 0 (x_istore 4 (x_iinc 5 1 (x_goto 80 K))) := ((xe_iconst 0).trans (congrArg (x_iconst 0) ((xe_istore 4).trans (congrArg (x_istore 4) ((xe_iinc 5 1).trans (congrArg (x_iinc 5 1) (xe_goto 80)))))))
theorem bk_X11_postpone_156 : ck_ fX11 (some .int) cX11_postpone 156 [.istore 4, .iinc 5 1, .goto 80] 164 = true := qck_r (nn_ _) (by decide +kernel)
theorem bs_X11_postpone_156 {P : Zt → Option Zv → Prop} (K : Int → Zl → List Zv → Zt → Prop) : sx_ K P [.istore 4, .iinc 5 1, .goto 80] 164 = x_istore 4 (x_iinc 5 1 (x_goto 80 K)) := ((xe_istore 4).trans (congrArg (x_istore 4) ((xe_iinc 5 1).trans (congrArg (x_iinc 5 1) (xe_goto 80)))))
theorem bk_X11_postpone_0 : ck_ fX11 (some .int) cX11_postpone 0 [.iload 1, .aload 0, .tableswitch 0 11 29 #[]] 5 = true := qck_r (nn_ _) (by decide +kernel)
theorem bs_X11_postpone_0 {P : Zt → Option Zv → Prop} (K : Int → Zl → List Zv → Zt → Prop) : sx_ K P [.iload 1, .aload 0, .tableswitch 0 11 29 #[]] 5 = x_iload 1 (x_aload 0 (x_g0 111 29 0 400 (K 5))) := ((xe_iload 1).trans (congrArg (x_iload 1) ((xe_aload 0).trans (congrArg (x_aload 0) ((xe_g0 (kk := 111) rfl tl_11_29).trans (congrArg (x_g0 111 29 0 400) xe_nil))))))
theorem bk_X11_postpone_8 : ck_ fX11 (some .int) cX11_postpone 8 [.ifCond .ne 14, .iconst (-2), .ireturn] 14 = true := qck_r (nn_ _) (by decide +kernel)
theorem bs_X11_postpone_8 {P : Zt → Option Zv → Prop} (K : Int → Zl → List Zv → Zt → Prop) : sx_ K P [.ifCond .ne 14, .iconst (-2), .ireturn] 14 = x_ifCond .ne 14 K (x_iconst (-2) (x_ireturn P)) := ((xe_ifCond .ne 14).trans (congrArg (x_ifCond .ne 14 K) ((xe_iconst (-2)).trans (congrArg (x_iconst (-2)) (xe_ireturn)))))
theorem bk_X11_postpone_14 : ck_ fX11 (some .int) cX11_postpone 14 [.iload 2, .aload 0, .tableswitch 0 11 3 #[], .iconst 1, .iadd, .iconst 999] 24 = true := qck_r (nn_ _) (by decide +kernel)
theorem bs_X11_postpone_14 {P : Zt → Option Zv → Prop} (K : Int → Zl → List Zv → Zt → Prop) : sx_ K P [.iload 2, .aload 0, .tableswitch 0 11 3 #[], .iconst 1, .iadd, .iconst 999] 24 = x_iload 2 (x_aload 0 (x_g0 111 3 0 999 (x_iconst 1 (x_iadd (x_iconst 999 (K 24)))))) := ((xe_iload 2).trans (congrArg (x_iload 2) ((xe_aload 0).trans (congrArg (x_aload 0) ((xe_g0 (kk := 111) rfl tl_11_3).trans (congrArg (x_g0 111 3 0 999) ((xe_iconst 1).trans (congrArg (x_iconst 1) ((xe_iadd).trans (congrArg (x_iadd) ((xe_iconst 999).trans (congrArg (x_iconst 999) xe_nil))))))))))))
theorem bk_X11_postpone_27 : ck_ fX11 (some .int) cX11_postpone 27 [.ifCond .ne 33, .iconst (-3), .ireturn] 33 = true := qck_r (nn_ _) (by decide +kernel)
theorem bs_X11_postpone_27 {P : Zt → Option Zv → Prop} (K : Int → Zl → List Zv → Zt → Prop) : sx_ K P [.ifCond .ne 33, .iconst (-3), .ireturn] 33 = x_ifCond .ne 33 K (x_iconst (-3) (x_ireturn P)) := ((xe_ifCond .ne 33).trans (congrArg (x_ifCond .ne 33 K) ((xe_iconst (-3)).trans (congrArg (x_iconst (-3)) (xe_ireturn)))))
theorem bk_X11_postpone_33 : ck_ fX11 (some .int) cX11_postpone 33 [.aload 0, .tableswitch 0 11 35 #[], .iload 1, .iaload, .ifCond .ne 52, .aload 0, .tableswitch 0 11 34 #[], .iload 1, .iaload, .iload 2, .if_icmp .ne 55, .iconst (-4), .ireturn] 55 = true := qck_r (nn_ _) (by decide +kernel)
theorem bs_X11_postpone_33 {P : Zt → Option Zv → Prop} (K : Int → Zl → List Zv → Zt → Prop) : sx_ K P [.aload 0, .tableswitch 0 11 35 #[], .iload 1, .iaload, .ifCond .ne 52, .aload 0, .tableswitch 0 11 34 #[], .iload 1, .iaload, .iload 2, .if_icmp .ne 55, .iconst (-4), .ireturn] 55 = x_aload 0 (x_g1 111 235 (x_iload 1 (x_iaload (x_ifCond .ne 52 K (x_aload 0 (x_g1 111 234 (x_iload 1 (x_iaload (x_iload 2 (x_if_icmp .ne 55 K (x_iconst (-4) (x_ireturn P)))))))))))) := ((xe_aload 0).trans (congrArg (x_aload 0) ((xe_g1 (kk := 111) rfl tl_11_35).trans (congrArg (x_g1 111 235) ((xe_iload 1).trans (congrArg (x_iload 1) ((xe_iaload).trans (congrArg (x_iaload) ((xe_ifCond .ne 52).trans (congrArg (x_ifCond .ne 52 K) ((xe_aload 0).trans (congrArg (x_aload 0) ((xe_g1 (kk := 111) rfl tl_11_34).trans (congrArg (x_g1 111 234) ((xe_iload 1).trans (congrArg (x_iload 1) ((xe_iaload).trans (congrArg (x_iaload) ((xe_iload 2).trans (congrArg (x_iload 2) ((xe_if_icmp .ne 55).trans (congrArg (x_if_icmp .ne 55 K) ((xe_iconst (-4)).trans (congrArg (x_iconst (-4)) (xe_ireturn)))))))))))))))))))))))))
theorem bk_X11_postpone_52 : ck_ fX11 (some .int) cX11_postpone 52 [.iconst (-4), .ireturn] 55 = true := qck_r (nn_ _) (by decide +kernel)
theorem bs_X11_postpone_52 {P : Zt → Option Zv → Prop} (K : Int → Zl → List Zv → Zt → Prop) : sx_ K P [.iconst (-4), .ireturn] 55 = x_iconst (-4) (x_ireturn P) := ((xe_iconst (-4)).trans (congrArg (x_iconst (-4)) (xe_ireturn)))
theorem bk_X11_postpone_55 : ck_ fX11 (some .int) cX11_postpone 55 [.aload 0, .tableswitch 0 11 34 #[], .iload 1, .iaload, .istore 3, .aload 0, .tableswitch 0 11 34 #[], .iload 1, .iload 2, .iastore, .aload 0, .iconst 0, .tableswitch 1 11 73 #[], .iconst 1, .istore 4, .iconst 0, .istore 5] 80 = true := qck_r (nn_ _) (by decide +kernel)
theorem bs_X11_postpone_55 {P : Zt → Option Zv → Prop} (K : Int → Zl → List Zv → Zt → Prop) : sx_ K P [.aload 0, .tableswitch 0 11 34 #[], .iload 1, .iaload, .istore 3, .aload 0, .tableswitch 0 11 34 #[], .iload 1, .iload 2, .iastore, .aload 0, .iconst 0, .tableswitch 1 11 73 #[], .iconst 1, .istore 4, .iconst 0, .istore 5] 80 = x_aload 0 (x_g1 111 234 (x_iload 1 (x_iaload (x_istore 3 (x_aload 0 (x_g1 111 234 (x_iload 1 (x_iload 2 (x_iastore (x_aload 0 (x_iconst 0 (x_p 111 73 0 400 (x_iconst 1 (x_istore 4 (x_iconst 0 (x_istore 5 (K 80))))))))))))))))) := ((xe_aload 0).trans (congrArg (x_aload 0) ((xe_g1 (kk := 111) rfl tl_11_34).trans (congrArg (x_g1 111 234) ((xe_iload 1).trans (congrArg (x_iload 1) ((xe_iaload).trans (congrArg (x_iaload) ((xe_istore 3).trans (congrArg (x_istore 3) ((xe_aload 0).trans (congrArg (x_aload 0) ((xe_g1 (kk := 111) rfl tl_11_34).trans (congrArg (x_g1 111 234) ((xe_iload 1).trans (congrArg (x_iload 1) ((xe_iload 2).trans (congrArg (x_iload 2) ((xe_iastore).trans (congrArg (x_iastore) ((xe_aload 0).trans (congrArg (x_aload 0) ((xe_iconst 0).trans (congrArg (x_iconst 0) ((xe_p (kk := 111) rfl tl_11_73).trans (congrArg (x_p 111 73 0 400) ((xe_iconst 1).trans (congrArg (x_iconst 1) ((xe_istore 4).trans (congrArg (x_istore 4) ((xe_iconst 0).trans (congrArg (x_iconst 0) ((xe_istore 5).trans (congrArg (x_istore 5) xe_nil))))))))))))))))))))))))))))))))))
abbrev po_X11_postpone (T : Zt) (m d : Int) : Zt → Option Zv → Prop := fun T' r => ∃ x : Int, r = some (vI x) ∧ fr_ [(234, []), (271, []), (272, []), (111, [73, 75]), (274, [])] T T' ∧ (x = x)
set_option maxHeartbeats 4000000 in
theorem ct_X11_postpone {T : Zt} {m d : Int} : Ct_ yX11_postpone zX11_postpone T [vR 111 0, vI m, vI d] (po_X11_postpone T m d) := by
  refine ct_of pn_11 rfl rfl (Nat.le_of_ble_eq_true rfl) (fun hT hav => ?_)
  have hr_m : -2147483648 ≤ m ∧ m ≤ 2147483647 := hav (vI m) (by simp)
  have hr_d : -2147483648 ≤ d ∧ d ≤ 2147483647 := hav (vI d) (by simp)
  have hz : zX11_postpone.2.2.2.1 = some .boolean → ∀ (T' : Zt) (x : Int), po_X11_postpone T m d T' (some (vI x)) → 0 ≤ x ∧ x ≤ 1 := fun h => by cases h
  have hb_29 : 0 ≤ T 111 0 29 ∧ T 111 0 29 ≤ 400 := bd_f hT 111 29 (by decide +kernel : (tf_ 111)[29]? = some (0, 0, 0, 400)) 0
  show J_ zX11_postpone T (po_X11_postpone T m d) 0 0 0 [some (vR 111 0), some (vI m), some (vI d), none, none, none, none, none, none] [] T
  have c_80 : ∀ (nn : Nat) (wa : Int) (go : Int) (k : Int) (T1 : Zt), ((400 - k).toNat) ≤ nn → (fr_ [(234, []), (271, []), (272, []), (111, [73])] T T1) → (0 ≤ m ∧ m < T 111 0 29 ∧ 0 ≤ d ∧ d ≤ 999) → (0 ≤ k ∧ 0 ≤ T1 111 0 73 ∧ T1 111 0 73 ≤ k ∧ 0 ≤ go ∧ go ≤ 1 ∧ 0 ≤ wa ∧ wa ≤ 999) → J_ zX11_postpone T (po_X11_postpone T m d) 0 0 80 [some (vR 111 0), some (vI m), some (vI d), some (vI wa), some (vI go), some (vI k), none, none, none] [] T1 := by
    intro nn
    induction nn using Nat.strongRecOn with
    | _ nn ih_80 =>
      intro wa go k T1 hm_80 hf_80 p1 i1
      have c_244 : ∀ (go : Int) (T4 : Zt), (fr_ [(234, []), (271, []), (272, []), (111, [73])] T T4) → (0 ≤ go ∧ go ≤ 1) → J_ zX11_postpone T (po_X11_postpone T m d) 0 0 244 [some (vR 111 0), some (vI m), some (vI d), some (vI wa), some (vI go), none, none, none, none] [] T4 := by
        intro go T4 hf_244 i5
        have c_259 : ∀ (nn : Nat) (i : Int) (T5 : Zt), ((400 - i).toNat) ≤ nn → (fr_ [(234, []), (271, []), (272, []), (111, [73])] T T5) → (0 ≤ i) → J_ zX11_postpone T (po_X11_postpone T m d) 0 0 259 [some (vR 111 0), some (vI m), some (vI d), some (vI wa), some (vI go), some (vI i), none, none, none] [] T5 := by
          intro nn
          induction nn using Nat.strongRecOn with
          | _ nn ih_259 =>
            intro i T5 hm_259 hf_259 i6
            refine j_blx (F := fX11) tb_X11 (nn_ _) bk_X11_postpone_259 bs_X11_postpone_259 hz (fun K hK => ?_)
            intro b1 b1b
            refine And.intro (fun c2 => ?_) (fun c2 => ?_)
            · refine hK 293 _ [] T5 ?_
              refine j_blx (F := fX11) tb_X11 (nn_ _) bk_X11_postpone_293 bs_X11_postpone_293 hz (fun K hK => ?_)
              refine (show po_X11_postpone T m d T5 (some (vI (-4))) from ?_)
              exact ⟨_, rfl, fr_t (fr_0 _ _) (fr_s hf_259 rfl), by rfl⟩
            · refine ix_i (by omega) ?_
              intro b3 b3b
              refine ix_i (by omega) ?_
              intro b4 b4b
              refine iy_i (by omega) (by omega) ?_
              refine x_nm (fun U5 hU5 => ?_)
              have e6 := up_f hU5
              refine rg_i (by omega) ?_
              refine hK 259 [some (vR 111 0), some (vI m), some (vI d), some (vI wa), some (vI go), some (vI (i + 1)), none, none, none] [] U5 ?_
              refine ih_259 _ ?_ (i + 1) U5 (Nat.le_refl _) ?_ ?_
              · omega
              · exact fr_u (fr_t (fr_0 _ _) (fr_s hf_259 rfl)) hU5 rfl
              · omega
        have c_307 : ∀ (nn : Nat) (i : Int) (T5 : Zt), ((400 - i).toNat) ≤ nn → (fr_ [(234, []), (271, []), (272, []), (111, [73, 75]), (274, [])] T T5) → (0 ≤ i) → J_ zX11_postpone T (po_X11_postpone T m d) 0 0 307 [some (vR 111 0), some (vI m), some (vI d), some (vI wa), some (vI go), some (vI i), none, none, none] [] T5 := by
          intro nn
          induction nn using Nat.strongRecOn with
          | _ nn ih_307 =>
            intro i T5 hm_307 hf_307 i6
            refine j_blx (F := fX11) tb_X11 (nn_ _) bk_X11_postpone_307 bs_X11_postpone_307 hz (fun K hK => ?_)
            intro b7 b7b
            refine And.intro (fun c8 => ?_) (fun c8 => ?_)
            · refine hK 336 _ [] T5 ?_
              refine j_blx (F := fX11) tb_X11 (nn_ _) bk_X11_postpone_336 bs_X11_postpone_336 hz (fun K hK => ?_)
              intro b9 b9b
              refine (show po_X11_postpone T m d T5 (some (vI (T5 111 0 75))) from ?_)
              exact ⟨_, rfl, fr_t (fr_0 _ _) (fr_s hf_307 rfl), by rfl⟩
            · refine ix_i (by omega) ?_
              intro b10 b10b
              refine iy_i (by omega) (by omega) ?_
              refine x_nm (fun U11 hU11 => ?_)
              have e12 := up_f hU11
              refine rg_i (by omega) ?_
              refine hK 307 [some (vR 111 0), some (vI m), some (vI d), some (vI wa), some (vI go), some (vI (i + 1)), none, none, none] [] U11 ?_
              refine ih_307 _ ?_ (i + 1) U11 (Nat.le_refl _) ?_ ?_
              · omega
              · exact fr_u (fr_t (fr_0 _ _) (fr_s hf_307 rfl)) hU11 rfl
              · omega
        refine j_blx (F := fX11) tb_X11 (nn_ _) bk_X11_postpone_244 bs_X11_postpone_244 hz (fun K hK => ?_)
        refine And.intro (fun c13 => ?_) (fun c13 => ?_)
        · refine hK 296 _ [] T4 ?_
          refine j_blx (F := fX11) tb_X11 (nn_ _) bk_X11_postpone_296 bs_X11_postpone_296 hz (fun K hK => ?_)
          intro b14 b14b
          refine bd_i (by omega) ?_
          refine x_nm (fun U15 hU15 => ?_)
          have e16 := up_f hU15
          refine hK 307 [some (vR 111 0), some (vI m), some (vI d), some (vI wa), some (vI go), some (vI 0), none, none, none] [] U15 ?_
          refine c_307 _ 0 U15 (Nat.le_refl _) ?_ ?_
          · exact fr_u (fr_t (fr_0 _ _) (fr_s hf_244 rfl)) hU15 rfl
          · omega
        · refine iy_i (by omega) (by omega) ?_
          refine x_nm (fun U17 hU17 => ?_)
          have e18 := up_f hU17
          refine hK 259 _ [] U17 ?_
          refine c_259 _ 0 U17 (Nat.le_refl _) ?_ ?_
          · exact fr_u (fr_t (fr_0 _ _) (fr_s hf_244 rfl)) hU17 rfl
          · omega
      have c_167 : ∀ (nn : Nat) (go : Int) (i : Int) (T2 : Zt), ((400 - i).toNat) ≤ nn → (fr_ [(234, []), (271, []), (272, []), (111, [73])] T T2) → (0 ≤ i ∧ 0 ≤ go ∧ go ≤ 1) → J_ zX11_postpone T (po_X11_postpone T m d) 0 0 167 [some (vR 111 0), some (vI m), some (vI d), some (vI wa), some (vI go), some (vI i), none, none, none] [] T2 := by
        intro nn
        induction nn using Nat.strongRecOn with
        | _ nn ih_167 =>
          intro go i T2 hm_167 hf_167 i2
          have c_198 : ∀ (nn : Nat) (g : Int) (to : Int) (fr : Int) (T3 : Zt), ((1000 - to).toNat) ≤ nn → (fr_ [(234, []), (271, []), (272, []), (111, [73])] T T3) → (0 ≤ g ∧ g < 400 ∧ 0 ≤ to ∧ 0 ≤ fr ∧ fr ≤ 1) → (i < 400) → J_ zX11_postpone T (po_X11_postpone T m d) 0 0 198 [some (vR 111 0), some (vI m), some (vI d), some (vI wa), some (vI go), some (vI i), some (vI g), some (vI to), some (vI fr)] [] T3 := by
            intro nn
            induction nn using Nat.strongRecOn with
            | _ nn ih_198 =>
              intro g to fr T3 hm_198 hf_198 i3 i4
              refine j_blx (F := fX11) tb_X11 (nn_ _) bk_X11_postpone_198 bs_X11_postpone_198 hz (fun K hK => ?_)
              refine And.intro (fun c19 => ?_) (fun c19 => ?_)
              · refine hK 234 _ [] T3 ?_
                refine j_blx (F := fX11) tb_X11 (nn_ _) bk_X11_postpone_234 bs_X11_postpone_234 hz (fun K hK => ?_)
                refine rg_i (by omega) ?_
                refine hK 167 [some (vR 111 0), some (vI m), some (vI d), some (vI wa), some (vI fr), some (vI (i + 1)), some (vI g), some (vI to), some (vI fr)] [] T3 ?_
                refine j_drop [some (vR 111 0), some (vI m), some (vI d), some (vI wa), some (vI fr), some (vI (i + 1)), none, none, none] (fun k v hk => ?_) rfl ?_
                · match k, hk with
                  | 0, hk => exact hk
                  | 1, hk => exact hk
                  | 2, hk => exact hk
                  | 3, hk => exact hk
                  | 4, hk => exact hk
                  | 5, hk => exact hk
                  | 6, hk => cases hk
                  | 7, hk => cases hk
                  | 8, hk => cases hk
                  | k + 9, hk => cases hk
                refine ih_167 _ ?_ fr (i + 1) T3 (Nat.le_refl _) ?_ ?_
                · omega
                · exact fr_t (fr_0 _ _) (fr_s hf_198 rfl)
                · omega
              · refine And.intro (fun c20 => ?_) (fun c20 => ?_)
                · refine hK 234 [some (vR 111 0), some (vI m), some (vI d), some (vI wa), some (vI go), some (vI i), some (vI g), some (vI to), some (vI fr)] [] T3 ?_
                  refine j_blx (F := fX11) tb_X11 (nn_ _) bk_X11_postpone_234 bs_X11_postpone_234 hz (fun K hK => ?_)
                  refine rg_i (by omega) ?_
                  refine hK 167 [some (vR 111 0), some (vI m), some (vI d), some (vI wa), some (vI fr), some (vI (i + 1)), some (vI g), some (vI to), some (vI fr)] [] T3 ?_
                  refine j_drop [some (vR 111 0), some (vI m), some (vI d), some (vI wa), some (vI fr), some (vI (i + 1)), none, none, none] (fun k v hk => ?_) rfl ?_
                  · match k, hk with
                    | 0, hk => exact hk
                    | 1, hk => exact hk
                    | 2, hk => exact hk
                    | 3, hk => exact hk
                    | 4, hk => exact hk
                    | 5, hk => exact hk
                    | 6, hk => cases hk
                    | 7, hk => cases hk
                    | 8, hk => cases hk
                    | k + 9, hk => cases hk
                  refine ih_167 _ ?_ fr (i + 1) T3 (Nat.le_refl _) ?_ ?_
                  · omega
                  · exact fr_t (fr_0 _ _) (fr_s hf_198 rfl)
                  · omega
                · refine iy_i (by omega) (by omega) ?_
                  refine x_nm (fun U21 hU21 => ?_)
                  have e22 := up_f hU21
                  refine hK 223 [some (vR 111 0), some (vI m), some (vI d), some (vI wa), some (vI go), some (vI i), some (vI g), some (vI to), some (vI fr)] [vI g, vR 111 0] U21 ?_
                  refine j_callV (y := yX11_nothingAgainst) (Yc := zX11_nothingAgainst) (rest := []) [vI g] (ct_X11_nothingAgainst (T := U21) (by omega)) cl_X11_359 (qd_c (by decide +kernel)) (nn_ _) rfl (rf_of rfl) (Nat.le_of_ble_eq_true rfl) (Nat.le_of_ble_eq_true rfl) (Nat.le_of_ble_eq_true rfl) rfl ?_
                  rintro _ _ ⟨rfl, x23, rfl, hx23⟩
                  show J_ zX11_postpone T (po_X11_postpone T m d) 0 0 226 _ [vI x23] U21
                  refine j_blx (F := fX11) tb_X11 (nn_ _) bk_X11_postpone_226 bs_X11_postpone_226 hz (fun K hK => ?_)
                  refine rg_i (by omega) ?_
                  refine hK 198 [some (vR 111 0), some (vI m), some (vI d), some (vI wa), some (vI go), some (vI i), some (vI g), some (vI (to + 1)), some (vI x23)] [] U21 ?_
                  refine ih_198 _ ?_ g (to + 1) x23 U21 (Nat.le_refl _) ?_ ?_ ?_
                  · omega
                  · exact fr_u (fr_t (fr_0 _ _) (fr_s hf_198 rfl)) hU21 rfl
                  · omega
                  · omega
          refine j_blx (F := fX11) tb_X11 (nn_ _) bk_X11_postpone_167 bs_X11_postpone_167 hz (fun K hK => ?_)
          intro b24 b24b
          refine And.intro (fun c25 => ?_) (fun c25 => ?_)
          · refine hK 244 _ [] T2 ?_
            refine j_drop [some (vR 111 0), some (vI m), some (vI d), some (vI wa), some (vI go), none, none, none, none] (fun k v hk => ?_) rfl ?_
            · match k, hk with
              | 0, hk => exact hk
              | 1, hk => exact hk
              | 2, hk => exact hk
              | 3, hk => exact hk
              | 4, hk => exact hk
              | 5, hk => cases hk
              | 6, hk => cases hk
              | 7, hk => cases hk
              | 8, hk => cases hk
              | k + 9, hk => cases hk
            refine c_244 go T2 ?_ ?_
            · exact fr_t (fr_0 _ _) (fr_s hf_167 rfl)
            · omega
          · refine And.intro (fun c26 => ?_) (fun c26 => ?_)
            · refine hK 244 [some (vR 111 0), some (vI m), some (vI d), some (vI wa), some (vI go), some (vI i), none, none, none] [] T2 ?_
              refine j_drop [some (vR 111 0), some (vI m), some (vI d), some (vI wa), some (vI go), none, none, none, none] (fun k v hk => ?_) rfl ?_
              · match k, hk with
                | 0, hk => exact hk
                | 1, hk => exact hk
                | 2, hk => exact hk
                | 3, hk => exact hk
                | 4, hk => exact hk
                | 5, hk => cases hk
                | 6, hk => cases hk
                | 7, hk => cases hk
                | 8, hk => cases hk
                | k + 9, hk => cases hk
              refine c_244 go T2 ?_ ?_
              · exact fr_t (fr_0 _ _) (fr_s hf_167 rfl)
              · omega
            · refine ix_i (by omega) ?_
              intro b27 b27b
              refine rg_i (by omega) ?_
              refine hK 198 [some (vR 111 0), some (vI m), some (vI d), some (vI wa), some (vI go), some (vI i), some (vI (T2 271 0 i)), some (vI (d + 1)), some (vI 0)] [] T2 ?_
              refine c_198 _ (T2 271 0 i) (d + 1) 0 T2 (Nat.le_refl _) ?_ ?_ ?_
              · exact fr_t (fr_0 _ _) (fr_s hf_167 rfl)
              · omega
              · omega
      refine j_blx (F := fX11) tb_X11 (nn_ _) bk_X11_postpone_80 bs_X11_postpone_80 hz (fun K hK => ?_)
      intro b28 b28b
      have e29 : T1 111 0 29 = T 111 0 29 := hf_80 111 0 29 rfl
      rw [e29] at b28 b28b ⊢
      refine And.intro (fun c30 => ?_) (fun c30 => ?_)
      · refine hK 164 _ [] T1 ?_
        refine j_blx (F := fX11) tb_X11 (nn_ _) bk_X11_postpone_164 bs_X11_postpone_164 hz (fun K hK => ?_)
        refine hK 167 [some (vR 111 0), some (vI m), some (vI d), some (vI wa), some (vI go), some (vI 0), none, none, none] [] T1 ?_
        refine c_167 _ go 0 T1 (Nat.le_refl _) ?_ ?_
        · exact fr_t (fr_0 _ _) (fr_s hf_80 rfl)
        · omega
      · refine hK 93 [some (vR 111 0), some (vI m), some (vI d), some (vI wa), some (vI go), some (vI k), none, none, none] [vI k, vI m, vR 111 0] T1 ?_
        refine j_callV (y := yX11_standAgainst) (Yc := zX11_standAgainst) (rest := []) [vI m, vI k] (ct_X11_standAgainst (T := T1) (by omega) (by omega)) cl_X11_353 (qd_c (by decide +kernel)) (nn_ _) rfl (rf_of rfl) (Nat.le_of_ble_eq_true rfl) (Nat.le_of_ble_eq_true rfl) (Nat.le_of_ble_eq_true rfl) rfl ?_
        rintro _ _ ⟨rfl, x31, rfl, hx31⟩
        show J_ zX11_postpone T (po_X11_postpone T m d) 0 0 96 _ [vI x31] T1
        refine j_blx (F := fX11) tb_X11 (nn_ _) bk_X11_postpone_96 bs_X11_postpone_96 hz (fun K hK => ?_)
        refine And.intro (fun c32 => ?_) (fun c32 => ?_)
        · refine hK 158 _ [] T1 ?_
          refine j_blx (F := fX11) tb_X11 (nn_ _) bk_X11_postpone_158 bs_X11_postpone_158 hz (fun K hK => ?_)
          refine rg_i (by omega) ?_
          refine hK 80 [some (vR 111 0), some (vI m), some (vI d), some (vI wa), some (vI go), some (vI (k + 1)), none, none, none] [] T1 ?_
          refine ih_80 _ ?_ wa go (k + 1) T1 (Nat.le_refl _) ?_ ?_ ?_
          · omega
          · exact fr_t (fr_0 _ _) (fr_s hf_80 rfl)
          · omega
          · omega
        · intro b33 b33b
          refine iy_i (by omega) (by omega) ?_
          refine x_nm (fun U34 hU34 => ?_)
          have e35 := up_f hU34
          intro b36 b36b
          have e37 : U34 111 0 73 = T1 111 0 73 := up_k hU34 (by exact Nat.ne_of_beq_eq_false rfl) 0 73
          rw [e37] at b36 b36b ⊢
          refine ix_i (by omega) ?_
          intro b38 b38b
          have e39 : U34 234 0 k = T1 234 0 k := up_k hU34 (by exact Nat.ne_of_beq_eq_false rfl) 0 k
          rw [e39] at b38 b38b ⊢
          refine iy_i (by omega) (by omega) ?_
          refine x_nm (fun U40 hU40 => ?_)
          have e41 := up_f hU40
          intro b42 b42b
          have e43 : U40 111 0 73 = T1 111 0 73 := (up_k hU40 (by exact Nat.ne_of_beq_eq_false rfl) 0 73).trans (up_k hU34 (by exact Nat.ne_of_beq_eq_false rfl) 0 73)
          rw [e43] at b42 b42b ⊢
          refine rg_i (by omega) ?_
          refine bd_i (by omega) ?_
          refine x_nm (fun U44 hU44 => ?_)
          have e45 := up_f hU44
          refine And.intro (fun c46 => ?_) (fun c46 => ?_)
          · refine hK 155 [some (vR 111 0), some (vI m), some (vI d), some (vI wa), some (vI go), some (vI k), none, none, none] [] U44 ?_
            refine j_blx (F := fX11) tb_X11 (nn_ _) bk_X11_postpone_155 bs_X11_postpone_155 hz (fun K hK => ?_)
            refine rg_i (by omega) ?_
            refine hK 80 [some (vR 111 0), some (vI m), some (vI d), some (vI wa), some (vI 0), some (vI (k + 1)), none, none, none] [] U44 ?_
            have e47 : U44 111 0 73 = (T1 111 0 73) + 1 := up_f hU44
            refine ih_80 _ ?_ wa 0 (k + 1) U44 (Nat.le_refl _) ?_ ?_ ?_
            · omega
            · exact fr_u (fr_u (fr_u (fr_t (fr_0 _ _) (fr_s hf_80 rfl)) hU34 rfl) hU40 rfl) hU44 rfl
            · omega
            · omega
          · refine ix_i (by omega) ?_
            intro b48 b48b
            have e49 : U44 235 0 k = T 235 0 k := (up_k hU44 (by exact Nat.ne_of_beq_eq_false rfl) 0 k).trans ((up_k hU40 (by exact Nat.ne_of_beq_eq_false rfl) 0 k).trans ((up_k hU34 (by exact Nat.ne_of_beq_eq_false rfl) 0 k).trans (hf_80 235 0 k rfl)))
            rw [e49] at b48 b48b ⊢
            refine And.intro (fun c50 => ?_) (fun c50 => ?_)
            · refine hK 155 [some (vR 111 0), some (vI m), some (vI d), some (vI wa), some (vI go), some (vI k), none, none, none] [] U44 ?_
              refine j_blx (F := fX11) tb_X11 (nn_ _) bk_X11_postpone_155 bs_X11_postpone_155 hz (fun K hK => ?_)
              refine rg_i (by omega) ?_
              refine hK 80 [some (vR 111 0), some (vI m), some (vI d), some (vI wa), some (vI 0), some (vI (k + 1)), none, none, none] [] U44 ?_
              have e51 : U44 111 0 73 = (T1 111 0 73) + 1 := up_f hU44
              refine ih_80 _ ?_ wa 0 (k + 1) U44 (Nat.le_refl _) ?_ ?_ ?_
              · omega
              · exact fr_u (fr_u (fr_u (fr_t (fr_0 _ _) (fr_s hf_80 rfl)) hU34 rfl) hU40 rfl) hU44 rfl
              · omega
              · omega
            · refine hK 156 [some (vR 111 0), some (vI m), some (vI d), some (vI wa), some (vI go), some (vI k), none, none, none] [vI 1] U44 ?_
              refine j_blx (F := fX11) tb_X11 (nn_ _) bk_X11_postpone_156 bs_X11_postpone_156 hz (fun K hK => ?_)
              refine rg_i (by omega) ?_
              refine hK 80 [some (vR 111 0), some (vI m), some (vI d), some (vI wa), some (vI 1), some (vI (k + 1)), none, none, none] [] U44 ?_
              have e52 : U44 111 0 73 = (T1 111 0 73) + 1 := up_f hU44
              refine ih_80 _ ?_ wa 1 (k + 1) U44 (Nat.le_refl _) ?_ ?_ ?_
              · omega
              · exact fr_u (fr_u (fr_u (fr_t (fr_0 _ _) (fr_s hf_80 rfl)) hU34 rfl) hU40 rfl) hU44 rfl
              · omega
              · omega
  refine j_blx (F := fX11) tb_X11 (nn_ _) bk_X11_postpone_0 bs_X11_postpone_0 hz (fun K hK => ?_)
  intro b53 b53b
  refine hK 5 _ [vI (T 111 0 29), vI m] T ?_
  refine j_callS (y := yX11_isOf) (Yc := zX11_isOf) (rest := []) [vI m, vI (T 111 0 29)] (ct_X11_isOf (T := T) (by omega)) cl_X11_317 (qd_c (by decide +kernel)) (nn_ _) rfl (rf_of rfl) (Nat.le_of_ble_eq_true rfl) (Nat.le_of_ble_eq_true rfl) (Nat.le_of_ble_eq_true rfl) rfl ?_
  rintro _ _ ⟨rfl, x54, rfl, hx54⟩
  show J_ zX11_postpone T (po_X11_postpone T m d) 0 0 8 _ [vI x54] T
  refine j_blx (F := fX11) tb_X11 (nn_ _) bk_X11_postpone_8 bs_X11_postpone_8 hz (fun K hK => ?_)
  refine And.intro (fun c55 => ?_) (fun c55 => ?_)
  · refine hK 14 _ [] T ?_
    refine j_blx (F := fX11) tb_X11 (nn_ _) bk_X11_postpone_14 bs_X11_postpone_14 hz (fun K hK => ?_)
    intro b56 b56b
    refine rg_i (by omega) ?_
    refine hK 24 _ [vI 999, vI ((T 111 0 3) + 1), vI d] T ?_
    refine j_callS (y := yX11_in) (Yc := zX11_in) (rest := []) [vI d, vI ((T 111 0 3) + 1), vI 999] (ct_X11_in (T := T)) cl_X11_255 (qd_c (by decide +kernel)) (nn_ _) rfl (rf_of rfl) (Nat.le_of_ble_eq_true rfl) (Nat.le_of_ble_eq_true rfl) (Nat.le_of_ble_eq_true rfl) rfl ?_
    rintro _ _ ⟨rfl, x57, rfl, hx57⟩
    show J_ zX11_postpone T (po_X11_postpone T m d) 0 0 27 _ [vI x57] T
    refine j_blx (F := fX11) tb_X11 (nn_ _) bk_X11_postpone_27 bs_X11_postpone_27 hz (fun K hK => ?_)
    refine And.intro (fun c58 => ?_) (fun c58 => ?_)
    · refine hK 33 _ [] T ?_
      refine j_blx (F := fX11) tb_X11 (nn_ _) bk_X11_postpone_33 bs_X11_postpone_33 hz (fun K hK => ?_)
      refine ix_i (by omega) ?_
      intro b59 b59b
      refine And.intro (fun c60 => ?_) (fun c60 => ?_)
      · refine hK 52 _ [] T ?_
        refine j_blx (F := fX11) tb_X11 (nn_ _) bk_X11_postpone_52 bs_X11_postpone_52 hz (fun K hK => ?_)
        refine (show po_X11_postpone T m d T (some (vI (-4))) from ?_)
        exact ⟨_, rfl, fr_0 _ _, by rfl⟩
      · refine ix_i (by omega) ?_
        intro b61 b61b
        refine And.intro (fun c62 => ?_) (fun c62 => ?_)
        · refine hK 55 _ [] T ?_
          refine j_blx (F := fX11) tb_X11 (nn_ _) bk_X11_postpone_55 bs_X11_postpone_55 hz (fun K hK => ?_)
          refine ix_i (by omega) ?_
          intro b63 b63b
          refine iy_i (by omega) (by omega) ?_
          refine x_nm (fun U64 hU64 => ?_)
          have e65 := up_f hU64
          refine bd_i (by omega) ?_
          refine x_nm (fun U66 hU66 => ?_)
          have e67 := up_f hU66
          refine hK 80 [some (vR 111 0), some (vI m), some (vI d), some (vI (T 234 0 m)), some (vI 1), some (vI 0), none, none, none] [] U66 ?_
          have e68 : U66 111 0 73 = 0 := up_f hU66
          refine c_80 _ (T 234 0 m) 1 0 U66 (Nat.le_refl _) ?_ ?_ ?_
          · exact fr_u (fr_u (fr_0 _ _) hU64 rfl) hU66 rfl
          · omega
          · omega
        · refine (show po_X11_postpone T m d T (some (vI (-4))) from ?_)
          exact ⟨_, rfl, fr_0 _ _, by rfl⟩
    · refine (show po_X11_postpone T m d T (some (vI (-3))) from ?_)
      exact ⟨_, rfl, fr_0 _ _, by rfl⟩
  · refine (show po_X11_postpone T m d T (some (vI (-2))) from ?_)
    exact ⟨_, rfl, fr_0 _ _, by rfl⟩
abbrev cX11_deduct : ByteArray := prog_13_method_38_code
def yX11_deduct : MethodName := ⟨RX11, "deduct", "(III)I"⟩
def zX11_deduct : Zm := (RX11, cX11_deduct, 4, (some .int), { frames := 2, cells := 0, slots := 0, locals := 43 })
theorem bk_X11_deduct_0 : ck_ fX11 (some .int) cX11_deduct 0 [.iload 1, .aload 0, .tableswitch 0 11 6 #[]] 5 = true := qck_r (nn_ _) (by decide +kernel)
theorem bs_X11_deduct_0 {P : Zt → Option Zv → Prop} (K : Int → Zl → List Zv → Zt → Prop) : sx_ K P [.iload 1, .aload 0, .tableswitch 0 11 6 #[]] 5 = x_iload 1 (x_aload 0 (x_g0 111 6 0 4 (K 5))) := ((xe_iload 1).trans (congrArg (x_iload 1) ((xe_aload 0).trans (congrArg (x_aload 0) ((xe_g0 (kk := 111) rfl tl_11_6).trans (congrArg (x_g0 111 6 0 4) xe_nil))))))
theorem bk_X11_deduct_8 : ck_ fX11 (some .int) cX11_deduct 8 [.ifCond .eq 22, .iload 2, .aload 0, .tableswitch 0 11 12 #[]] 16 = true := qck_r (nn_ _) (by decide +kernel)
theorem bs_X11_deduct_8 {P : Zt → Option Zv → Prop} (K : Int → Zl → List Zv → Zt → Prop) : sx_ K P [.ifCond .eq 22, .iload 2, .aload 0, .tableswitch 0 11 12 #[]] 16 = x_ifCond .eq 22 K (x_iload 2 (x_aload 0 (x_g0 111 12 0 12 (K 16)))) := ((xe_ifCond .eq 22).trans (congrArg (x_ifCond .eq 22 K) ((xe_iload 2).trans (congrArg (x_iload 2) ((xe_aload 0).trans (congrArg (x_aload 0) ((xe_g0 (kk := 111) rfl tl_11_12).trans (congrArg (x_g0 111 12 0 12) xe_nil))))))))
theorem bk_X11_deduct_22 : ck_ fX11 (some .int) cX11_deduct 22 [.iconst (-2), .ireturn] 25 = true := qck_r (nn_ _) (by decide +kernel)
theorem bs_X11_deduct_22 {P : Zt → Option Zv → Prop} (K : Int → Zl → List Zv → Zt → Prop) : sx_ K P [.iconst (-2), .ireturn] 25 = x_iconst (-2) (x_ireturn P) := ((xe_iconst (-2)).trans (congrArg (x_iconst (-2)) (xe_ireturn)))
theorem bk_X11_deduct_19 : ck_ fX11 (some .int) cX11_deduct 19 [.ifCond .ne 25, .iconst (-2), .ireturn] 25 = true := qck_r (nn_ _) (by decide +kernel)
theorem bs_X11_deduct_19 {P : Zt → Option Zv → Prop} (K : Int → Zl → List Zv → Zt → Prop) : sx_ K P [.ifCond .ne 25, .iconst (-2), .ireturn] 25 = x_ifCond .ne 25 K (x_iconst (-2) (x_ireturn P)) := ((xe_ifCond .ne 25).trans (congrArg (x_ifCond .ne 25 K) ((xe_iconst (-2)).trans (congrArg (x_iconst (-2)) (xe_ireturn)))))
theorem bk_X11_deduct_25 : ck_ fX11 (some .int) cX11_deduct 25 [.iload 3, .iconst 1, .iconst 99] 29 = true := qck_r (nn_ _) (by decide +kernel)
theorem bs_X11_deduct_25 {P : Zt → Option Zv → Prop} (K : Int → Zl → List Zv → Zt → Prop) : sx_ K P [.iload 3, .iconst 1, .iconst 99] 29 = x_iload 3 (x_iconst 1 (x_iconst 99 (K 29))) := ((xe_iload 3).trans (congrArg (x_iload 3) ((xe_iconst 1).trans (congrArg (x_iconst 1) ((xe_iconst 99).trans (congrArg (x_iconst 99) xe_nil))))))
theorem bk_X11_deduct_32 : ck_ fX11 (some .int) cX11_deduct 32 [.ifCond .ne 38, .iconst (-3), .ireturn] 38 = true := qck_r (nn_ _) (by decide +kernel)
theorem bs_X11_deduct_32 {P : Zt → Option Zv → Prop} (K : Int → Zl → List Zv → Zt → Prop) : sx_ K P [.ifCond .ne 38, .iconst (-3), .ireturn] 38 = x_ifCond .ne 38 K (x_iconst (-3) (x_ireturn P)) := ((xe_ifCond .ne 38).trans (congrArg (x_ifCond .ne 38 K) ((xe_iconst (-3)).trans (congrArg (x_iconst (-3)) (xe_ireturn)))))
theorem bk_X11_deduct_38 : ck_ fX11 (some .int) cX11_deduct 38 [.aload 0, .iload 1, .iload 2] 41 = true := qck_r (nn_ _) (by decide +kernel)
theorem bs_X11_deduct_38 {P : Zt → Option Zv → Prop} (K : Int → Zl → List Zv → Zt → Prop) : sx_ K P [.aload 0, .iload 1, .iload 2] 41 = x_aload 0 (x_iload 1 (x_iload 2 (K 41))) := ((xe_aload 0).trans (congrArg (x_aload 0) ((xe_iload 1).trans (congrArg (x_iload 1) ((xe_iload 2).trans (congrArg (x_iload 2) xe_nil))))))
theorem bk_X11_deduct_44 : ck_ fX11 (some .int) cX11_deduct 44 [.ifCond .ne 50, .iconst (-4), .ireturn] 50 = true := qck_r (nn_ _) (by decide +kernel)
theorem bs_X11_deduct_44 {P : Zt → Option Zv → Prop} (K : Int → Zl → List Zv → Zt → Prop) : sx_ K P [.ifCond .ne 50, .iconst (-4), .ireturn] 50 = x_ifCond .ne 50 K (x_iconst (-4) (x_ireturn P)) := ((xe_ifCond .ne 50).trans (congrArg (x_ifCond .ne 50 K) ((xe_iconst (-4)).trans (congrArg (x_iconst (-4)) (xe_ireturn)))))
theorem bk_X11_deduct_50 : ck_ fX11 (some .int) cX11_deduct 50 [.aload 0, .tableswitch 0 11 24 #[], .iconst 50, .if_icmp .ne 62, .iconst (-5), .ireturn] 62 = true := qck_r (nn_ _) (by decide +kernel)
theorem bs_X11_deduct_50 {P : Zt → Option Zv → Prop} (K : Int → Zl → List Zv → Zt → Prop) : sx_ K P [.aload 0, .tableswitch 0 11 24 #[], .iconst 50, .if_icmp .ne 62, .iconst (-5), .ireturn] 62 = x_aload 0 (x_g0 111 24 0 50 (x_iconst 50 (x_if_icmp .ne 62 K (x_iconst (-5) (x_ireturn P))))) := ((xe_aload 0).trans (congrArg (x_aload 0) ((xe_g0 (kk := 111) rfl tl_11_24).trans (congrArg (x_g0 111 24 0 50) ((xe_iconst 50).trans (congrArg (x_iconst 50) ((xe_if_icmp .ne 62).trans (congrArg (x_if_icmp .ne 62 K) ((xe_iconst (-5)).trans (congrArg (x_iconst (-5)) (xe_ireturn)))))))))))
theorem bk_X11_deduct_62 : ck_ fX11 (some .int) cX11_deduct 62 [.aload 0, .tableswitch 0 11 25 #[], .aload 0, .tableswitch 0 11 24 #[], .iload 1, .iastore, .aload 0, .tableswitch 0 11 26 #[], .aload 0, .tableswitch 0 11 24 #[], .iload 2, .iastore, .aload 0, .tableswitch 0 11 27 #[], .aload 0, .tableswitch 0 11 24 #[], .iload 3, .iastore, .aload 0, .tableswitch 0 11 28 #[], .aload 0, .tableswitch 0 11 24 #[], .aload 0, .tableswitch 0 11 3 #[], .iastore, .aload 0, .dup, .tableswitch 0 11 24 #[], .iconst 1, .iadd, .tableswitch 1 11 24 #[], .aload 0, .tableswitch 0 11 24 #[], .ireturn] 120 = true := qck_r (nn_ _) (by decide +kernel)
theorem bs_X11_deduct_62 {P : Zt → Option Zv → Prop} (K : Int → Zl → List Zv → Zt → Prop) : sx_ K P [.aload 0, .tableswitch 0 11 25 #[], .aload 0, .tableswitch 0 11 24 #[], .iload 1, .iastore, .aload 0, .tableswitch 0 11 26 #[], .aload 0, .tableswitch 0 11 24 #[], .iload 2, .iastore, .aload 0, .tableswitch 0 11 27 #[], .aload 0, .tableswitch 0 11 24 #[], .iload 3, .iastore, .aload 0, .tableswitch 0 11 28 #[], .aload 0, .tableswitch 0 11 24 #[], .aload 0, .tableswitch 0 11 3 #[], .iastore, .aload 0, .dup, .tableswitch 0 11 24 #[], .iconst 1, .iadd, .tableswitch 1 11 24 #[], .aload 0, .tableswitch 0 11 24 #[], .ireturn] 120 = x_aload 0 (x_g1 111 225 (x_aload 0 (x_g0 111 24 0 50 (x_iload 1 (x_iastore (x_aload 0 (x_g1 111 226 (x_aload 0 (x_g0 111 24 0 50 (x_iload 2 (x_iastore (x_aload 0 (x_g1 111 227 (x_aload 0 (x_g0 111 24 0 50 (x_iload 3 (x_iastore (x_aload 0 (x_g1 111 228 (x_aload 0 (x_g0 111 24 0 50 (x_aload 0 (x_g0 111 3 0 999 (x_iastore (x_aload 0 (x_dup (x_g0 111 24 0 50 (x_iconst 1 (x_iadd (x_p 111 24 0 50 (x_aload 0 (x_g0 111 24 0 50 (x_ireturn P))))))))))))))))))))))))))))))))) := ((xe_aload 0).trans (congrArg (x_aload 0) ((xe_g1 (kk := 111) rfl tl_11_25).trans (congrArg (x_g1 111 225) ((xe_aload 0).trans (congrArg (x_aload 0) ((xe_g0 (kk := 111) rfl tl_11_24).trans (congrArg (x_g0 111 24 0 50) ((xe_iload 1).trans (congrArg (x_iload 1) ((xe_iastore).trans (congrArg (x_iastore) ((xe_aload 0).trans (congrArg (x_aload 0) ((xe_g1 (kk := 111) rfl tl_11_26).trans (congrArg (x_g1 111 226) ((xe_aload 0).trans (congrArg (x_aload 0) ((xe_g0 (kk := 111) rfl tl_11_24).trans (congrArg (x_g0 111 24 0 50) ((xe_iload 2).trans (congrArg (x_iload 2) ((xe_iastore).trans (congrArg (x_iastore) ((xe_aload 0).trans (congrArg (x_aload 0) ((xe_g1 (kk := 111) rfl tl_11_27).trans (congrArg (x_g1 111 227) ((xe_aload 0).trans (congrArg (x_aload 0) ((xe_g0 (kk := 111) rfl tl_11_24).trans (congrArg (x_g0 111 24 0 50) ((xe_iload 3).trans (congrArg (x_iload 3) ((xe_iastore).trans (congrArg (x_iastore) ((xe_aload 0).trans (congrArg (x_aload 0) ((xe_g1 (kk := 111) rfl tl_11_28).trans (congrArg (x_g1 111 228) ((xe_aload 0).trans (congrArg (x_aload 0) ((xe_g0 (kk := 111) rfl tl_11_24).trans (congrArg (x_g0 111 24 0 50) ((xe_aload 0).trans (congrArg (x_aload 0) ((xe_g0 (kk := 111) rfl tl_11_3).trans (congrArg (x_g0 111 3 0 999) ((xe_iastore).trans (congrArg (x_iastore) ((xe_aload 0).trans (congrArg (x_aload 0) ((xe_dup).trans (congrArg (x_dup) ((xe_g0 (kk := 111) rfl tl_11_24).trans (congrArg (x_g0 111 24 0 50) ((xe_iconst 1).trans (congrArg (x_iconst 1) ((xe_iadd).trans (congrArg (x_iadd) ((xe_p (kk := 111) rfl tl_11_24).trans (congrArg (x_p 111 24 0 50) ((xe_aload 0).trans (congrArg (x_aload 0) ((xe_g0 (kk := 111) rfl tl_11_24).trans (congrArg (x_g0 111 24 0 50) (xe_ireturn)))))))))))))))))))))))))))))))))))))))))))))))))))))))))))))))))))
abbrev po_X11_deduct (T : Zt) (c cl p : Int) : Zt → Option Zv → Prop := fun T' r => ∃ x : Int, r = some (vI x) ∧ fr_ [(225, []), (226, []), (227, []), (228, []), (111, [24])] T T' ∧ (x = x)
set_option maxHeartbeats 4000000 in
theorem ct_X11_deduct {T : Zt} {c cl p : Int} : Ct_ yX11_deduct zX11_deduct T [vR 111 0, vI c, vI cl, vI p] (po_X11_deduct T c cl p) := by
  refine ct_of pn_11 rfl rfl (Nat.le_of_ble_eq_true rfl) (fun hT hav => ?_)
  have hr_c : -2147483648 ≤ c ∧ c ≤ 2147483647 := hav (vI c) (by simp)
  have hr_cl : -2147483648 ≤ cl ∧ cl ≤ 2147483647 := hav (vI cl) (by simp)
  have hr_p : -2147483648 ≤ p ∧ p ≤ 2147483647 := hav (vI p) (by simp)
  have hz : zX11_deduct.2.2.2.1 = some .boolean → ∀ (T' : Zt) (x : Int), po_X11_deduct T c cl p T' (some (vI x)) → 0 ≤ x ∧ x ≤ 1 := fun h => by cases h
  have hb_6 : 0 ≤ T 111 0 6 ∧ T 111 0 6 ≤ 4 := bd_f hT 111 6 (by decide +kernel : (tf_ 111)[6]? = some (0, 0, 0, 4)) 0
  have hb_12 : 0 ≤ T 111 0 12 ∧ T 111 0 12 ≤ 12 := bd_f hT 111 12 (by decide +kernel : (tf_ 111)[12]? = some (0, 0, 0, 12)) 0
  show J_ zX11_deduct T (po_X11_deduct T c cl p) 0 0 0 [some (vR 111 0), some (vI c), some (vI cl), some (vI p)] [] T
  refine j_blx (F := fX11) tb_X11 (nn_ _) bk_X11_deduct_0 bs_X11_deduct_0 hz (fun K hK => ?_)
  intro b1 b1b
  refine hK 5 _ [vI (T 111 0 6), vI c] T ?_
  refine j_callS (y := yX11_isOf) (Yc := zX11_isOf) (rest := []) [vI c, vI (T 111 0 6)] (ct_X11_isOf (T := T) (by omega)) cl_X11_317 (qd_c (by decide +kernel)) (nn_ _) rfl (rf_of rfl) (Nat.le_of_ble_eq_true rfl) (Nat.le_of_ble_eq_true rfl) (Nat.le_of_ble_eq_true rfl) rfl ?_
  rintro _ _ ⟨rfl, x2, rfl, hx2⟩
  show J_ zX11_deduct T (po_X11_deduct T c cl p) 0 0 8 _ [vI x2] T
  refine j_blx (F := fX11) tb_X11 (nn_ _) bk_X11_deduct_8 bs_X11_deduct_8 hz (fun K hK => ?_)
  refine And.intro (fun c3 => ?_) (fun c3 => ?_)
  · refine hK 22 _ [] T ?_
    refine j_blx (F := fX11) tb_X11 (nn_ _) bk_X11_deduct_22 bs_X11_deduct_22 hz (fun K hK => ?_)
    refine (show po_X11_deduct T c cl p T (some (vI (-2))) from ?_)
    exact ⟨_, rfl, fr_0 _ _, by rfl⟩
  · intro b4 b4b
    refine hK 16 _ [vI (T 111 0 12), vI cl] T ?_
    refine j_callS (y := yX11_isOf) (Yc := zX11_isOf) (rest := []) [vI cl, vI (T 111 0 12)] (ct_X11_isOf (T := T) (by omega)) cl_X11_317 (qd_c (by decide +kernel)) (nn_ _) rfl (rf_of rfl) (Nat.le_of_ble_eq_true rfl) (Nat.le_of_ble_eq_true rfl) (Nat.le_of_ble_eq_true rfl) rfl ?_
    rintro _ _ ⟨rfl, x5, rfl, hx5⟩
    show J_ zX11_deduct T (po_X11_deduct T c cl p) 0 0 19 _ [vI x5] T
    refine j_blx (F := fX11) tb_X11 (nn_ _) bk_X11_deduct_19 bs_X11_deduct_19 hz (fun K hK => ?_)
    refine And.intro (fun c6 => ?_) (fun c6 => ?_)
    · refine hK 25 _ [] T ?_
      refine j_blx (F := fX11) tb_X11 (nn_ _) bk_X11_deduct_25 bs_X11_deduct_25 hz (fun K hK => ?_)
      refine hK 29 _ [vI 99, vI 1, vI p] T ?_
      refine j_callS (y := yX11_in) (Yc := zX11_in) (rest := []) [vI p, vI 1, vI 99] (ct_X11_in (T := T)) cl_X11_255 (qd_c (by decide +kernel)) (nn_ _) rfl (rf_of rfl) (Nat.le_of_ble_eq_true rfl) (Nat.le_of_ble_eq_true rfl) (Nat.le_of_ble_eq_true rfl) rfl ?_
      rintro _ _ ⟨rfl, x7, rfl, hx7⟩
      show J_ zX11_deduct T (po_X11_deduct T c cl p) 0 0 32 _ [vI x7] T
      refine j_blx (F := fX11) tb_X11 (nn_ _) bk_X11_deduct_32 bs_X11_deduct_32 hz (fun K hK => ?_)
      refine And.intro (fun c8 => ?_) (fun c8 => ?_)
      · refine hK 38 _ [] T ?_
        refine j_blx (F := fX11) tb_X11 (nn_ _) bk_X11_deduct_38 bs_X11_deduct_38 hz (fun K hK => ?_)
        refine hK 41 _ [vI cl, vI c, vR 111 0] T ?_
        refine j_callV (y := yX11_hasEntered) (Yc := zX11_hasEntered) (rest := []) [vI c, vI cl] (ct_X11_hasEntered (T := T) (by omega)) cl_X11_340 (qd_c (by decide +kernel)) (nn_ _) rfl (rf_of rfl) (Nat.le_of_ble_eq_true rfl) (Nat.le_of_ble_eq_true rfl) (Nat.le_of_ble_eq_true rfl) rfl ?_
        rintro _ _ ⟨rfl, x9, rfl, hx9⟩
        show J_ zX11_deduct T (po_X11_deduct T c cl p) 0 0 44 _ [vI x9] T
        refine j_blx (F := fX11) tb_X11 (nn_ _) bk_X11_deduct_44 bs_X11_deduct_44 hz (fun K hK => ?_)
        refine And.intro (fun c10 => ?_) (fun c10 => ?_)
        · refine hK 50 _ [] T ?_
          refine j_blx (F := fX11) tb_X11 (nn_ _) bk_X11_deduct_50 bs_X11_deduct_50 hz (fun K hK => ?_)
          intro b11 b11b
          refine And.intro (fun c12 => ?_) (fun c12 => ?_)
          · refine hK 62 _ [] T ?_
            refine j_blx (F := fX11) tb_X11 (nn_ _) bk_X11_deduct_62 bs_X11_deduct_62 hz (fun K hK => ?_)
            intro b13 b13b
            refine iy_i (by omega) (by omega) ?_
            refine x_nm (fun U14 hU14 => ?_)
            have e15 := up_f hU14
            intro b16 b16b
            have e17 : U14 111 0 24 = T 111 0 24 := up_k hU14 (by exact Nat.ne_of_beq_eq_false rfl) 0 24
            rw [e17] at b16 b16b ⊢
            refine iy_i (by omega) (by omega) ?_
            refine x_nm (fun U18 hU18 => ?_)
            have e19 := up_f hU18
            intro b20 b20b
            have e21 : U18 111 0 24 = T 111 0 24 := (up_k hU18 (by exact Nat.ne_of_beq_eq_false rfl) 0 24).trans (up_k hU14 (by exact Nat.ne_of_beq_eq_false rfl) 0 24)
            rw [e21] at b20 b20b ⊢
            refine iy_i (by omega) (by omega) ?_
            refine x_nm (fun U22 hU22 => ?_)
            have e23 := up_f hU22
            intro b24 b24b
            have e25 : U22 111 0 24 = T 111 0 24 := (up_k hU22 (by exact Nat.ne_of_beq_eq_false rfl) 0 24).trans ((up_k hU18 (by exact Nat.ne_of_beq_eq_false rfl) 0 24).trans (up_k hU14 (by exact Nat.ne_of_beq_eq_false rfl) 0 24))
            rw [e25] at b24 b24b ⊢
            intro b26 b26b
            have e27 : U22 111 0 3 = T 111 0 3 := (up_k hU22 (by exact Nat.ne_of_beq_eq_false rfl) 0 3).trans ((up_k hU18 (by exact Nat.ne_of_beq_eq_false rfl) 0 3).trans (up_k hU14 (by exact Nat.ne_of_beq_eq_false rfl) 0 3))
            rw [e27] at b26 b26b ⊢
            refine iy_i (by omega) (by omega) ?_
            refine x_nm (fun U28 hU28 => ?_)
            have e29 := up_f hU28
            intro b30 b30b
            have e31 : U28 111 0 24 = T 111 0 24 := (up_k hU28 (by exact Nat.ne_of_beq_eq_false rfl) 0 24).trans ((up_k hU22 (by exact Nat.ne_of_beq_eq_false rfl) 0 24).trans ((up_k hU18 (by exact Nat.ne_of_beq_eq_false rfl) 0 24).trans (up_k hU14 (by exact Nat.ne_of_beq_eq_false rfl) 0 24)))
            rw [e31] at b30 b30b ⊢
            refine rg_i (by omega) ?_
            refine bd_i (by omega) ?_
            refine x_nm (fun U32 hU32 => ?_)
            have e33 := up_f hU32
            intro b34 b34b
            have e35 : U32 111 0 24 = (T 111 0 24) + 1 := up_f hU32
            rw [e35] at b34 b34b ⊢
            refine (show po_X11_deduct T c cl p U32 (some (vI ((T 111 0 24) + 1))) from ?_)
            exact ⟨_, rfl, fr_u (fr_u (fr_u (fr_u (fr_u (fr_0 _ _) hU14 rfl) hU18 rfl) hU22 rfl) hU28 rfl) hU32 rfl, by rfl⟩
          · refine (show po_X11_deduct T c cl p T (some (vI (-5))) from ?_)
            exact ⟨_, rfl, fr_0 _ _, by rfl⟩
        · refine (show po_X11_deduct T c cl p T (some (vI (-4))) from ?_)
          exact ⟨_, rfl, fr_0 _ _, by rfl⟩
      · refine (show po_X11_deduct T c cl p T (some (vI (-3))) from ?_)
        exact ⟨_, rfl, fr_0 _ _, by rfl⟩
    · refine (show po_X11_deduct T c cl p T (some (vI (-2))) from ?_)
      exact ⟨_, rfl, fr_0 _ _, by rfl⟩
/-- a person is on the sheet -/
def SL_ (T : Zt) (sh p : Int) : Prop := ∃ j, 0 ≤ j ∧ j < T 239 0 sh ∧ T 240 0 (10 * sh + j) = p
theorem SL_f {T T' : Zt} {sh p : Int} (h : SL_ T sh p) (e1 : ∀ j, T' 239 0 j = T 239 0 j) (e2 : ∀ j, T' 240 0 j = T 240 0 j) : SL_ T' sh p := by
  obtain ⟨j, a, b, c⟩ := h
  exact ⟨j, a, by rw [e1]; exact b, by rw [e2]; exact c⟩
abbrev cX11_slotOf : ByteArray := prog_13_method_39_code
def yX11_slotOf : MethodName := ⟨RX11, "slotOf", "(II)I"⟩
def zX11_slotOf : Zm := (RX11, cX11_slotOf, 5, (some .int), { frames := 0, cells := 0, slots := 0, locals := 0 })
theorem bk_X11_slotOf_43 : ck_ fX11 (some .int) cX11_slotOf 43 [.istore 3, .iinc 4 1, .goto 5] 50 = true := qck_r (nn_ _) (by decide +kernel)
theorem bs_X11_slotOf_43 {P : Zt → Option Zv → Prop} (K : Int → Zl → List Zv → Zt → Prop) : sx_ K P [.istore 3, .iinc 4 1, .goto 5] 50 = x_istore 3 (x_iinc 4 1 (x_goto 5 K)) := ((xe_istore 3).trans (congrArg (x_istore 3) ((xe_iinc 4 1).trans (congrArg (x_iinc 4 1) (xe_goto 5)))))
theorem bk_X11_slotOf_5 : ck_ fX11 (some .int) cX11_slotOf 5 [.iload 4, .aload 0, .tableswitch 0 11 39 #[], .iload 1, .iaload, .if_icmp .ge 50, .aload 0, .tableswitch 0 11 40 #[], .iconst 10, .iload 1, .imul, .iload 4, .iadd, .iaload, .iload 2, .if_icmp .ne 42, .iconst 10, .iload 1, .imul, .iload 4, .iadd, .goto 43] 42 = true := qck_r (nn_ _) (by decide +kernel)
theorem bs_X11_slotOf_5 {P : Zt → Option Zv → Prop} (K : Int → Zl → List Zv → Zt → Prop) : sx_ K P [.iload 4, .aload 0, .tableswitch 0 11 39 #[], .iload 1, .iaload, .if_icmp .ge 50, .aload 0, .tableswitch 0 11 40 #[], .iconst 10, .iload 1, .imul, .iload 4, .iadd, .iaload, .iload 2, .if_icmp .ne 42, .iconst 10, .iload 1, .imul, .iload 4, .iadd, .goto 43] 42 = x_iload 4 (x_aload 0 (x_g1 111 239 (x_iload 1 (x_iaload (x_if_icmp .ge 50 K (x_aload 0 (x_g1 111 240 (x_iconst 10 (x_iload 1 (x_imul (x_iload 4 (x_iadd (x_iaload (x_iload 2 (x_if_icmp .ne 42 K (x_iconst 10 (x_iload 1 (x_imul (x_iload 4 (x_iadd (x_goto 43 K))))))))))))))))))))) := ((xe_iload 4).trans (congrArg (x_iload 4) ((xe_aload 0).trans (congrArg (x_aload 0) ((xe_g1 (kk := 111) rfl tl_11_39).trans (congrArg (x_g1 111 239) ((xe_iload 1).trans (congrArg (x_iload 1) ((xe_iaload).trans (congrArg (x_iaload) ((xe_if_icmp .ge 50).trans (congrArg (x_if_icmp .ge 50 K) ((xe_aload 0).trans (congrArg (x_aload 0) ((xe_g1 (kk := 111) rfl tl_11_40).trans (congrArg (x_g1 111 240) ((xe_iconst 10).trans (congrArg (x_iconst 10) ((xe_iload 1).trans (congrArg (x_iload 1) ((xe_imul).trans (congrArg (x_imul) ((xe_iload 4).trans (congrArg (x_iload 4) ((xe_iadd).trans (congrArg (x_iadd) ((xe_iaload).trans (congrArg (x_iaload) ((xe_iload 2).trans (congrArg (x_iload 2) ((xe_if_icmp .ne 42).trans (congrArg (x_if_icmp .ne 42 K) ((xe_iconst 10).trans (congrArg (x_iconst 10) ((xe_iload 1).trans (congrArg (x_iload 1) ((xe_imul).trans (congrArg (x_imul) ((xe_iload 4).trans (congrArg (x_iload 4) ((xe_iadd).trans (congrArg (x_iadd) (xe_goto 43)))))))))))))))))))))))))))))))))))))))))))
theorem bk_X11_slotOf_50 : ck_ fX11 (some .int) cX11_slotOf 50 [.iload 3, .ireturn] 52 = true := qck_r (nn_ _) (by decide +kernel)
theorem bs_X11_slotOf_50 {P : Zt → Option Zv → Prop} (K : Int → Zl → List Zv → Zt → Prop) : sx_ K P [.iload 3, .ireturn] 52 = x_iload 3 (x_ireturn P) := ((xe_iload 3).trans (congrArg (x_iload 3) (xe_ireturn)))
theorem bk_X11_slotOf_42 : ck_ fX11 (some .int) cX11_slotOf 42 [.iload 3] 43 = true := qck_r (nn_ _) (by decide +kernel)
theorem bs_X11_slotOf_42 {P : Zt → Option Zv → Prop} (K : Int → Zl → List Zv → Zt → Prop) : sx_ K P [.iload 3] 43 = x_iload 3 (K 43) := ((xe_iload 3).trans (congrArg (x_iload 3) xe_nil))
theorem bk_X11_slotOf_0 : ck_ fX11 (some .int) cX11_slotOf 0 [.iconst (-1), .istore 3, .iconst 0, .istore 4] 5 = true := qck_r (nn_ _) (by decide +kernel)
theorem bs_X11_slotOf_0 {P : Zt → Option Zv → Prop} (K : Int → Zl → List Zv → Zt → Prop) : sx_ K P [.iconst (-1), .istore 3, .iconst 0, .istore 4] 5 = x_iconst (-1) (x_istore 3 (x_iconst 0 (x_istore 4 (K 5)))) := ((xe_iconst (-1)).trans (congrArg (x_iconst (-1)) ((xe_istore 3).trans (congrArg (x_istore 3) ((xe_iconst 0).trans (congrArg (x_iconst 0) ((xe_istore 4).trans (congrArg (x_istore 4) xe_nil))))))))
abbrev po_X11_slotOf (T : Zt) (sh p : Int) : Zt → Option Zv → Prop := fun T' r => T = T' ∧ ∃ x : Int, r = some (vI x) ∧ ((x = -1 ∧ ¬ SL_ T sh p) ∨ (10 * sh ≤ x ∧ x < 10 * sh + 10 ∧ SL_ T sh p ∧ x < 10 * sh + T 239 0 sh))
set_option maxHeartbeats 4000000 in
theorem ct_X11_slotOf {T : Zt} {sh p : Int} (h1 : 0 ≤ sh ∧ sh < 800) : Ct_ yX11_slotOf zX11_slotOf T [vR 111 0, vI sh, vI p] (po_X11_slotOf T sh p) := by
  refine ct_of pn_11 rfl rfl (Nat.le_of_ble_eq_true rfl) (fun hT hav => ?_)
  have hr_sh : -2147483648 ≤ sh ∧ sh ≤ 2147483647 := hav (vI sh) (by simp)
  have hr_p : -2147483648 ≤ p ∧ p ≤ 2147483647 := hav (vI p) (by simp)
  have hz : zX11_slotOf.2.2.2.1 = some .boolean → ∀ (T' : Zt) (x : Int), po_X11_slotOf T sh p T' (some (vI x)) → 0 ≤ x ∧ x ≤ 1 := fun h => by cases h
  have hsb : 0 ≤ T 239 0 sh ∧ T 239 0 sh ≤ 10 := bd_a hT 239 (by decide +kernel : ta_ 239 = some (1, some 800, 0, 10)) 0 (by omega)
  show J_ zX11_slotOf T (po_X11_slotOf T sh p) 0 0 0 [some (vR 111 0), some (vI sh), some (vI p), none, none] [] T
  have c_5 : ∀ (nn : Nat) (sl : Int) (k : Int), ((10 - k).toNat) ≤ nn → (0 ≤ k ∧ -1 ≤ sl ∧ sl < 8000) → ((sl = -1 ∧ ∀ j, 0 ≤ j → j < k → T 240 0 (10 * sh + j) ≠ p) ∨ (10 * sh ≤ sl ∧ sl < 10 * sh + T 239 0 sh ∧ T 240 0 sl = p)) → J_ zX11_slotOf T (po_X11_slotOf T sh p) 0 0 5 [some (vR 111 0), some (vI sh), some (vI p), some (vI sl), some (vI k)] [] T := by
    intro nn
    induction nn using Nat.strongRecOn with
    | _ nn ih_5 =>
      intro sl k hm_5 k1 k2
      have c_43 : ∀ (v : Int), (k < T 239 0 sh ∧ T 239 0 sh ≤ 10 ∧ -1 ≤ v ∧ v < 8000) → ((v = -1 ∧ ∀ j, 0 ≤ j → j < k + 1 → T 240 0 (10 * sh + j) ≠ p) ∨ (10 * sh ≤ v ∧ v < 10 * sh + T 239 0 sh ∧ T 240 0 v = p)) → J_ zX11_slotOf T (po_X11_slotOf T sh p) 0 0 43 [some (vR 111 0), some (vI sh), some (vI p), some (vI sl), some (vI k)] [vI v] T := by
        intro v v0 v1
        refine j_blx (F := fX11) tb_X11 (nn_ _) bk_X11_slotOf_43 bs_X11_slotOf_43 hz (fun K hK => ?_)
        refine rg_i (by omega) ?_
        refine hK 5 [some (vR 111 0), some (vI sh), some (vI p), some (vI v), some (vI (k + 1))] [] T ?_
        refine ih_5 _ ?_ v (k + 1) (Nat.le_refl _) ?_ ?_
        · omega
        · omega
        · exact v1
      refine j_blx (F := fX11) tb_X11 (nn_ _) bk_X11_slotOf_5 bs_X11_slotOf_5 hz (fun K hK => ?_)
      refine ix_i (by omega) ?_
      intro b1 b1b
      refine And.intro (fun c2 => ?_) (fun c2 => ?_)
      · refine hK 50 _ [] T ?_
        refine j_blx (F := fX11) tb_X11 (nn_ _) bk_X11_slotOf_50 bs_X11_slotOf_50 hz (fun K hK => ?_)
        refine (show po_X11_slotOf T sh p T (some (vI sl)) from ?_)
        exact ⟨rfl, _, rfl, k2.imp (fun z => ⟨z.1, fun ⟨j, a, b, c⟩ => z.2 j a (by omega) c⟩) (fun z => ⟨z.1, by omega, ⟨sl - 10 * sh, by omega, by omega, by rw [show 10 * sh + (sl - 10 * sh) = sl by omega]; exact z.2.2⟩, z.2.1⟩)⟩
      · refine rg_i (by omega) ?_
        refine rg_i (by omega) ?_
        refine ix_i (by omega) ?_
        intro b3 b3b
        refine And.intro (fun c4 => ?_) (fun c4 => ?_)
        · refine hK 42 _ [] T ?_
          refine j_blx (F := fX11) tb_X11 (nn_ _) bk_X11_slotOf_42 bs_X11_slotOf_42 hz (fun K hK => ?_)
          refine hK 43 _ [vI sl] T ?_
          refine c_43 sl ?_ ?_
          · omega
          · rcases k2 with z | z
            · exact Or.inl ⟨z.1, fun j a b => by
                by_cases e9 : j = k
                · rw [e9]; omega
                · exact z.2 j a (by omega)⟩
            · exact Or.inr z
        · refine rg_i (by omega) ?_
          refine rg_i (by omega) ?_
          refine hK 43 _ [vI ((10 * sh) + k)] T ?_
          refine c_43 ((10 * sh) + k) ?_ ?_
          · omega
          · exact Or.inr ⟨by omega, by omega, by omega⟩
  refine j_blx (F := fX11) tb_X11 (nn_ _) bk_X11_slotOf_0 bs_X11_slotOf_0 hz (fun K hK => ?_)
  refine hK 5 [some (vR 111 0), some (vI sh), some (vI p), some (vI (-1)), some (vI 0)] [] T ?_
  refine c_5 _ (-1) 0 (Nat.le_refl _) ?_ ?_
  · omega
  · exact Or.inl ⟨rfl, fun j a b => by omega⟩
abbrev cX11_isAhead : ByteArray := prog_13_method_40_code
def yX11_isAhead : MethodName := ⟨RX11, "isAhead", "(II)Z"⟩
def zX11_isAhead : Zm := (RX11, cX11_isAhead, 3, (some .boolean), { frames := 0, cells := 0, slots := 0, locals := 0 })
theorem bk_X11_isAhead_0 : ck_ fX11 (some .boolean) cX11_isAhead 0 [.aload 0, .tableswitch 0 11 34 #[], .iload 1, .iaload, .aload 0, .tableswitch 0 11 34 #[], .iload 2, .iaload, .if_icmp .lt 35, .aload 0, .tableswitch 0 11 34 #[], .iload 1, .iaload, .aload 0, .tableswitch 0 11 34 #[], .iload 2, .iaload, .if_icmp .ne 39, .iload 1, .iload 2, .if_icmp .ge 39, .iconst 1, .goto 40] 39 = true := qck_r (nn_ _) (by decide +kernel)
theorem bs_X11_isAhead_0 {P : Zt → Option Zv → Prop} (K : Int → Zl → List Zv → Zt → Prop) : sx_ K P [.aload 0, .tableswitch 0 11 34 #[], .iload 1, .iaload, .aload 0, .tableswitch 0 11 34 #[], .iload 2, .iaload, .if_icmp .lt 35, .aload 0, .tableswitch 0 11 34 #[], .iload 1, .iaload, .aload 0, .tableswitch 0 11 34 #[], .iload 2, .iaload, .if_icmp .ne 39, .iload 1, .iload 2, .if_icmp .ge 39, .iconst 1, .goto 40] 39 = x_aload 0 (x_g1 111 234 (x_iload 1 (x_iaload (x_aload 0 (x_g1 111 234 (x_iload 2 (x_iaload (x_if_icmp .lt 35 K (x_aload 0 (x_g1 111 234 (x_iload 1 (x_iaload (x_aload 0 (x_g1 111 234 (x_iload 2 (x_iaload (x_if_icmp .ne 39 K (x_iload 1 (x_iload 2 (x_if_icmp .ge 39 K (x_iconst 1 (x_goto 40 K)))))))))))))))))))))) := ((xe_aload 0).trans (congrArg (x_aload 0) ((xe_g1 (kk := 111) rfl tl_11_34).trans (congrArg (x_g1 111 234) ((xe_iload 1).trans (congrArg (x_iload 1) ((xe_iaload).trans (congrArg (x_iaload) ((xe_aload 0).trans (congrArg (x_aload 0) ((xe_g1 (kk := 111) rfl tl_11_34).trans (congrArg (x_g1 111 234) ((xe_iload 2).trans (congrArg (x_iload 2) ((xe_iaload).trans (congrArg (x_iaload) ((xe_if_icmp .lt 35).trans (congrArg (x_if_icmp .lt 35 K) ((xe_aload 0).trans (congrArg (x_aload 0) ((xe_g1 (kk := 111) rfl tl_11_34).trans (congrArg (x_g1 111 234) ((xe_iload 1).trans (congrArg (x_iload 1) ((xe_iaload).trans (congrArg (x_iaload) ((xe_aload 0).trans (congrArg (x_aload 0) ((xe_g1 (kk := 111) rfl tl_11_34).trans (congrArg (x_g1 111 234) ((xe_iload 2).trans (congrArg (x_iload 2) ((xe_iaload).trans (congrArg (x_iaload) ((xe_if_icmp .ne 39).trans (congrArg (x_if_icmp .ne 39 K) ((xe_iload 1).trans (congrArg (x_iload 1) ((xe_iload 2).trans (congrArg (x_iload 2) ((xe_if_icmp .ge 39).trans (congrArg (x_if_icmp .ge 39 K) ((xe_iconst 1).trans (congrArg (x_iconst 1) (xe_goto 40)))))))))))))))))))))))))))))))))))))))))))))
theorem bk_X11_isAhead_35 : ck_ fX11 (some .boolean) cX11_isAhead 35 [.iconst 1, .goto 40] 39 = true := qck_r (nn_ _) (by decide +kernel)
theorem bs_X11_isAhead_35 {P : Zt → Option Zv → Prop} (K : Int → Zl → List Zv → Zt → Prop) : sx_ K P [.iconst 1, .goto 40] 39 = x_iconst 1 (x_goto 40 K) := ((xe_iconst 1).trans (congrArg (x_iconst 1) (xe_goto 40)))
theorem bk_X11_isAhead_40 : ck_ fX11 (some .boolean) cX11_isAhead 40 [.ireturn] 41 = true := qck_r (nn_ _) (by decide +kernel)
theorem bs_X11_isAhead_40 {P : Zt → Option Zv → Prop} (K : Int → Zl → List Zv → Zt → Prop) : sx_ K P [.ireturn] 41 = x_ireturn P := (xe_ireturn)
theorem bk_X11_isAhead_39 : ck_ fX11 (some .boolean) cX11_isAhead 39 [.iconst 0, .ireturn] 41 = true := qck_r (nn_ _) (by decide +kernel)
theorem bs_X11_isAhead_39 {P : Zt → Option Zv → Prop} (K : Int → Zl → List Zv → Zt → Prop) : sx_ K P [.iconst 0, .ireturn] 41 = x_iconst 0 (x_ireturn P) := ((xe_iconst 0).trans (congrArg (x_iconst 0) (xe_ireturn)))
abbrev po_X11_isAhead (T : Zt) (a b : Int) : Zt → Option Zv → Prop := fun T' r => T = T' ∧ ∃ x : Int, r = some (vI x) ∧ ((x = 1 ∧ (T 234 0 a < T 234 0 b ∨ (T 234 0 a = T 234 0 b ∧ a < b))) ∨ (x = 0 ∧ ¬ (T 234 0 a < T 234 0 b ∨ (T 234 0 a = T 234 0 b ∧ a < b))))
set_option maxHeartbeats 4000000 in
theorem ct_X11_isAhead {T : Zt} {a b : Int} (h1 : 0 ≤ a ∧ a < 400) (h2 : 0 ≤ b ∧ b < 400) : Ct_ yX11_isAhead zX11_isAhead T [vR 111 0, vI a, vI b] (po_X11_isAhead T a b) := by
  refine ct_of pn_11 rfl rfl (Nat.le_of_ble_eq_true rfl) (fun hT hav => ?_)
  have hr_a : -2147483648 ≤ a ∧ a ≤ 2147483647 := hav (vI a) (by simp)
  have hr_b : -2147483648 ≤ b ∧ b ≤ 2147483647 := hav (vI b) (by simp)
  have hz : zX11_isAhead.2.2.2.1 = some .boolean → ∀ (T' : Zt) (x : Int), po_X11_isAhead T a b T' (some (vI x)) → 0 ≤ x ∧ x ≤ 1 := fun _ T' x h => by obtain ⟨-, y, e, hy⟩ := h; cases e; omega
  show J_ zX11_isAhead T (po_X11_isAhead T a b) 0 0 0 [some (vR 111 0), some (vI a), some (vI b)] [] T
  refine j_blx (F := fX11) tb_X11 (nn_ _) bk_X11_isAhead_0 bs_X11_isAhead_0 hz (fun K hK => ?_)
  refine ix_i (by omega) ?_
  intro b1 b1b
  refine ix_i (by omega) ?_
  intro b2 b2b
  refine And.intro (fun c3 => ?_) (fun c3 => ?_)
  · refine hK 35 _ [] T ?_
    refine j_blx (F := fX11) tb_X11 (nn_ _) bk_X11_isAhead_35 bs_X11_isAhead_35 hz (fun K hK => ?_)
    refine hK 40 _ [vI 1] T ?_
    refine j_blx (F := fX11) tb_X11 (nn_ _) bk_X11_isAhead_40 bs_X11_isAhead_40 hz (fun K hK => ?_)
    refine (show po_X11_isAhead T a b T (some (vI 1)) from ?_)
    exact ⟨rfl, _, rfl, by omega⟩
  · refine ix_i (by omega) ?_
    intro b4 b4b
    refine ix_i (by omega) ?_
    intro b5 b5b
    refine And.intro (fun c6 => ?_) (fun c6 => ?_)
    · refine hK 39 _ [] T ?_
      refine j_blx (F := fX11) tb_X11 (nn_ _) bk_X11_isAhead_39 bs_X11_isAhead_39 hz (fun K hK => ?_)
      refine (show po_X11_isAhead T a b T (some (vI 0)) from ?_)
      exact ⟨rfl, _, rfl, by omega⟩
    · refine And.intro (fun c7 => ?_) (fun c7 => ?_)
      · refine hK 39 _ [] T ?_
        refine j_blx (F := fX11) tb_X11 (nn_ _) bk_X11_isAhead_39 bs_X11_isAhead_39 hz (fun K hK => ?_)
        refine (show po_X11_isAhead T a b T (some (vI 0)) from ?_)
        exact ⟨rfl, _, rfl, by omega⟩
      · refine hK 40 _ [vI 1] T ?_
        refine j_blx (F := fX11) tb_X11 (nn_ _) bk_X11_isAhead_40 bs_X11_isAhead_40 hz (fun K hK => ?_)
        refine (show po_X11_isAhead T a b T (some (vI 1)) from ?_)
        exact ⟨rfl, _, rfl, by omega⟩
abbrev cX11_nextMatch : ByteArray := prog_13_method_41_code
def yX11_nextMatch : MethodName := ⟨RX11, "nextMatch", "(III)I"⟩
def zX11_nextMatch : Zm := (RX11, cX11_nextMatch, 7, (some .int), { frames := 1, cells := 0, slots := 0, locals := 22 })
theorem bk_X11_nextMatch_90 : ck_ fX11 (some .int) cX11_nextMatch 90 [.istore 4, .iinc 5 1, .goto 11] 98 = true := qck_r (nn_ _) (by decide +kernel)
theorem bs_X11_nextMatch_90 {P : Zt → Option Zv → Prop} (K : Int → Zl → List Zv → Zt → Prop) : sx_ K P [.istore 4, .iinc 5 1, .goto 11] 98 = x_istore 4 (x_iinc 5 1 (x_goto 11 K)) := ((xe_istore 4).trans (congrArg (x_istore 4) ((xe_iinc 5 1).trans (congrArg (x_iinc 5 1) (xe_goto 11)))))
theorem bk_X11_nextMatch_59 : ck_ fX11 (some .int) cX11_nextMatch 59 [.istore 6, .iload 6, .ifCond .eq 88, .iload 4, .iconst (-1), .if_icmp .eq 83, .aload 0, .iload 5, .iload 4] 77 = true := qck_r (nn_ _) (by decide +kernel)
theorem bs_X11_nextMatch_59 {P : Zt → Option Zv → Prop} (K : Int → Zl → List Zv → Zt → Prop) : sx_ K P [.istore 6, .iload 6, .ifCond .eq 88, .iload 4, .iconst (-1), .if_icmp .eq 83, .aload 0, .iload 5, .iload 4] 77 = x_istore 6 (x_iload 6 (x_ifCond .eq 88 K (x_iload 4 (x_iconst (-1) (x_if_icmp .eq 83 K (x_aload 0 (x_iload 5 (x_iload 4 (K 77))))))))) := ((xe_istore 6).trans (congrArg (x_istore 6) ((xe_iload 6).trans (congrArg (x_iload 6) ((xe_ifCond .eq 88).trans (congrArg (x_ifCond .eq 88 K) ((xe_iload 4).trans (congrArg (x_iload 4) ((xe_iconst (-1)).trans (congrArg (x_iconst (-1)) ((xe_if_icmp .eq 83).trans (congrArg (x_if_icmp .eq 83 K) ((xe_aload 0).trans (congrArg (x_aload 0) ((xe_iload 5).trans (congrArg (x_iload 5) ((xe_iload 4).trans (congrArg (x_iload 4) xe_nil))))))))))))))))))
theorem bk_X11_nextMatch_88 : ck_ fX11 (some .int) cX11_nextMatch 88 [.iload 4] 90 = true := qck_r (nn_ _) (by decide +kernel)
theorem bs_X11_nextMatch_88 {P : Zt → Option Zv → Prop} (K : Int → Zl → List Zv → Zt → Prop) : sx_ K P [.iload 4] 90 = x_iload 4 (K 90) := ((xe_iload 4).trans (congrArg (x_iload 4) xe_nil))
theorem bk_X11_nextMatch_83 : ck_ fX11 (some .int) cX11_nextMatch 83 [.iload 5, .goto 90] 88 = true := qck_r (nn_ _) (by decide +kernel)
theorem bs_X11_nextMatch_83 {P : Zt → Option Zv → Prop} (K : Int → Zl → List Zv → Zt → Prop) : sx_ K P [.iload 5, .goto 90] 88 = x_iload 5 (x_goto 90 K) := ((xe_iload 5).trans (congrArg (x_iload 5) (xe_goto 90)))
set_option maxRecDepth 100000 in
theorem cl_X11_368 : cv_ RX11 368 yX11_isAhead zX11_isAhead 11 2 := ⟨gi_V (lw_b9 7 (by decide +kernel) rfl : Cond.methodLink RX11 368 yX11_isAhead ∈ lw_g) (lw_b9 9 (by decide +kernel) rfl : Cond.instanceMethod yX11_isAhead ∈ lw_g) (lw_sel 21 rfl : Cond.selects yX11_isAhead.cls yX11_isAhead yX11_isAhead ∈ lw_g) (lw_b1 10 (by decide +kernel) rfl : Cond.initialized yX11_isAhead.cls ∈ lw_g) (lw_b9 10 rfl rfl : Cond.code yX11_isAhead cX11_isAhead 3 (some .boolean) ∈ lw_g), ⟨by decide, by decide, by decide +kernel⟩, ⟨_, _, rfl⟩⟩
theorem bk_X11_nextMatch_80 : ck_ fX11 (some .int) cX11_nextMatch 80 [.ifCond .eq 88, .iload 5, .goto 90] 88 = true := qck_r (nn_ _) (by decide +kernel)
theorem bs_X11_nextMatch_80 {P : Zt → Option Zv → Prop} (K : Int → Zl → List Zv → Zt → Prop) : sx_ K P [.ifCond .eq 88, .iload 5, .goto 90] 88 = x_ifCond .eq 88 K (x_iload 5 (x_goto 90 K)) := ((xe_ifCond .eq 88).trans (congrArg (x_ifCond .eq 88 K) ((xe_iload 5).trans (congrArg (x_iload 5) (xe_goto 90)))))
theorem bk_X11_nextMatch_11 : ck_ fX11 (some .int) cX11_nextMatch 11 [.iload 5, .aload 0, .tableswitch 0 11 10 #[], .iload 1, .iaload, .aload 0, .tableswitch 0 11 11 #[], .iload 1, .iaload, .iadd, .if_icmp .ge 98, .iload 2, .iconst (-1), .if_icmp .eq 44, .aload 0, .iload 2, .iload 5] 38 = true := qck_r (nn_ _) (by decide +kernel)
theorem bs_X11_nextMatch_11 {P : Zt → Option Zv → Prop} (K : Int → Zl → List Zv → Zt → Prop) : sx_ K P [.iload 5, .aload 0, .tableswitch 0 11 10 #[], .iload 1, .iaload, .aload 0, .tableswitch 0 11 11 #[], .iload 1, .iaload, .iadd, .if_icmp .ge 98, .iload 2, .iconst (-1), .if_icmp .eq 44, .aload 0, .iload 2, .iload 5] 38 = x_iload 5 (x_aload 0 (x_g1 111 210 (x_iload 1 (x_iaload (x_aload 0 (x_g1 111 211 (x_iload 1 (x_iaload (x_iadd (x_if_icmp .ge 98 K (x_iload 2 (x_iconst (-1) (x_if_icmp .eq 44 K (x_aload 0 (x_iload 2 (x_iload 5 (K 38))))))))))))))))) := ((xe_iload 5).trans (congrArg (x_iload 5) ((xe_aload 0).trans (congrArg (x_aload 0) ((xe_g1 (kk := 111) rfl tl_11_10).trans (congrArg (x_g1 111 210) ((xe_iload 1).trans (congrArg (x_iload 1) ((xe_iaload).trans (congrArg (x_iaload) ((xe_aload 0).trans (congrArg (x_aload 0) ((xe_g1 (kk := 111) rfl tl_11_11).trans (congrArg (x_g1 111 211) ((xe_iload 1).trans (congrArg (x_iload 1) ((xe_iaload).trans (congrArg (x_iaload) ((xe_iadd).trans (congrArg (x_iadd) ((xe_if_icmp .ge 98).trans (congrArg (x_if_icmp .ge 98 K) ((xe_iload 2).trans (congrArg (x_iload 2) ((xe_iconst (-1)).trans (congrArg (x_iconst (-1)) ((xe_if_icmp .eq 44).trans (congrArg (x_if_icmp .eq 44 K) ((xe_aload 0).trans (congrArg (x_aload 0) ((xe_iload 2).trans (congrArg (x_iload 2) ((xe_iload 5).trans (congrArg (x_iload 5) xe_nil))))))))))))))))))))))))))))))))))
theorem bk_X11_nextMatch_98 : ck_ fX11 (some .int) cX11_nextMatch 98 [.iload 4, .ireturn] 101 = true := qck_r (nn_ _) (by decide +kernel)
theorem bs_X11_nextMatch_98 {P : Zt → Option Zv → Prop} (K : Int → Zl → List Zv → Zt → Prop) : sx_ K P [.iload 4, .ireturn] 101 = x_iload 4 (x_ireturn P) := ((xe_iload 4).trans (congrArg (x_iload 4) (xe_ireturn)))
theorem bk_X11_nextMatch_44 : ck_ fX11 (some .int) cX11_nextMatch 44 [.aload 0, .iload 5, .iload 3] 48 = true := qck_r (nn_ _) (by decide +kernel)
theorem bs_X11_nextMatch_44 {P : Zt → Option Zv → Prop} (K : Int → Zl → List Zv → Zt → Prop) : sx_ K P [.aload 0, .iload 5, .iload 3] 48 = x_aload 0 (x_iload 5 (x_iload 3 (K 48))) := ((xe_aload 0).trans (congrArg (x_aload 0) ((xe_iload 5).trans (congrArg (x_iload 5) ((xe_iload 3).trans (congrArg (x_iload 3) xe_nil))))))
theorem bk_X11_nextMatch_51 : ck_ fX11 (some .int) cX11_nextMatch 51 [.ifCond .eq 58, .iconst 1, .goto 59] 58 = true := qck_r (nn_ _) (by decide +kernel)
theorem bs_X11_nextMatch_51 {P : Zt → Option Zv → Prop} (K : Int → Zl → List Zv → Zt → Prop) : sx_ K P [.ifCond .eq 58, .iconst 1, .goto 59] 58 = x_ifCond .eq 58 K (x_iconst 1 (x_goto 59 K)) := ((xe_ifCond .eq 58).trans (congrArg (x_ifCond .eq 58 K) ((xe_iconst 1).trans (congrArg (x_iconst 1) (xe_goto 59)))))
theorem bk_X11_nextMatch_58 : ck_ fX11 (some .int) cX11_nextMatch 58 [.iconst 0] 59 = true := qck_r (nn_ _) (by decide +kernel)
theorem bs_X11_nextMatch_58 {P : Zt → Option Zv → Prop} (K : Int → Zl → List Zv → Zt → Prop) : sx_ K P [.iconst 0] 59 = x_iconst 0 (K 59) := ((xe_iconst 0).trans (congrArg (x_iconst 0) xe_nil))
theorem bk_X11_nextMatch_41 : ck_ fX11 (some .int) cX11_nextMatch 41 [.ifCond .eq 58, .aload 0, .iload 5, .iload 3] 48 = true := qck_r (nn_ _) (by decide +kernel)
theorem bs_X11_nextMatch_41 {P : Zt → Option Zv → Prop} (K : Int → Zl → List Zv → Zt → Prop) : sx_ K P [.ifCond .eq 58, .aload 0, .iload 5, .iload 3] 48 = x_ifCond .eq 58 K (x_aload 0 (x_iload 5 (x_iload 3 (K 48)))) := ((xe_ifCond .eq 58).trans (congrArg (x_ifCond .eq 58 K) ((xe_aload 0).trans (congrArg (x_aload 0) ((xe_iload 5).trans (congrArg (x_iload 5) ((xe_iload 3).trans (congrArg (x_iload 3) xe_nil))))))))
theorem bk_X11_nextMatch_0 : ck_ fX11 (some .int) cX11_nextMatch 0 [.iconst (-1), .istore 4, .aload 0, .tableswitch 0 11 10 #[], .iload 1, .iaload, .istore 5] 11 = true := qck_r (nn_ _) (by decide +kernel)
theorem bs_X11_nextMatch_0 {P : Zt → Option Zv → Prop} (K : Int → Zl → List Zv → Zt → Prop) : sx_ K P [.iconst (-1), .istore 4, .aload 0, .tableswitch 0 11 10 #[], .iload 1, .iaload, .istore 5] 11 = x_iconst (-1) (x_istore 4 (x_aload 0 (x_g1 111 210 (x_iload 1 (x_iaload (x_istore 5 (K 11))))))) := ((xe_iconst (-1)).trans (congrArg (x_iconst (-1)) ((xe_istore 4).trans (congrArg (x_istore 4) ((xe_aload 0).trans (congrArg (x_aload 0) ((xe_g1 (kk := 111) rfl tl_11_10).trans (congrArg (x_g1 111 210) ((xe_iload 1).trans (congrArg (x_iload 1) ((xe_iaload).trans (congrArg (x_iaload) ((xe_istore 5).trans (congrArg (x_istore 5) xe_nil))))))))))))))
abbrev po_X11_nextMatch (T : Zt) (c be ah : Int) : Zt → Option Zv → Prop := fun T' r => T = T' ∧ ∃ x : Int, r = some (vI x) ∧ (x = -1 ∨ (T 210 0 c ≤ x ∧ x < (T 210 0 c + T 211 0 c) ∧ (be = -1 ∨ T 234 0 be < T 234 0 x ∨ (T 234 0 be = T 234 0 x ∧ be < x))))
set_option maxHeartbeats 4000000 in
theorem ct_X11_nextMatch {T : Zt} {c be ah : Int} (h1 : 0 ≤ c ∧ c < 4) (h2 : (T 210 0 c + T 211 0 c) ≤ 400) (h3 : -1 ≤ be ∧ be < 400) (h4 : 0 ≤ ah ∧ ah < 400) : Ct_ yX11_nextMatch zX11_nextMatch T [vR 111 0, vI c, vI be, vI ah] (po_X11_nextMatch T c be ah) := by
  refine ct_of pn_11 rfl rfl (Nat.le_of_ble_eq_true rfl) (fun hT hav => ?_)
  have hr_c : -2147483648 ≤ c ∧ c ≤ 2147483647 := hav (vI c) (by simp)
  have hr_be : -2147483648 ≤ be ∧ be ≤ 2147483647 := hav (vI be) (by simp)
  have hr_ah : -2147483648 ≤ ah ∧ ah ≤ 2147483647 := hav (vI ah) (by simp)
  have hz : zX11_nextMatch.2.2.2.1 = some .boolean → ∀ (T' : Zt) (x : Int), po_X11_nextMatch T c be ah T' (some (vI x)) → 0 ≤ x ∧ x ≤ 1 := fun h => by cases h
  show J_ zX11_nextMatch T (po_X11_nextMatch T c be ah) 0 0 0 [some (vR 111 0), some (vI c), some (vI be), some (vI ah), none, none, none] [] T
  have c_11 : ∀ (nn : Nat) (bs : Int) (m : Int), ((400 - m).toNat) ≤ nn → (T 210 0 c ≤ m ∧ 0 ≤ m ∧ -1 ≤ bs ∧ bs < 400) → (bs = -1 ∨ (T 210 0 c ≤ bs ∧ bs < (T 210 0 c + T 211 0 c) ∧ (be = -1 ∨ T 234 0 be < T 234 0 bs ∨ (T 234 0 be = T 234 0 bs ∧ be < bs)))) → J_ zX11_nextMatch T (po_X11_nextMatch T c be ah) 0 0 11 [some (vR 111 0), some (vI c), some (vI be), some (vI ah), some (vI bs), some (vI m), none] [] T := by
    intro nn
    induction nn using Nat.strongRecOn with
    | _ nn ih_11 =>
      intro bs m hm_11 i1 i2
      have c_90 : ∀ (w : Int), (m < (T 210 0 c + T 211 0 c) ∧ -1 ≤ w ∧ w < 400) → (w = -1 ∨ (T 210 0 c ≤ w ∧ w < (T 210 0 c + T 211 0 c) ∧ (be = -1 ∨ T 234 0 be < T 234 0 w ∨ (T 234 0 be = T 234 0 w ∧ be < w)))) → J_ zX11_nextMatch T (po_X11_nextMatch T c be ah) 0 0 90 [some (vR 111 0), some (vI c), some (vI be), some (vI ah), some (vI bs), some (vI m), none] [vI w] T := by
        intro w w0 w1
        refine j_blx (F := fX11) tb_X11 (nn_ _) bk_X11_nextMatch_90 bs_X11_nextMatch_90 hz (fun K hK => ?_)
        refine rg_i (by omega) ?_
        refine hK 11 [some (vR 111 0), some (vI c), some (vI be), some (vI ah), some (vI w), some (vI (m + 1)), none] [] T ?_
        refine ih_11 _ ?_ w (m + 1) (Nat.le_refl _) ?_ ?_
        · omega
        · omega
        · omega
      have c_59 : ∀ (v : Int), (m < (T 210 0 c + T 211 0 c) ∧ 0 ≤ v ∧ v ≤ 1) → (v = 1 → be = -1 ∨ T 234 0 be < T 234 0 m ∨ (T 234 0 be = T 234 0 m ∧ be < m)) → J_ zX11_nextMatch T (po_X11_nextMatch T c be ah) 0 0 59 [some (vR 111 0), some (vI c), some (vI be), some (vI ah), some (vI bs), some (vI m), none] [vI v] T := by
        intro v v0 v1
        refine j_blx (F := fX11) tb_X11 (nn_ _) bk_X11_nextMatch_59 bs_X11_nextMatch_59 hz (fun K hK => ?_)
        refine And.intro (fun c1 => ?_) (fun c1 => ?_)
        · refine hK 88 [some (vR 111 0), some (vI c), some (vI be), some (vI ah), some (vI bs), some (vI m), some (vI v)] [] T ?_
          refine j_blx (F := fX11) tb_X11 (nn_ _) bk_X11_nextMatch_88 bs_X11_nextMatch_88 hz (fun K hK => ?_)
          refine hK 90 _ [vI bs] T ?_
          refine j_drop [some (vR 111 0), some (vI c), some (vI be), some (vI ah), some (vI bs), some (vI m), none] (fun k v hk => ?_) rfl ?_
          · match k, hk with
            | 0, hk => exact hk
            | 1, hk => exact hk
            | 2, hk => exact hk
            | 3, hk => exact hk
            | 4, hk => exact hk
            | 5, hk => exact hk
            | 6, hk => cases hk
            | k + 7, hk => cases hk
          refine c_90 bs ?_ ?_
          · omega
          · omega
        · refine And.intro (fun c2 => ?_) (fun c2 => ?_)
          · refine hK 83 [some (vR 111 0), some (vI c), some (vI be), some (vI ah), some (vI bs), some (vI m), some (vI v)] [] T ?_
            refine j_blx (F := fX11) tb_X11 (nn_ _) bk_X11_nextMatch_83 bs_X11_nextMatch_83 hz (fun K hK => ?_)
            refine hK 90 _ [vI m] T ?_
            refine j_drop [some (vR 111 0), some (vI c), some (vI be), some (vI ah), some (vI bs), some (vI m), none] (fun k v hk => ?_) rfl ?_
            · match k, hk with
              | 0, hk => exact hk
              | 1, hk => exact hk
              | 2, hk => exact hk
              | 3, hk => exact hk
              | 4, hk => exact hk
              | 5, hk => exact hk
              | 6, hk => cases hk
              | k + 7, hk => cases hk
            refine c_90 m ?_ ?_
            · omega
            · omega
          · refine hK 77 [some (vR 111 0), some (vI c), some (vI be), some (vI ah), some (vI bs), some (vI m), some (vI v)] [vI bs, vI m, vR 111 0] T ?_
            refine j_callV (y := yX11_isAhead) (Yc := zX11_isAhead) (rest := []) [vI m, vI bs] (ct_X11_isAhead (T := T) (by omega) (by omega)) cl_X11_368 (qd_c (by decide +kernel)) (nn_ _) rfl (rf_of rfl) (Nat.le_of_ble_eq_true rfl) (Nat.le_of_ble_eq_true rfl) (Nat.le_of_ble_eq_true rfl) rfl ?_
            rintro _ _ ⟨rfl, x3, rfl, hx3⟩
            show J_ zX11_nextMatch T (po_X11_nextMatch T c be ah) 0 0 80 _ [vI x3] T
            refine j_blx (F := fX11) tb_X11 (nn_ _) bk_X11_nextMatch_80 bs_X11_nextMatch_80 hz (fun K hK => ?_)
            refine And.intro (fun c4 => ?_) (fun c4 => ?_)
            · refine hK 88 _ [] T ?_
              refine j_blx (F := fX11) tb_X11 (nn_ _) bk_X11_nextMatch_88 bs_X11_nextMatch_88 hz (fun K hK => ?_)
              refine hK 90 _ [vI bs] T ?_
              refine j_drop [some (vR 111 0), some (vI c), some (vI be), some (vI ah), some (vI bs), some (vI m), none] (fun k v hk => ?_) rfl ?_
              · match k, hk with
                | 0, hk => exact hk
                | 1, hk => exact hk
                | 2, hk => exact hk
                | 3, hk => exact hk
                | 4, hk => exact hk
                | 5, hk => exact hk
                | 6, hk => cases hk
                | k + 7, hk => cases hk
              refine c_90 bs ?_ ?_
              · omega
              · omega
            · refine hK 90 [some (vR 111 0), some (vI c), some (vI be), some (vI ah), some (vI bs), some (vI m), some (vI v)] [vI m] T ?_
              refine j_drop [some (vR 111 0), some (vI c), some (vI be), some (vI ah), some (vI bs), some (vI m), none] (fun k v hk => ?_) rfl ?_
              · match k, hk with
                | 0, hk => exact hk
                | 1, hk => exact hk
                | 2, hk => exact hk
                | 3, hk => exact hk
                | 4, hk => exact hk
                | 5, hk => exact hk
                | 6, hk => cases hk
                | k + 7, hk => cases hk
              refine c_90 m ?_ ?_
              · omega
              · omega
      refine j_blx (F := fX11) tb_X11 (nn_ _) bk_X11_nextMatch_11 bs_X11_nextMatch_11 hz (fun K hK => ?_)
      refine ix_i (by omega) ?_
      intro b5 b5b
      refine ix_i (by omega) ?_
      intro b6 b6b
      refine rg_i (by omega) ?_
      refine And.intro (fun c7 => ?_) (fun c7 => ?_)
      · refine hK 98 _ [] T ?_
        refine j_blx (F := fX11) tb_X11 (nn_ _) bk_X11_nextMatch_98 bs_X11_nextMatch_98 hz (fun K hK => ?_)
        refine (show po_X11_nextMatch T c be ah T (some (vI bs)) from ?_)
        exact ⟨rfl, _, rfl, by omega⟩
      · refine And.intro (fun c8 => ?_) (fun c8 => ?_)
        · refine hK 44 _ [] T ?_
          refine j_blx (F := fX11) tb_X11 (nn_ _) bk_X11_nextMatch_44 bs_X11_nextMatch_44 hz (fun K hK => ?_)
          refine hK 48 _ [vI ah, vI m, vR 111 0] T ?_
          refine j_callV (y := yX11_isAhead) (Yc := zX11_isAhead) (rest := []) [vI m, vI ah] (ct_X11_isAhead (T := T) (by omega) (by omega)) cl_X11_368 (qd_c (by decide +kernel)) (nn_ _) rfl (rf_of rfl) (Nat.le_of_ble_eq_true rfl) (Nat.le_of_ble_eq_true rfl) (Nat.le_of_ble_eq_true rfl) rfl ?_
          rintro _ _ ⟨rfl, x9, rfl, hx9⟩
          show J_ zX11_nextMatch T (po_X11_nextMatch T c be ah) 0 0 51 _ [vI x9] T
          refine j_blx (F := fX11) tb_X11 (nn_ _) bk_X11_nextMatch_51 bs_X11_nextMatch_51 hz (fun K hK => ?_)
          refine And.intro (fun c10 => ?_) (fun c10 => ?_)
          · refine hK 58 _ [] T ?_
            refine j_blx (F := fX11) tb_X11 (nn_ _) bk_X11_nextMatch_58 bs_X11_nextMatch_58 hz (fun K hK => ?_)
            refine hK 59 _ [vI 0] T ?_
            refine c_59 0 ?_ ?_
            · omega
            · omega
          · refine hK 59 _ [vI 1] T ?_
            refine c_59 1 ?_ ?_
            · omega
            · omega
        · refine hK 38 _ [vI m, vI be, vR 111 0] T ?_
          refine j_callV (y := yX11_isAhead) (Yc := zX11_isAhead) (rest := []) [vI be, vI m] (ct_X11_isAhead (T := T) (by omega) (by omega)) cl_X11_368 (qd_c (by decide +kernel)) (nn_ _) rfl (rf_of rfl) (Nat.le_of_ble_eq_true rfl) (Nat.le_of_ble_eq_true rfl) (Nat.le_of_ble_eq_true rfl) rfl ?_
          rintro _ _ ⟨rfl, x11, rfl, hx11⟩
          show J_ zX11_nextMatch T (po_X11_nextMatch T c be ah) 0 0 41 _ [vI x11] T
          refine j_blx (F := fX11) tb_X11 (nn_ _) bk_X11_nextMatch_41 bs_X11_nextMatch_41 hz (fun K hK => ?_)
          refine And.intro (fun c12 => ?_) (fun c12 => ?_)
          · refine hK 58 _ [] T ?_
            refine j_blx (F := fX11) tb_X11 (nn_ _) bk_X11_nextMatch_58 bs_X11_nextMatch_58 hz (fun K hK => ?_)
            refine hK 59 _ [vI 0] T ?_
            refine c_59 0 ?_ ?_
            · omega
            · omega
          · refine hK 48 _ [vI ah, vI m, vR 111 0] T ?_
            refine j_callV (y := yX11_isAhead) (Yc := zX11_isAhead) (rest := []) [vI m, vI ah] (ct_X11_isAhead (T := T) (by omega) (by omega)) cl_X11_368 (qd_c (by decide +kernel)) (nn_ _) rfl (rf_of rfl) (Nat.le_of_ble_eq_true rfl) (Nat.le_of_ble_eq_true rfl) (Nat.le_of_ble_eq_true rfl) rfl ?_
            rintro _ _ ⟨rfl, x13, rfl, hx13⟩
            show J_ zX11_nextMatch T (po_X11_nextMatch T c be ah) 0 0 51 _ [vI x13] T
            refine j_blx (F := fX11) tb_X11 (nn_ _) bk_X11_nextMatch_51 bs_X11_nextMatch_51 hz (fun K hK => ?_)
            refine And.intro (fun c14 => ?_) (fun c14 => ?_)
            · refine hK 58 _ [] T ?_
              refine j_blx (F := fX11) tb_X11 (nn_ _) bk_X11_nextMatch_58 bs_X11_nextMatch_58 hz (fun K hK => ?_)
              refine hK 59 _ [vI 0] T ?_
              refine c_59 0 ?_ ?_
              · omega
              · omega
            · refine hK 59 _ [vI 1] T ?_
              refine c_59 1 ?_ ?_
              · omega
              · omega
  refine j_blx (F := fX11) tb_X11 (nn_ _) bk_X11_nextMatch_0 bs_X11_nextMatch_0 hz (fun K hK => ?_)
  refine ix_i (by omega) ?_
  intro b15 b15b
  refine hK 11 [some (vR 111 0), some (vI c), some (vI be), some (vI ah), some (vI (-1)), some (vI (T 210 0 c)), none] [] T ?_
  refine c_11 _ (-1) (T 210 0 c) (Nat.le_refl _) ?_ ?_
  · omega
  · omega
def MC_ (T : Zt) : Prop := ∀ m : Int, 0 ≤ m → m < T 111 0 29 → T 230 0 m < T 111 0 6
theorem MC__f {ws : List (Nat × List Int)} {T T' : Zt} (h : MC_ T) (f : fr_ ws T T') (w : (∀ j, fw_ ws 230 j = false) ∧ fw_ ws 111 29 = false ∧ fw_ ws 111 6 = false ∧ True) : MC_ T' := by
  have e0 : ∀ i j, T' 230 i j = T 230 i j := fun i j => f 230 i j (w.1 j)
  have e1 : ∀ i, T' 111 i 29 = T 111 i 29 := fun i => f 111 i 29 w.2.1
  have e2 : ∀ i, T' 111 i 6 = T 111 i 6 := fun i => f 111 i 6 w.2.2.1
  simp only [MC_, e0, e1, e2] at h ⊢
  exact h

