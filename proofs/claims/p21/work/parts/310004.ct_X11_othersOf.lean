abbrev cX11_othersOf : ByteArray := prog_13_method_99_code
def yX11_othersOf : MethodName := ⟨RX11, "othersOf", "(II)I"⟩
def zX11_othersOf : Zm := (RX11, cX11_othersOf, 5, (some .int), { frames := 0, cells := 0, slots := 0, locals := 0 })
theorem bk_X11_othersOf_5 : ck_ fX11 (some .int) cX11_othersOf 5 [.iload 4, .aload 0, .tableswitch 0 11 8 #[], .iload 1, .iaload, .if_icmp .ge 59, .aload 0, .tableswitch 0 11 7 #[], .iconst 12, .iload 1, .imul, .iload 4, .iadd, .iaload, .iload 2, .if_icmp .ne 36, .iload 3, .goto 52] 36 = true := qck_r (nn_ _) (by decide +kernel)
theorem bs_X11_othersOf_5 {P : Zt → Option Zv → Prop} (K : Int → Zl → List Zv → Zt → Prop) : sx_ K P [.iload 4, .aload 0, .tableswitch 0 11 8 #[], .iload 1, .iaload, .if_icmp .ge 59, .aload 0, .tableswitch 0 11 7 #[], .iconst 12, .iload 1, .imul, .iload 4, .iadd, .iaload, .iload 2, .if_icmp .ne 36, .iload 3, .goto 52] 36 = x_iload 4 (x_aload 0 (x_g1 111 208 (x_iload 1 (x_iaload (x_if_icmp .ge 59 K (x_aload 0 (x_g1 111 207 (x_iconst 12 (x_iload 1 (x_imul (x_iload 4 (x_iadd (x_iaload (x_iload 2 (x_if_icmp .ne 36 K (x_iload 3 (x_goto 52 K))))))))))))))))) := ((xe_iload 4).trans (congrArg (x_iload 4) ((xe_aload 0).trans (congrArg (x_aload 0) ((xe_g1 (kk := 111) rfl tl_11_8).trans (congrArg (x_g1 111 208) ((xe_iload 1).trans (congrArg (x_iload 1) ((xe_iaload).trans (congrArg (x_iaload) ((xe_if_icmp .ge 59).trans (congrArg (x_if_icmp .ge 59 K) ((xe_aload 0).trans (congrArg (x_aload 0) ((xe_g1 (kk := 111) rfl tl_11_7).trans (congrArg (x_g1 111 207) ((xe_iconst 12).trans (congrArg (x_iconst 12) ((xe_iload 1).trans (congrArg (x_iload 1) ((xe_imul).trans (congrArg (x_imul) ((xe_iload 4).trans (congrArg (x_iload 4) ((xe_iadd).trans (congrArg (x_iadd) ((xe_iaload).trans (congrArg (x_iaload) ((xe_iload 2).trans (congrArg (x_iload 2) ((xe_if_icmp .ne 36).trans (congrArg (x_if_icmp .ne 36 K) ((xe_iload 3).trans (congrArg (x_iload 3) (xe_goto 52)))))))))))))))))))))))))))))))))))
theorem bk_X11_othersOf_59 : ck_ fX11 (some .int) cX11_othersOf 59 [.iload 3, .ireturn] 61 = true := qck_r (nn_ _) (by decide +kernel)
theorem bs_X11_othersOf_59 {P : Zt → Option Zv → Prop} (K : Int → Zl → List Zv → Zt → Prop) : sx_ K P [.iload 3, .ireturn] 61 = x_iload 3 (x_ireturn P) := ((xe_iload 3).trans (congrArg (x_iload 3) (xe_ireturn)))
theorem bk_X11_othersOf_36 : ck_ fX11 (some .int) cX11_othersOf 36 [.iload 3, .iconst 1, .aload 0, .tableswitch 0 11 7 #[], .iconst 12, .iload 1, .imul, .iload 4, .iadd, .iaload, .ishl, .ior, .istore 3, .iinc 4 1, .goto 5] 59 = true := qck_r (nn_ _) (by decide +kernel)
theorem bs_X11_othersOf_36 {P : Zt → Option Zv → Prop} (K : Int → Zl → List Zv → Zt → Prop) : sx_ K P [.iload 3, .iconst 1, .aload 0, .tableswitch 0 11 7 #[], .iconst 12, .iload 1, .imul, .iload 4, .iadd, .iaload, .ishl, .ior, .istore 3, .iinc 4 1, .goto 5] 59 = x_iload 3 (x_iconst 1 (x_aload 0 (x_g1 111 207 (x_iconst 12 (x_iload 1 (x_imul (x_iload 4 (x_iadd (x_iaload (x_ishl (x_ior (x_istore 3 (x_iinc 4 1 (x_goto 5 K)))))))))))))) := ((xe_iload 3).trans (congrArg (x_iload 3) ((xe_iconst 1).trans (congrArg (x_iconst 1) ((xe_aload 0).trans (congrArg (x_aload 0) ((xe_g1 (kk := 111) rfl tl_11_7).trans (congrArg (x_g1 111 207) ((xe_iconst 12).trans (congrArg (x_iconst 12) ((xe_iload 1).trans (congrArg (x_iload 1) ((xe_imul).trans (congrArg (x_imul) ((xe_iload 4).trans (congrArg (x_iload 4) ((xe_iadd).trans (congrArg (x_iadd) ((xe_iaload).trans (congrArg (x_iaload) ((xe_ishl).trans (congrArg (x_ishl) ((xe_ior).trans (congrArg (x_ior) ((xe_istore 3).trans (congrArg (x_istore 3) ((xe_iinc 4 1).trans (congrArg (x_iinc 4 1) (xe_goto 5)))))))))))))))))))))))))))))
theorem bk_X11_othersOf_52 : ck_ fX11 (some .int) cX11_othersOf 52 [.istore 3, .iinc 4 1, .goto 5] 59 = true := qck_r (nn_ _) (by decide +kernel)
theorem bs_X11_othersOf_52 {P : Zt → Option Zv → Prop} (K : Int → Zl → List Zv → Zt → Prop) : sx_ K P [.istore 3, .iinc 4 1, .goto 5] 59 = x_istore 3 (x_iinc 4 1 (x_goto 5 K)) := ((xe_istore 3).trans (congrArg (x_istore 3) ((xe_iinc 4 1).trans (congrArg (x_iinc 4 1) (xe_goto 5)))))
theorem bk_X11_othersOf_0 : ck_ fX11 (some .int) cX11_othersOf 0 [.iconst 0, .istore 3, .iconst 0, .istore 4] 5 = true := qck_r (nn_ _) (by decide +kernel)
theorem bs_X11_othersOf_0 {P : Zt → Option Zv → Prop} (K : Int → Zl → List Zv → Zt → Prop) : sx_ K P [.iconst 0, .istore 3, .iconst 0, .istore 4] 5 = x_iconst 0 (x_istore 3 (x_iconst 0 (x_istore 4 (K 5)))) := ((xe_iconst 0).trans (congrArg (x_iconst 0) ((xe_istore 3).trans (congrArg (x_istore 3) ((xe_iconst 0).trans (congrArg (x_iconst 0) ((xe_istore 4).trans (congrArg (x_istore 4) xe_nil))))))))
abbrev po_X11_othersOf (T : Zt) (c cl : Int) : Zt → Option Zv → Prop := fun T' r => T = T' ∧ ∃ x : Int, r = some (vI x) ∧ (0 ≤ x ∧ x ≤ 4095)
set_option maxHeartbeats 4000000 in
theorem ct_X11_othersOf {T : Zt} {c cl : Int} (h1 : 0 ≤ c ∧ c < 4) : Ct_ yX11_othersOf zX11_othersOf T [vR 111 0, vI c, vI cl] (po_X11_othersOf T c cl) := by
  refine ct_of pn_11 rfl rfl (Nat.le_of_ble_eq_true rfl) (fun hT hav => ?_)
  have hr_c : -2147483648 ≤ c ∧ c ≤ 2147483647 := hav (vI c) (List.mem_cons_of_mem _ List.mem_cons_self)
  have hr_cl : -2147483648 ≤ cl ∧ cl ≤ 2147483647 := hav (vI cl) (List.mem_cons_of_mem _ (List.mem_cons_of_mem _ List.mem_cons_self))
  have hz : zX11_othersOf.2.2.2.1 = some .boolean → ∀ (T' : Zt) (x : Int), po_X11_othersOf T c cl T' (some (vI x)) → 0 ≤ x ∧ x ≤ 1 := fun h => by cases h
  show J_ zX11_othersOf T (po_X11_othersOf T c cl) 0 0 0 [some (vR 111 0), some (vI c), some (vI cl), none, none] [] T
  have c_5 : ∀ (nn : Nat) (u : Int) (i : Int), ((12 - i).toNat) ≤ nn → (0 ≤ i ∧ 0 ≤ u ∧ u ≤ 4095) → J_ zX11_othersOf T (po_X11_othersOf T c cl) 0 0 5 [some (vR 111 0), some (vI c), some (vI cl), some (vI u), some (vI i)] [] T := by
    intro nn
    induction nn using Nat.strongRecOn with
    | _ nn ih_5 =>
      intro u i hm_5 i1
      replace hm_5 := fun (_ : Unit) => hm_5
      refine j_blx (F := fX11) tb_X11 (nn_ _) bk_X11_othersOf_5 bs_X11_othersOf_5 hz (fun K hK => ?_)
      refine ix_i (by omega) ?_
      intro b1 b1b
      refine And.intro (fun c2 => ?_) (fun c2 => ?_)
      · refine hK 59 _ [] T ?_
        refine j_blx (F := fX11) tb_X11 (nn_ _) bk_X11_othersOf_59 bs_X11_othersOf_59 hz (fun K hK => ?_)
        refine (show po_X11_othersOf T c cl T (some (vI u)) from ?_)
        exact ⟨rfl, _, rfl, by omega⟩
      · refine rg_i (by omega) ?_
        refine rg_i (by omega) ?_
        refine ix_i (by omega) ?_
        intro b3 b3b
        refine And.intro (fun c4 => ?_) (fun c4 => ?_)
        · refine hK 36 _ [] T ?_
          refine j_blx (F := fX11) tb_X11 (nn_ _) bk_X11_othersOf_36 bs_X11_othersOf_36 hz (fun K hK => ?_)
          refine rg_i (by omega) ?_
          refine rg_i (by omega) ?_
          refine ix_i (by omega) ?_
          intro b5 b5b
          intro w6 w6b
          intro w7 w7b
          have ob8 : 0 ≤ or_ u (sl_ 1 (T 207 0 ((12 * c) + i))) ∧ or_ u (sl_ 1 (T 207 0 ((12 * c) + i))) ≤ 4095 := or_b (by omega) (sl_b (by omega))
          refine rg_i (by omega) ?_
          refine hK 5 [some (vR 111 0), some (vI c), some (vI cl), some (vI (or_ u (sl_ 1 (T 207 0 ((12 * c) + i))))), some (vI (i + 1))] [] T ?_
          refine ih_5 _ ?_ (or_ u (sl_ 1 (T 207 0 ((12 * c) + i)))) (i + 1) (Nat.le_refl _) ?_
          · have hm_5 := hm_5 (); omega
          · omega
        · refine hK 52 [some (vR 111 0), some (vI c), some (vI cl), some (vI u), some (vI i)] [vI u] T ?_
          refine j_blx (F := fX11) tb_X11 (nn_ _) bk_X11_othersOf_52 bs_X11_othersOf_52 hz (fun K hK => ?_)
          refine rg_i (by omega) ?_
          refine hK 5 [some (vR 111 0), some (vI c), some (vI cl), some (vI u), some (vI (i + 1))] [] T ?_
          refine ih_5 _ ?_ u (i + 1) (Nat.le_refl _) ?_
          · have hm_5 := hm_5 (); omega
          · omega
  refine j_blx (F := fX11) tb_X11 (nn_ _) bk_X11_othersOf_0 bs_X11_othersOf_0 hz (fun K hK => ?_)
  refine hK 5 [some (vR 111 0), some (vI c), some (vI cl), some (vI 0), some (vI 0)] [] T ?_
  refine c_5 _ 0 0 (Nat.le_refl _) ?_
  · omega
