def BB_ (T : Zt) (b : Int) : Prop := ∀ k, 0 ≤ k → k < 144 → 0 ≤ T 294 0 k ∧ T 294 0 k ≤ b
theorem bb_u {T T1 : Zt} {b i v : Int} (h : BB_ T b) (e : T1 = up_ T 294 0 i v) (hv : 0 ≤ v ∧ v ≤ b + 1) : BB_ T1 (b + 1) := fun j a c => by
  by_cases z : j = i
  · rw [z, up_f e]; exact hv
  · rw [up_g e (fun q => z q.2.2)]
    have := h j a c
    omega
theorem bb_m {T : Zt} {b d : Int} (h : BB_ T b) (e : b ≤ d) : BB_ T d := fun j a c => by
  have := h j a c
  omega
abbrev cX11_layBetween : ByteArray := prog_13_method_100_code
def yX11_layBetween : MethodName := ⟨RX11, "layBetween", "(II)V"⟩
def zX11_layBetween : Zm := (RX11, cX11_layBetween, 4, none, { frames := 1, cells := 0, slots := 0, locals := 21 })
theorem bk_X11_layBetween_29 : ck_ fX11 none cX11_layBetween 29 [.iload 3, .aload 0, .tableswitch 0 11 10 #[], .iload 1, .iaload, .aload 0, .tableswitch 0 11 11 #[], .iload 1, .iaload, .iadd, .if_icmp .ge 130, .aload 0, .iload 3] 48 = true := qck_r (nn_ _) (by decide +kernel)
theorem bs_X11_layBetween_29 {P : Zt → Option Zv → Prop} (K : Int → Zl → List Zv → Zt → Prop) : sx_ K P [.iload 3, .aload 0, .tableswitch 0 11 10 #[], .iload 1, .iaload, .aload 0, .tableswitch 0 11 11 #[], .iload 1, .iaload, .iadd, .if_icmp .ge 130, .aload 0, .iload 3] 48 = x_iload 3 (x_aload 0 (x_g1 111 210 (x_iload 1 (x_iaload (x_aload 0 (x_g1 111 211 (x_iload 1 (x_iaload (x_iadd (x_if_icmp .ge 130 K (x_aload 0 (x_iload 3 (K 48))))))))))))) := ((xe_iload 3).trans (congrArg (x_iload 3) ((xe_aload 0).trans (congrArg (x_aload 0) ((xe_g1 (kk := 111) rfl tl_11_10).trans (congrArg (x_g1 111 210) ((xe_iload 1).trans (congrArg (x_iload 1) ((xe_iaload).trans (congrArg (x_iaload) ((xe_aload 0).trans (congrArg (x_aload 0) ((xe_g1 (kk := 111) rfl tl_11_11).trans (congrArg (x_g1 111 211) ((xe_iload 1).trans (congrArg (x_iload 1) ((xe_iaload).trans (congrArg (x_iaload) ((xe_iadd).trans (congrArg (x_iadd) ((xe_if_icmp .ge 130).trans (congrArg (x_if_icmp .ge 130 K) ((xe_aload 0).trans (congrArg (x_aload 0) ((xe_iload 3).trans (congrArg (x_iload 3) xe_nil))))))))))))))))))))))))))
theorem bk_X11_layBetween_130 : ck_ fX11 none cX11_layBetween 130 [.return_] 131 = true := qck_r (nn_ _) (by decide +kernel)
theorem bs_X11_layBetween_130 {P : Zt → Option Zv → Prop} (K : Int → Zl → List Zv → Zt → Prop) : sx_ K P [.return_] 131 = x_return_ P := (xe_return_)
theorem bk_X11_layBetween_51 : ck_ fX11 none cX11_layBetween 51 [.ifCond .eq 124, .aload 0, .tableswitch 0 11 32 #[], .iload 3, .iaload, .iload 2, .if_icmp .eq 124, .aload 0, .tableswitch 0 11 33 #[], .iload 3, .iaload, .iload 2, .if_icmp .eq 124, .aload 0, .tableswitch 0 11 94 #[], .iconst 12, .aload 0, .tableswitch 0 11 32 #[], .iload 3, .iaload, .imul, .aload 0, .tableswitch 0 11 33 #[], .iload 3, .iaload, .iadd, .dup2, .iaload, .iconst 1, .iadd, .iastore, .aload 0, .tableswitch 0 11 94 #[], .iconst 12, .aload 0, .tableswitch 0 11 33 #[], .iload 3, .iaload, .imul, .aload 0, .tableswitch 0 11 32 #[], .iload 3, .iaload, .iadd, .dup2, .iaload, .iconst 1, .iadd, .iastore, .iinc 3 1, .goto 29] 130 = true := qck_r (nn_ _) (by decide +kernel)
theorem bs_X11_layBetween_51 {P : Zt → Option Zv → Prop} (K : Int → Zl → List Zv → Zt → Prop) : sx_ K P [.ifCond .eq 124, .aload 0, .tableswitch 0 11 32 #[], .iload 3, .iaload, .iload 2, .if_icmp .eq 124, .aload 0, .tableswitch 0 11 33 #[], .iload 3, .iaload, .iload 2, .if_icmp .eq 124, .aload 0, .tableswitch 0 11 94 #[], .iconst 12, .aload 0, .tableswitch 0 11 32 #[], .iload 3, .iaload, .imul, .aload 0, .tableswitch 0 11 33 #[], .iload 3, .iaload, .iadd, .dup2, .iaload, .iconst 1, .iadd, .iastore, .aload 0, .tableswitch 0 11 94 #[], .iconst 12, .aload 0, .tableswitch 0 11 33 #[], .iload 3, .iaload, .imul, .aload 0, .tableswitch 0 11 32 #[], .iload 3, .iaload, .iadd, .dup2, .iaload, .iconst 1, .iadd, .iastore, .iinc 3 1, .goto 29] 130 = x_ifCond .eq 124 K (x_aload 0 (x_g1 111 232 (x_iload 3 (x_iaload (x_iload 2 (x_if_icmp .eq 124 K (x_aload 0 (x_g1 111 233 (x_iload 3 (x_iaload (x_iload 2 (x_if_icmp .eq 124 K (x_aload 0 (x_g1 111 294 (x_iconst 12 (x_aload 0 (x_g1 111 232 (x_iload 3 (x_iaload (x_imul (x_aload 0 (x_g1 111 233 (x_iload 3 (x_iaload (x_iadd (x_dup2 (x_iaload (x_iconst 1 (x_iadd (x_iastore (x_aload 0 (x_g1 111 294 (x_iconst 12 (x_aload 0 (x_g1 111 233 (x_iload 3 (x_iaload (x_imul (x_aload 0 (x_g1 111 232 (x_iload 3 (x_iaload (x_iadd (x_dup2 (x_iaload (x_iconst 1 (x_iadd (x_iastore (x_iinc 3 1 (x_goto 29 K)))))))))))))))))))))))))))))))))))))))))))))))))) := ((xe_ifCond .eq 124).trans (congrArg (x_ifCond .eq 124 K) ((xe_aload 0).trans (congrArg (x_aload 0) ((xe_g1 (kk := 111) rfl tl_11_32).trans (congrArg (x_g1 111 232) ((xe_iload 3).trans (congrArg (x_iload 3) ((xe_iaload).trans (congrArg (x_iaload) ((xe_iload 2).trans (congrArg (x_iload 2) ((xe_if_icmp .eq 124).trans (congrArg (x_if_icmp .eq 124 K) ((xe_aload 0).trans (congrArg (x_aload 0) ((xe_g1 (kk := 111) rfl tl_11_33).trans (congrArg (x_g1 111 233) ((xe_iload 3).trans (congrArg (x_iload 3) ((xe_iaload).trans (congrArg (x_iaload) ((xe_iload 2).trans (congrArg (x_iload 2) ((xe_if_icmp .eq 124).trans (congrArg (x_if_icmp .eq 124 K) ((xe_aload 0).trans (congrArg (x_aload 0) ((xe_g1 (kk := 111) rfl tl_11_94).trans (congrArg (x_g1 111 294) ((xe_iconst 12).trans (congrArg (x_iconst 12) ((xe_aload 0).trans (congrArg (x_aload 0) ((xe_g1 (kk := 111) rfl tl_11_32).trans (congrArg (x_g1 111 232) ((xe_iload 3).trans (congrArg (x_iload 3) ((xe_iaload).trans (congrArg (x_iaload) ((xe_imul).trans (congrArg (x_imul) ((xe_aload 0).trans (congrArg (x_aload 0) ((xe_g1 (kk := 111) rfl tl_11_33).trans (congrArg (x_g1 111 233) ((xe_iload 3).trans (congrArg (x_iload 3) ((xe_iaload).trans (congrArg (x_iaload) ((xe_iadd).trans (congrArg (x_iadd) ((xe_dup2).trans (congrArg (x_dup2) ((xe_iaload).trans (congrArg (x_iaload) ((xe_iconst 1).trans (congrArg (x_iconst 1) ((xe_iadd).trans (congrArg (x_iadd) ((xe_iastore).trans (congrArg (x_iastore) ((xe_aload 0).trans (congrArg (x_aload 0) ((xe_g1 (kk := 111) rfl tl_11_94).trans (congrArg (x_g1 111 294) ((xe_iconst 12).trans (congrArg (x_iconst 12) ((xe_aload 0).trans (congrArg (x_aload 0) ((xe_g1 (kk := 111) rfl tl_11_33).trans (congrArg (x_g1 111 233) ((xe_iload 3).trans (congrArg (x_iload 3) ((xe_iaload).trans (congrArg (x_iaload) ((xe_imul).trans (congrArg (x_imul) ((xe_aload 0).trans (congrArg (x_aload 0) ((xe_g1 (kk := 111) rfl tl_11_32).trans (congrArg (x_g1 111 232) ((xe_iload 3).trans (congrArg (x_iload 3) ((xe_iaload).trans (congrArg (x_iaload) ((xe_iadd).trans (congrArg (x_iadd) ((xe_dup2).trans (congrArg (x_dup2) ((xe_iaload).trans (congrArg (x_iaload) ((xe_iconst 1).trans (congrArg (x_iconst 1) ((xe_iadd).trans (congrArg (x_iadd) ((xe_iastore).trans (congrArg (x_iastore) ((xe_iinc 3 1).trans (congrArg (x_iinc 3 1) (xe_goto 29)))))))))))))))))))))))))))))))))))))))))))))))))))))))))))))))))))))))))))))))))))))))))))))))))))))
theorem bk_X11_layBetween_124 : ck_ fX11 none cX11_layBetween 124 [.iinc 3 1, .goto 29] 130 = true := qck_r (nn_ _) (by decide +kernel)
theorem bs_X11_layBetween_124 {P : Zt → Option Zv → Prop} (K : Int → Zl → List Zv → Zt → Prop) : sx_ K P [.iinc 3 1, .goto 29] 130 = x_iinc 3 1 (x_goto 29 K) := ((xe_iinc 3 1).trans (congrArg (x_iinc 3 1) (xe_goto 29)))
theorem bk_X11_layBetween_2 : ck_ fX11 none cX11_layBetween 2 [.iload 3, .iconst 144, .if_icmp .ge 22, .aload 0, .tableswitch 0 11 94 #[], .iload 3, .iconst 0, .iastore, .iinc 3 1, .goto 2] 22 = true := qck_r (nn_ _) (by decide +kernel)
theorem bs_X11_layBetween_2 {P : Zt → Option Zv → Prop} (K : Int → Zl → List Zv → Zt → Prop) : sx_ K P [.iload 3, .iconst 144, .if_icmp .ge 22, .aload 0, .tableswitch 0 11 94 #[], .iload 3, .iconst 0, .iastore, .iinc 3 1, .goto 2] 22 = x_iload 3 (x_iconst 144 (x_if_icmp .ge 22 K (x_aload 0 (x_g1 111 294 (x_iload 3 (x_iconst 0 (x_iastore (x_iinc 3 1 (x_goto 2 K))))))))) := ((xe_iload 3).trans (congrArg (x_iload 3) ((xe_iconst 144).trans (congrArg (x_iconst 144) ((xe_if_icmp .ge 22).trans (congrArg (x_if_icmp .ge 22 K) ((xe_aload 0).trans (congrArg (x_aload 0) ((xe_g1 (kk := 111) rfl tl_11_94).trans (congrArg (x_g1 111 294) ((xe_iload 3).trans (congrArg (x_iload 3) ((xe_iconst 0).trans (congrArg (x_iconst 0) ((xe_iastore).trans (congrArg (x_iastore) ((xe_iinc 3 1).trans (congrArg (x_iinc 3 1) (xe_goto 2)))))))))))))))))))
theorem bk_X11_layBetween_22 : ck_ fX11 none cX11_layBetween 22 [.aload 0, .tableswitch 0 11 10 #[], .iload 1, .iaload, .istore 3] 29 = true := qck_r (nn_ _) (by decide +kernel)
theorem bs_X11_layBetween_22 {P : Zt → Option Zv → Prop} (K : Int → Zl → List Zv → Zt → Prop) : sx_ K P [.aload 0, .tableswitch 0 11 10 #[], .iload 1, .iaload, .istore 3] 29 = x_aload 0 (x_g1 111 210 (x_iload 1 (x_iaload (x_istore 3 (K 29))))) := ((xe_aload 0).trans (congrArg (x_aload 0) ((xe_g1 (kk := 111) rfl tl_11_10).trans (congrArg (x_g1 111 210) ((xe_iload 1).trans (congrArg (x_iload 1) ((xe_iaload).trans (congrArg (x_iaload) ((xe_istore 3).trans (congrArg (x_istore 3) xe_nil))))))))))
theorem bk_X11_layBetween_0 : ck_ fX11 none cX11_layBetween 0 [.iconst 0, .istore 3] 2 = true := qck_r (nn_ _) (by decide +kernel)
theorem bs_X11_layBetween_0 {P : Zt → Option Zv → Prop} (K : Int → Zl → List Zv → Zt → Prop) : sx_ K P [.iconst 0, .istore 3] 2 = x_iconst 0 (x_istore 3 (K 2)) := ((xe_iconst 0).trans (congrArg (x_iconst 0) ((xe_istore 3).trans (congrArg (x_istore 3) xe_nil))))
abbrev po_X11_layBetween (T : Zt) (c cl : Int) : Zt → Option Zv → Prop := fun T' r => r = none ∧ fr_ [(294, [])] T T' ∧ (BW_ T' (plf_ T cl (T 211 0 c).toNat (T 210 0 c)))
set_option maxHeartbeats 4000000 in
theorem ct_X11_layBetween {T : Zt} {c cl : Int} (h1 : 0 ≤ c ∧ c < 4) (hml : ML_ T) : Ct_ yX11_layBetween zX11_layBetween T [vR 111 0, vI c, vI cl] (po_X11_layBetween T c cl) := by
  refine ct_of pn_11 rfl rfl (Nat.le_of_ble_eq_true rfl) (fun hT hav => ?_)
  have hr_c : -2147483648 ≤ c ∧ c ≤ 2147483647 := hav (vI c) (List.mem_cons_of_mem _ List.mem_cons_self)
  have hr_cl : -2147483648 ≤ cl ∧ cl ≤ 2147483647 := hav (vI cl) (List.mem_cons_of_mem _ (List.mem_cons_of_mem _ List.mem_cons_self))
  have hz : zX11_layBetween.2.2.2.1 = some .boolean → ∀ (T' : Zt) (x : Int), po_X11_layBetween T c cl T' (some (vI x)) → 0 ≤ x ∧ x ≤ 1 := fun h => by cases h
  have hmc := hml c (by omega) (by omega)
  have hb_29 : 0 ≤ T 111 0 29 ∧ T 111 0 29 ≤ 400 := bd_f hT 111 29 tl_11_29 0
  have hfo : 0 ≤ T 210 0 c ∧ T 210 0 c ≤ 400 := bd_a hT 210 (by decide +kernel : ta_ 210 = some (1, some 4, 0, 400)) 0 (by omega)
  have hmo : 0 ≤ T 211 0 c ∧ T 211 0 c ≤ 400 := bd_a hT 211 (by decide +kernel : ta_ 211 = some (1, some 4, 0, 400)) 0 (by omega)
  show J_ zX11_layBetween T (po_X11_layBetween T c cl) 0 0 0 [some (vR 111 0), some (vI c), some (vI cl), none] [] T
  have c_29 : ∀ (nn : Nat) (m : Int) (T2 : Zt), ((400 - m).toNat) ≤ nn → (fr_ [(294, [])] T T2) → (T 210 0 c ≤ m ∧ m ≤ T 210 0 c + T 211 0 c) → (BW_ T2 (plf_ T cl (m - T 210 0 c).toNat (T 210 0 c))) → (BB_ T2 (2 * (m - T 210 0 c))) → J_ zX11_layBetween T (po_X11_layBetween T c cl) 0 0 29 [some (vR 111 0), some (vI c), some (vI cl), some (vI m)] [] T2 := by
    intro nn
    induction nn using Nat.strongRecOn with
    | _ nn ih_29 =>
      intro m T2 hm_29 hf_29 i2 bw2 bb2
      replace hm_29 := fun (_ : Unit) => hm_29
      have hmw := hf_29 235 0 m rfl
      refine j_blx (F := fX11) tb_X11 (nn_ _) bk_X11_layBetween_29 bs_X11_layBetween_29 hz (fun K hK => ?_)
      refine ix_i (by omega) ?_
      intro b1 b1b
      have e2 : T2 210 0 c = T 210 0 c := hf_29 210 0 c rfl
      rw [e2] at b1 b1b ⊢
      refine ix_i (by omega) ?_
      intro b3 b3b
      have e4 : T2 211 0 c = T 211 0 c := hf_29 211 0 c rfl
      rw [e4] at b3 b3b ⊢
      refine rg_i (by omega) ?_
      refine And.intro (fun c5 => ?_) (fun c5 => ?_)
      · refine hK 130 _ [] T2 ?_
        refine j_blx (F := fX11) tb_X11 (nn_ _) bk_X11_layBetween_130 bs_X11_layBetween_130 hz (fun K hK => ?_)
        refine (show po_X11_layBetween T c cl T2 (none) from ?_)
        refine ⟨rfl, fr_t (fr_0 _ _) (fr_s hf_29 rfl), ?_⟩
        rw [show m - T 210 0 c = T 211 0 c by omega] at bw2
        exact bw2
      · refine hK 48 _ [vI m, vR 111 0] T2 ?_
        refine j_callV (y := yX11_isLeft) (Yc := zX11_isLeft) (rest := []) [vI m] (ct_X11_isLeft (T := T2) (by omega)) cl_X11_538 (qd_c (by decide +kernel)) (nn_ _) rfl (rf_of rfl) (Nat.le_of_ble_eq_true rfl) (Nat.le_of_ble_eq_true rfl) (Nat.le_of_ble_eq_true rfl) rfl ?_
        rintro _ _ ⟨rfl, x6, rfl, hx6⟩
        show J_ zX11_layBetween T (po_X11_layBetween T c cl) 0 0 51 _ [vI x6] T2
        refine j_blx (F := fX11) tb_X11 (nn_ _) bk_X11_layBetween_51 bs_X11_layBetween_51 hz (fun K hK => ?_)
        refine And.intro (fun c7 => ?_) (fun c7 => ?_)
        · replace hx6 := hx6.resolve_left (fun z => absurd (c7.symm.trans z.1) (by decide))
          clear c7
          refine hK 124 _ [] T2 ?_
          refine j_blx (F := fX11) tb_X11 (nn_ _) bk_X11_layBetween_124 bs_X11_layBetween_124 hz (fun K hK => ?_)
          refine rg_i (by omega) ?_
          refine hK 29 [some (vR 111 0), some (vI c), some (vI cl), some (vI (m + 1))] [] T2 ?_
          refine ih_29 _ ?_ (m + 1) T2 (Nat.le_refl _) ?_ ?_ ?_ ?_
          · have hm_29 := hm_29 (); omega
          · exact fr_t (fr_0 _ _) (fr_s hf_29 rfl)
          · omega
          · rw [show (m + 1 - T 210 0 c).toNat = (m - T 210 0 c).toNat + 1 by omega, plf_s, show T 210 0 c + ((m - T 210 0 c).toNat : Int) = m by omega, if_neg (by omega), List.append_nil]
            exact bw2
          · exact bb_m (bb2) (by omega)
        · replace hx6 := hx6.resolve_right (fun z => c7 z.1)
          clear c7
          refine ix_i (by omega) ?_
          intro b8 b8b
          have e9 : T2 232 0 m = T 232 0 m := hf_29 232 0 m rfl
          rw [e9] at b8 b8b ⊢
          refine And.intro (fun c10 => ?_) (fun c10 => ?_)
          · refine hK 124 [some (vR 111 0), some (vI c), some (vI cl), some (vI m)] [] T2 ?_
            refine j_blx (F := fX11) tb_X11 (nn_ _) bk_X11_layBetween_124 bs_X11_layBetween_124 hz (fun K hK => ?_)
            refine rg_i (by omega) ?_
            refine hK 29 [some (vR 111 0), some (vI c), some (vI cl), some (vI (m + 1))] [] T2 ?_
            refine ih_29 _ ?_ (m + 1) T2 (Nat.le_refl _) ?_ ?_ ?_ ?_
            · have hm_29 := hm_29 (); omega
            · exact fr_t (fr_0 _ _) (fr_s hf_29 rfl)
            · omega
            · rw [show (m + 1 - T 210 0 c).toNat = (m - T 210 0 c).toNat + 1 by omega, plf_s, show T 210 0 c + ((m - T 210 0 c).toNat : Int) = m by omega, if_neg (by omega), List.append_nil]
              exact bw2
            · exact bb_m (bb2) (by omega)
          · refine ix_i (by omega) ?_
            intro b11 b11b
            have e12 : T2 233 0 m = T 233 0 m := hf_29 233 0 m rfl
            rw [e12] at b11 b11b ⊢
            refine And.intro (fun c13 => ?_) (fun c13 => ?_)
            · refine hK 124 [some (vR 111 0), some (vI c), some (vI cl), some (vI m)] [] T2 ?_
              refine j_blx (F := fX11) tb_X11 (nn_ _) bk_X11_layBetween_124 bs_X11_layBetween_124 hz (fun K hK => ?_)
              refine rg_i (by omega) ?_
              refine hK 29 [some (vR 111 0), some (vI c), some (vI cl), some (vI (m + 1))] [] T2 ?_
              refine ih_29 _ ?_ (m + 1) T2 (Nat.le_refl _) ?_ ?_ ?_ ?_
              · have hm_29 := hm_29 (); omega
              · exact fr_t (fr_0 _ _) (fr_s hf_29 rfl)
              · omega
              · rw [show (m + 1 - T 210 0 c).toNat = (m - T 210 0 c).toNat + 1 by omega, plf_s, show T 210 0 c + ((m - T 210 0 c).toNat : Int) = m by omega, if_neg (by omega), List.append_nil]
                exact bw2
              · exact bb_m (bb2) (by omega)
            · refine ix_i (by omega) ?_
              intro b14 b14b
              have e15 : T2 232 0 m = T 232 0 m := hf_29 232 0 m rfl
              rw [e15] at b14 b14b ⊢
              refine rg_i (by omega) ?_
              refine ix_i (by omega) ?_
              intro b16 b16b
              have e17 : T2 233 0 m = T 233 0 m := hf_29 233 0 m rfl
              rw [e17] at b16 b16b ⊢
              refine rg_i (by omega) ?_
              refine ix_i (by omega) ?_
              intro b18 b18b
              have t19 : 0 ≤ T2 294 0 ((12 * (T 232 0 m)) + (T 233 0 m)) ∧ T2 294 0 ((12 * (T 232 0 m)) + (T 233 0 m)) ≤ 2 * (m - T 210 0 c) := (bb2) ((12 * (T 232 0 m)) + (T 233 0 m)) (by omega) (by omega)
              refine rg_i (by omega) ?_
              refine iy_i (by omega) (by omega) ?_
              refine x_nm (fun U20 hU20 => ?_)
              have e21 := up_f hU20
              refine ix_i (by omega) ?_
              intro b22 b22b
              have e23 : U20 233 0 m = T 233 0 m := (up_k hU20 (by exact Nat.ne_of_beq_eq_false rfl) 0 m).trans (hf_29 233 0 m rfl)
              rw [e23] at b22 b22b ⊢
              refine rg_i (by omega) ?_
              refine ix_i (by omega) ?_
              intro b24 b24b
              have e25 : U20 232 0 m = T 232 0 m := (up_k hU20 (by exact Nat.ne_of_beq_eq_false rfl) 0 m).trans (hf_29 232 0 m rfl)
              rw [e25] at b24 b24b ⊢
              refine rg_i (by omega) ?_
              refine ix_i (by omega) ?_
              intro b26 b26b
              have t27 : 0 ≤ U20 294 0 ((12 * (T 233 0 m)) + (T 232 0 m)) ∧ U20 294 0 ((12 * (T 233 0 m)) + (T 232 0 m)) ≤ 2 * (m - T 210 0 c) + 1 := (bb_u (bb2) hU20 (by omega)) ((12 * (T 233 0 m)) + (T 232 0 m)) (by omega) (by omega)
              refine rg_i (by omega) ?_
              refine iy_i (by omega) (by omega) ?_
              refine x_nm (fun U28 hU28 => ?_)
              have e29 := up_f hU28
              refine rg_i (by omega) ?_
              refine hK 29 _ [] U28 ?_
              refine ih_29 _ ?_ (m + 1) U28 (Nat.le_refl _) ?_ ?_ ?_ ?_
              · have hm_29 := hm_29 (); omega
              · exact fr_u (fr_u (fr_t (fr_0 _ _) (fr_s hf_29 rfl)) hU20 rfl) hU28 rfl
              · omega
              · rw [show (m + 1 - T 210 0 c).toNat = (m - T 210 0 c).toNat + 1 by omega, plf_s, show T 210 0 c + ((m - T 210 0 c).toNat : Int) = m by omega]
                by_cases z : T 232 0 m = T 233 0 m
                · rw [if_neg (fun q => q.2.2.2 z), List.append_nil]
                  exact bw_d bw2 (by omega) hU20 hU28 z
                · rw [if_pos ⟨by omega, by omega, by omega, z⟩]
                  exact bw_s bw2 (by omega) (by omega) hU20 hU28 z
              · exact bb_m (bb_u (bb_u (bb2) hU20 (by omega)) hU28 (by omega)) (by omega)
  have c_2 : ∀ (nn : Nat) (i : Int) (T1 : Zt), ((144 - i).toNat) ≤ nn → (fr_ [(294, [])] T T1) → (0 ≤ i ∧ i ≤ 144) → (∀ j, 0 ≤ j → j < i → T1 294 0 j = 0) → J_ zX11_layBetween T (po_X11_layBetween T c cl) 0 0 2 [some (vR 111 0), some (vI c), some (vI cl), some (vI i)] [] T1 := by
    intro nn
    induction nn using Nat.strongRecOn with
    | _ nn ih_2 =>
      intro i T1 hm_2 hf_2 i1 z1
      replace hm_2 := fun (_ : Unit) => hm_2
      refine j_blx (F := fX11) tb_X11 (nn_ _) bk_X11_layBetween_2 bs_X11_layBetween_2 hz (fun K hK => ?_)
      refine And.intro (fun c30 => ?_) (fun c30 => ?_)
      · refine hK 22 _ [] T1 ?_
        refine j_blx (F := fX11) tb_X11 (nn_ _) bk_X11_layBetween_22 bs_X11_layBetween_22 hz (fun K hK => ?_)
        refine ix_i (by omega) ?_
        intro b31 b31b
        have e32 : T1 210 0 c = T 210 0 c := hf_2 210 0 c rfl
        rw [e32] at b31 b31b ⊢
        refine hK 29 [some (vR 111 0), some (vI c), some (vI cl), some (vI (T 210 0 c))] [] T1 ?_
        refine c_29 _ (T 210 0 c) T1 (Nat.le_refl _) ?_ ?_ ?_ ?_
        · exact fr_t (fr_0 _ _) (fr_s hf_2 rfl)
        · omega
        · rw [show (T 210 0 c - T 210 0 c).toNat = 0 by omega]
          exact fun x y a b c d _ => z1 _ (by omega) (by omega)
        · exact fun j a b => by have := z1 j a (by omega); omega
      · refine iy_i (by omega) (by omega) ?_
        refine x_nm (fun U33 hU33 => ?_)
        have e34 := up_f hU33
        refine rg_i (by omega) ?_
        refine hK 2 [some (vR 111 0), some (vI c), some (vI cl), some (vI (i + 1))] [] U33 ?_
        refine ih_2 _ ?_ (i + 1) U33 (Nat.le_refl _) ?_ ?_ ?_
        · have hm_2 := hm_2 (); omega
        · exact fr_u (fr_t (fr_0 _ _) (fr_s hf_2 rfl)) hU33 rfl
        · omega
        · intro j a b
          by_cases z : j = i
          · rw [z]; exact up_f hU33
          · rw [up_g hU33 (fun q => z q.2.2)]; exact z1 j a (by omega)
  refine j_blx (F := fX11) tb_X11 (nn_ _) bk_X11_layBetween_0 bs_X11_layBetween_0 hz (fun K hK => ?_)
  refine hK 2 [some (vR 111 0), some (vI c), some (vI cl), some (vI 0)] [] T ?_
  refine c_2 _ 0 T (Nat.le_refl _) ?_ ?_ ?_
  · exact fr_0 _ _
  · omega
  · intro j a b; omega
