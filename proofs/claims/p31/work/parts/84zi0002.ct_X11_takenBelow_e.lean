theorem bk_X11_takenBelow_e_13 : ck_ fX11 (some .int) cX11_takenBelow 13 [.iload 4, .ifCond .eq 63, .aload 0, .aload 0, .tableswitch 0 11 103 #[], .iconst 1664525, .fmul, .iconst 1013904223, .fadd, .tableswitch 1 11 103 #[], .aload 0, .tableswitch 0 11 103 #[], .iconst 1, .iushr, .istore 3, .iload 3, .i2l, .sipush 2147483648, .iload 2, .i2l, .lsub, .lcmp, .ifCond .lt 57, .iconst 1, .goto 58] 57 = true := qck_r (nn_ _) (by decide +kernel)
theorem bs_X11_takenBelow_e_13 {P : Zt → Option Zv → Prop} (K : Int → Zl → List Zv → Zt → Prop) : sx_ K P [.iload 4, .ifCond .eq 63, .aload 0, .aload 0, .tableswitch 0 11 103 #[], .iconst 1664525, .fmul, .iconst 1013904223, .fadd, .tableswitch 1 11 103 #[], .aload 0, .tableswitch 0 11 103 #[], .iconst 1, .iushr, .istore 3, .iload 3, .i2l, .sipush 2147483648, .iload 2, .i2l, .lsub, .lcmp, .ifCond .lt 57, .iconst 1, .goto 58] 57 = x_iload 4 (x_ifCond .eq 63 K (x_aload 0 (x_aload 0 (x_g0 111 103 (-2147483648) 2147483647 (x_iconst 1664525 (x_fmul (x_iconst 1013904223 (x_fadd (x_p 111 103 (-2147483648) 2147483647 (x_aload 0 (x_g0 111 103 (-2147483648) 2147483647 (x_iconst 1 (x_iushr (x_istore 3 (x_iload 3 (x_i2l (x_sipush 2147483648 (x_iload 2 (x_i2l (x_lsub (x_lcmp (x_ifCond .lt 57 K (x_iconst 1 (x_goto 58 K)))))))))))))))))))))))) := ((xe_iload 4).trans (congrArg (x_iload 4) ((xe_ifCond .eq 63).trans (congrArg (x_ifCond .eq 63 K) ((xe_aload 0).trans (congrArg (x_aload 0) ((xe_aload 0).trans (congrArg (x_aload 0) ((xe_g0 (kk := 111) rfl tl_11_103).trans (congrArg (x_g0 111 103 (-2147483648) 2147483647) ((xe_iconst 1664525).trans (congrArg (x_iconst 1664525) ((xe_fmul).trans (congrArg (x_fmul) ((xe_iconst 1013904223).trans (congrArg (x_iconst 1013904223) ((xe_fadd).trans (congrArg (x_fadd) ((xe_p (kk := 111) rfl tl_11_103).trans (congrArg (x_p 111 103 (-2147483648) 2147483647) ((xe_aload 0).trans (congrArg (x_aload 0) ((xe_g0 (kk := 111) rfl tl_11_103).trans (congrArg (x_g0 111 103 (-2147483648) 2147483647) ((xe_iconst 1).trans (congrArg (x_iconst 1) ((xe_iushr).trans (congrArg (x_iushr) ((xe_istore 3).trans (congrArg (x_istore 3) ((xe_iload 3).trans (congrArg (x_iload 3) ((xe_i2l).trans (congrArg (x_i2l) ((xe_sipush 2147483648).trans (congrArg (x_sipush 2147483648) ((xe_iload 2).trans (congrArg (x_iload 2) ((xe_i2l).trans (congrArg (x_i2l) ((xe_lsub).trans (congrArg (x_lsub) ((xe_lcmp).trans (congrArg (x_lcmp) ((xe_ifCond .lt 57).trans (congrArg (x_ifCond .lt 57 K) ((xe_iconst 1).trans (congrArg (x_iconst 1) (xe_goto 58)))))))))))))))))))))))))))))))))))))))))))))))))
theorem bk_X11_takenBelow_e_63 : ck_ fX11 (some .int) cX11_takenBelow 63 [.iload 3, .iload 1, .irem, .ireturn] 67 = true := qck_r (nn_ _) (by decide +kernel)
theorem bs_X11_takenBelow_e_63 {P : Zt → Option Zv → Prop} (K : Int → Zl → List Zv → Zt → Prop) : sx_ K P [.iload 3, .iload 1, .irem, .ireturn] 67 = x_iload 3 (x_iload 1 (x_irem (x_ireturn P))) := ((xe_iload 3).trans (congrArg (x_iload 3) ((xe_iload 1).trans (congrArg (x_iload 1) ((xe_irem).trans (congrArg (x_irem) (xe_ireturn)))))))
theorem bk_X11_takenBelow_e_57 : ck_ fX11 (some .int) cX11_takenBelow 57 [.iconst 0, .istore 4, .goto 13] 63 = true := qck_r (nn_ _) (by decide +kernel)
theorem bs_X11_takenBelow_e_57 {P : Zt → Option Zv → Prop} (K : Int → Zl → List Zv → Zt → Prop) : sx_ K P [.iconst 0, .istore 4, .goto 13] 63 = x_iconst 0 (x_istore 4 (x_goto 13 K)) := ((xe_iconst 0).trans (congrArg (x_iconst 0) ((xe_istore 4).trans (congrArg (x_istore 4) (xe_goto 13)))))
theorem bk_X11_takenBelow_e_58 : ck_ fX11 (some .int) cX11_takenBelow 58 [.istore 4, .goto 13] 63 = true := qck_r (nn_ _) (by decide +kernel)
theorem bs_X11_takenBelow_e_58 {P : Zt → Option Zv → Prop} (K : Int → Zl → List Zv → Zt → Prop) : sx_ K P [.istore 4, .goto 13] 63 = x_istore 4 (x_goto 13 K) := ((xe_istore 4).trans (congrArg (x_istore 4) (xe_goto 13)))
theorem bk_X11_takenBelow_e_0 : ck_ fX11 (some .int) cX11_takenBelow 0 [.sipush 2147483648, .iload 1, .i2l, .lrem, .l2i, .istore 2, .iconst 0, .istore 3, .iconst 1, .istore 4] 13 = true := qck_r (nn_ _) (by decide +kernel)
theorem bs_X11_takenBelow_e_0 {P : Zt → Option Zv → Prop} (K : Int → Zl → List Zv → Zt → Prop) : sx_ K P [.sipush 2147483648, .iload 1, .i2l, .lrem, .l2i, .istore 2, .iconst 0, .istore 3, .iconst 1, .istore 4] 13 = x_sipush 2147483648 (x_iload 1 (x_i2l (x_lrem (x_l2i (x_istore 2 (x_iconst 0 (x_istore 3 (x_iconst 1 (x_istore 4 (K 13)))))))))) := ((xe_sipush 2147483648).trans (congrArg (x_sipush 2147483648) ((xe_iload 1).trans (congrArg (x_iload 1) ((xe_i2l).trans (congrArg (x_i2l) ((xe_lrem).trans (congrArg (x_lrem) ((xe_l2i).trans (congrArg (x_l2i) ((xe_istore 2).trans (congrArg (x_istore 2) ((xe_iconst 0).trans (congrArg (x_iconst 0) ((xe_istore 3).trans (congrArg (x_istore 3) ((xe_iconst 1).trans (congrArg (x_iconst 1) ((xe_istore 4).trans (congrArg (x_istore 4) xe_nil))))))))))))))))))))
abbrev po_X11_takenBelow_e (T : Zt) (m : Int) : Zt → Option Zv → Prop := fun T' r => ∃ x : Int, r = some (vI x) ∧ fr_ [(111, [103])] T T' ∧ (x = (tb9_ m (T 111 0 103)).1 ∧ T' 111 0 103 = (tb9_ m (T 111 0 103)).2 ∧ 0 ≤ x ∧ x < m)
set_option maxHeartbeats 4000000 in
theorem ct_X11_takenBelow_e {T : Zt} {m : Int} (h1 : 1 ≤ m ∧ m ≤ 13824) : Ct_ yX11_takenBelow zX11_takenBelow T [vR 111 0, vI m] (po_X11_takenBelow_e T m) := by
  refine ct_of pn_11 rfl rfl (Nat.le_of_ble_eq_true rfl) (fun hT hav => ?_)
  have hr_m : -2147483648 ≤ m ∧ m ≤ 2147483647 := hav (vI m) (List.mem_cons_of_mem _ List.mem_cons_self)
  have hz : zX11_takenBelow.2.2.2.1 = some .boolean → ∀ (T' : Zt) (x : Int), po_X11_takenBelow_e T m T' (some (vI x)) → 0 ≤ x ∧ x ≤ 1 := fun h => by cases h
  have hr1 := Int.emod_nonneg 2147483648 (show m ≠ 0 by omega)
  have hr2 := Int.emod_lt_of_pos 2147483648 (show 0 < m by omega)
  show J_ zX11_takenBelow T (po_X11_takenBelow_e T m) 0 0 0 [some (vR 111 0), some (vI m), none, none, none] [] T
  have c_13 : ∀ (nn : Nat) (v : Int) (mr : Int) (ph : Nat) (T1 : Zt), ph ≤ nn → (fr_ [(111, [103])] T T1) → ((mr = 0 ∧ ph = 0 ∧ 0 ≤ v ∧ v % m = (tb9_ m (T 111 0 103)).1 ∧ T1 111 0 103 = (tb9_ m (T 111 0 103)).2) ∨ (mr = 1 ∧ ph = 1 ∧ T1 111 0 103 = ns9_ (T 111 0 103) ∧ ¬ us_ (ns9_ (T 111 0 103)) 1 < 2147483648 - 2147483648 % m) ∨ (mr = 1 ∧ ph = 2 ∧ T1 111 0 103 = (T 111 0 103))) → J_ zX11_takenBelow T (po_X11_takenBelow_e T m) 0 0 13 [some (vR 111 0), some (vI m), some (vI (2147483648 % m)), some (vI v), some (vI mr)] [] T1 := by
    intro nn
    induction nn using Nat.strongRecOn with
    | _ nn ih_13 =>
      intro v mr ph T1 hm_13 hf_13 hp
      replace hm_13 := fun (_ : Unit) => hm_13
      refine j_blx (F := fX11) tb_X11 (nn_ _) bk_X11_takenBelow_e_13 bs_X11_takenBelow_e_13 hz (fun K hK => ?_)
      refine And.intro (fun c1 => ?_) (fun c1 => ?_)
      · refine hK 63 _ [] T1 ?_
        refine j_blx (F := fX11) tb_X11 (nn_ _) bk_X11_takenBelow_e_63 bs_X11_takenBelow_e_63 hz (fun K hK => ?_)
        have hv1 := Int.emod_nonneg v (show m ≠ 0 by omega)
        have hv2 := Int.emod_lt_of_pos v (show 0 < m by omega)
        refine dv_i (by omega) ?_
        refine (show po_X11_takenBelow_e T m T1 (some (vI (v % m))) from ?_)
        obtain ⟨-, -, y1, y2, y3⟩ := hp.resolve_right (fun z => by omega)
        exact ⟨_, rfl, hf_13, y2, y3, hv1, hv2⟩
      · intro b2 b2b
        intro w3 w3b
        intro w4 w4b
        refine bd_i (by omega) ?_
        refine x_nm (fun U5 hU5 => ?_)
        have e6 := up_f hU5
        intro b7 b7b
        have e8 : U5 111 0 103 = wr_ ((wr_ ((T1 111 0 103) * 1664525)) + 1013904223) := up_f hU5
        rw [e8] at b7 b7b ⊢
        intro w9 w9b
        have hu := us_1 (x := (wr_ ((wr_ ((T1 111 0 103) * 1664525)) + 1013904223))) (by omega)
        have htk : ph = 1 → us_ (wr_ ((wr_ ((T1 111 0 103) * 1664525)) + 1013904223)) 1 < 2147483648 - 2147483648 % m := fun z => by
          rcases hp with y | y | y
          · omega
          · have e9 : us_ (ns9_ (ns9_ (T 111 0 103))) 1 = us_ (wr_ ((wr_ ((T1 111 0 103) * 1664525)) + 1013904223)) 1 := by rw [← y.2.2.1]; rfl
            rw [← e9]; exact tb9_b h1 y.2.2.2
          · omega
        refine rl_i (by omega) ?_
        refine And.intro (fun c10 => ?_) (And.intro (fun c10 => ?_) (fun c10 => ?_))
        · refine And.intro (fun c11 => ?_) (fun c11 => ?_)
          · refine hK 57 [some (vR 111 0), some (vI m), some (vI (2147483648 % m)), some (vI (us_ (wr_ ((wr_ ((T1 111 0 103) * 1664525)) + 1013904223)) 1)), some (vI mr)] [] U5 ?_
            refine j_blx (F := fX11) tb_X11 (nn_ _) bk_X11_takenBelow_e_57 bs_X11_takenBelow_e_57 hz (fun K hK => ?_)
            refine hK 13 [some (vR 111 0), some (vI m), some (vI (2147483648 % m)), some (vI (us_ (wr_ ((wr_ ((T1 111 0 103) * 1664525)) + 1013904223)) 1)), some (vI 0)] [] U5 ?_
            have e12 : U5 111 0 103 = wr_ ((wr_ ((T1 111 0 103) * 1664525)) + 1013904223) := up_f hU5
            refine ih_13 _ ?_ (us_ (wr_ ((wr_ ((T1 111 0 103) * 1664525)) + 1013904223)) 1) 0 0 U5 (Nat.le_refl _) ?_ ?_
            · have hm_13 := hm_13 (); omega
            · exact fr_u (fr_t (fr_0 _ _) (fr_s hf_13 rfl)) hU5 rfl
            · have y := tb9_a (m := m) (s := (T 111 0 103)) (r := T1 111 0 103) (v := us_ (wr_ ((wr_ ((T1 111 0 103) * 1664525)) + 1013904223)) 1) rfl (by omega) (hp.elim (fun z => by omega) (fun z => z.elim (fun z => Or.inr z.2.2) (fun z => Or.inl z.2.2)))
              exact Or.inl ⟨rfl, rfl, by omega, y.1, (up_f hU5).trans y.2⟩
          · refine hK 58 [some (vR 111 0), some (vI m), some (vI (2147483648 % m)), some (vI (us_ (wr_ ((wr_ ((T1 111 0 103) * 1664525)) + 1013904223)) 1)), some (vI mr)] [vI 1] U5 ?_
            refine j_blx (F := fX11) tb_X11 (nn_ _) bk_X11_takenBelow_e_58 bs_X11_takenBelow_e_58 hz (fun K hK => ?_)
            refine hK 13 [some (vR 111 0), some (vI m), some (vI (2147483648 % m)), some (vI (us_ (wr_ ((wr_ ((T1 111 0 103) * 1664525)) + 1013904223)) 1)), some (vI 1)] [] U5 ?_
            have e13 : U5 111 0 103 = wr_ ((wr_ ((T1 111 0 103) * 1664525)) + 1013904223) := up_f hU5
            refine ih_13 _ ?_ (us_ (wr_ ((wr_ ((T1 111 0 103) * 1664525)) + 1013904223)) 1) 1 1 U5 (Nat.le_refl _) ?_ ?_
            · have hm_13 := hm_13 (); omega
            · exact fr_u (fr_t (fr_0 _ _) (fr_s hf_13 rfl)) hU5 rfl
            · rcases hp with z | ⟨z1, z0, z2, z3⟩ | ⟨z1, z0, z2⟩
              · omega
              · exfalso; have y9 := htk z0; omega
              · refine Or.inr (Or.inl ⟨rfl, rfl, ?_, ?_⟩)
                · rw [up_f hU5, z2]; rfl
                · have e9 : us_ (ns9_ (T 111 0 103)) 1 = us_ (wr_ ((wr_ ((T1 111 0 103) * 1664525)) + 1013904223)) 1 := by rw [← z2]; rfl
                  rw [e9]; omega
        · refine And.intro (fun c14 => ?_) (fun c14 => ?_)
          · refine hK 57 [some (vR 111 0), some (vI m), some (vI (2147483648 % m)), some (vI (us_ (wr_ ((wr_ ((T1 111 0 103) * 1664525)) + 1013904223)) 1)), some (vI mr)] [] U5 ?_
            refine j_blx (F := fX11) tb_X11 (nn_ _) bk_X11_takenBelow_e_57 bs_X11_takenBelow_e_57 hz (fun K hK => ?_)
            refine hK 13 [some (vR 111 0), some (vI m), some (vI (2147483648 % m)), some (vI (us_ (wr_ ((wr_ ((T1 111 0 103) * 1664525)) + 1013904223)) 1)), some (vI 0)] [] U5 ?_
            have e15 : U5 111 0 103 = wr_ ((wr_ ((T1 111 0 103) * 1664525)) + 1013904223) := up_f hU5
            refine ih_13 _ ?_ (us_ (wr_ ((wr_ ((T1 111 0 103) * 1664525)) + 1013904223)) 1) 0 0 U5 (Nat.le_refl _) ?_ ?_
            · have hm_13 := hm_13 (); omega
            · exact fr_u (fr_t (fr_0 _ _) (fr_s hf_13 rfl)) hU5 rfl
            · have y := tb9_a (m := m) (s := (T 111 0 103)) (r := T1 111 0 103) (v := us_ (wr_ ((wr_ ((T1 111 0 103) * 1664525)) + 1013904223)) 1) rfl (by omega) (hp.elim (fun z => by omega) (fun z => z.elim (fun z => Or.inr z.2.2) (fun z => Or.inl z.2.2)))
              exact Or.inl ⟨rfl, rfl, by omega, y.1, (up_f hU5).trans y.2⟩
          · refine hK 58 [some (vR 111 0), some (vI m), some (vI (2147483648 % m)), some (vI (us_ (wr_ ((wr_ ((T1 111 0 103) * 1664525)) + 1013904223)) 1)), some (vI mr)] [vI 1] U5 ?_
            refine j_blx (F := fX11) tb_X11 (nn_ _) bk_X11_takenBelow_e_58 bs_X11_takenBelow_e_58 hz (fun K hK => ?_)
            refine hK 13 [some (vR 111 0), some (vI m), some (vI (2147483648 % m)), some (vI (us_ (wr_ ((wr_ ((T1 111 0 103) * 1664525)) + 1013904223)) 1)), some (vI 1)] [] U5 ?_
            have e16 : U5 111 0 103 = wr_ ((wr_ ((T1 111 0 103) * 1664525)) + 1013904223) := up_f hU5
            refine ih_13 _ ?_ (us_ (wr_ ((wr_ ((T1 111 0 103) * 1664525)) + 1013904223)) 1) 1 1 U5 (Nat.le_refl _) ?_ ?_
            · have hm_13 := hm_13 (); omega
            · exact fr_u (fr_t (fr_0 _ _) (fr_s hf_13 rfl)) hU5 rfl
            · rcases hp with z | ⟨z1, z0, z2, z3⟩ | ⟨z1, z0, z2⟩
              · omega
              · exfalso; have y9 := htk z0; omega
              · refine Or.inr (Or.inl ⟨rfl, rfl, ?_, ?_⟩)
                · rw [up_f hU5, z2]; rfl
                · have e9 : us_ (ns9_ (T 111 0 103)) 1 = us_ (wr_ ((wr_ ((T1 111 0 103) * 1664525)) + 1013904223)) 1 := by rw [← z2]; rfl
                  rw [e9]; omega
        · refine And.intro (fun c17 => ?_) (fun c17 => ?_)
          · refine hK 57 [some (vR 111 0), some (vI m), some (vI (2147483648 % m)), some (vI (us_ (wr_ ((wr_ ((T1 111 0 103) * 1664525)) + 1013904223)) 1)), some (vI mr)] [] U5 ?_
            refine j_blx (F := fX11) tb_X11 (nn_ _) bk_X11_takenBelow_e_57 bs_X11_takenBelow_e_57 hz (fun K hK => ?_)
            refine hK 13 [some (vR 111 0), some (vI m), some (vI (2147483648 % m)), some (vI (us_ (wr_ ((wr_ ((T1 111 0 103) * 1664525)) + 1013904223)) 1)), some (vI 0)] [] U5 ?_
            have e18 : U5 111 0 103 = wr_ ((wr_ ((T1 111 0 103) * 1664525)) + 1013904223) := up_f hU5
            refine ih_13 _ ?_ (us_ (wr_ ((wr_ ((T1 111 0 103) * 1664525)) + 1013904223)) 1) 0 0 U5 (Nat.le_refl _) ?_ ?_
            · have hm_13 := hm_13 (); omega
            · exact fr_u (fr_t (fr_0 _ _) (fr_s hf_13 rfl)) hU5 rfl
            · have y := tb9_a (m := m) (s := (T 111 0 103)) (r := T1 111 0 103) (v := us_ (wr_ ((wr_ ((T1 111 0 103) * 1664525)) + 1013904223)) 1) rfl (by omega) (hp.elim (fun z => by omega) (fun z => z.elim (fun z => Or.inr z.2.2) (fun z => Or.inl z.2.2)))
              exact Or.inl ⟨rfl, rfl, by omega, y.1, (up_f hU5).trans y.2⟩
          · refine hK 58 [some (vR 111 0), some (vI m), some (vI (2147483648 % m)), some (vI (us_ (wr_ ((wr_ ((T1 111 0 103) * 1664525)) + 1013904223)) 1)), some (vI mr)] [vI 1] U5 ?_
            refine j_blx (F := fX11) tb_X11 (nn_ _) bk_X11_takenBelow_e_58 bs_X11_takenBelow_e_58 hz (fun K hK => ?_)
            refine hK 13 [some (vR 111 0), some (vI m), some (vI (2147483648 % m)), some (vI (us_ (wr_ ((wr_ ((T1 111 0 103) * 1664525)) + 1013904223)) 1)), some (vI 1)] [] U5 ?_
            have e19 : U5 111 0 103 = wr_ ((wr_ ((T1 111 0 103) * 1664525)) + 1013904223) := up_f hU5
            refine ih_13 _ ?_ (us_ (wr_ ((wr_ ((T1 111 0 103) * 1664525)) + 1013904223)) 1) 1 1 U5 (Nat.le_refl _) ?_ ?_
            · have hm_13 := hm_13 (); omega
            · exact fr_u (fr_t (fr_0 _ _) (fr_s hf_13 rfl)) hU5 rfl
            · rcases hp with z | ⟨z1, z0, z2, z3⟩ | ⟨z1, z0, z2⟩
              · omega
              · exfalso; have y9 := htk z0; omega
              · refine Or.inr (Or.inl ⟨rfl, rfl, ?_, ?_⟩)
                · rw [up_f hU5, z2]; rfl
                · have e9 : us_ (ns9_ (T 111 0 103)) 1 = us_ (wr_ ((wr_ ((T1 111 0 103) * 1664525)) + 1013904223)) 1 := by rw [← z2]; rfl
                  rw [e9]; omega
  refine j_blx (F := fX11) tb_X11 (nn_ _) bk_X11_takenBelow_e_0 bs_X11_takenBelow_e_0 hz (fun K hK => ?_)
  refine dv_i (by omega) ?_
  refine rg_i (by omega) ?_
  refine hK 13 [some (vR 111 0), some (vI m), some (vI (2147483648 % m)), some (vI 0), some (vI 1)] [] T ?_
  refine c_13 _ 0 1 2 T (Nat.le_refl _) ?_ ?_
  · exact fr_0 _ _
  · exact Or.inr (Or.inr ⟨rfl, rfl, rfl⟩)
