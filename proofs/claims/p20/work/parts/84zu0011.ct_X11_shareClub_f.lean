theorem bk_X11_shareClub_f_0 : ck_ fX11 (some .boolean) cX11_shareClub 0 [.aload 0, .tableswitch 0 11 32 #[], .iload 1, .iaload, .aload 0, .tableswitch 0 11 32 #[], .iload 2, .iaload, .if_icmp .eq 60, .aload 0, .tableswitch 0 11 32 #[], .iload 1, .iaload, .aload 0, .tableswitch 0 11 33 #[], .iload 2, .iaload, .if_icmp .eq 60, .aload 0, .tableswitch 0 11 33 #[], .iload 1, .iaload, .aload 0, .tableswitch 0 11 32 #[], .iload 2, .iaload, .if_icmp .eq 60, .aload 0, .tableswitch 0 11 33 #[], .iload 1, .iaload, .aload 0, .tableswitch 0 11 33 #[], .iload 2, .iaload, .if_icmp .ne 64, .iconst 1, .goto 65] 64 = true := qck_r (nn_ _) (by decide +kernel)
theorem bs_X11_shareClub_f_0 {P : Zt → Option Zv → Prop} (K : Int → Zl → List Zv → Zt → Prop) : sx_ K P [.aload 0, .tableswitch 0 11 32 #[], .iload 1, .iaload, .aload 0, .tableswitch 0 11 32 #[], .iload 2, .iaload, .if_icmp .eq 60, .aload 0, .tableswitch 0 11 32 #[], .iload 1, .iaload, .aload 0, .tableswitch 0 11 33 #[], .iload 2, .iaload, .if_icmp .eq 60, .aload 0, .tableswitch 0 11 33 #[], .iload 1, .iaload, .aload 0, .tableswitch 0 11 32 #[], .iload 2, .iaload, .if_icmp .eq 60, .aload 0, .tableswitch 0 11 33 #[], .iload 1, .iaload, .aload 0, .tableswitch 0 11 33 #[], .iload 2, .iaload, .if_icmp .ne 64, .iconst 1, .goto 65] 64 = x_aload 0 (x_g1 111 232 (x_iload 1 (x_iaload (x_aload 0 (x_g1 111 232 (x_iload 2 (x_iaload (x_if_icmp .eq 60 K (x_aload 0 (x_g1 111 232 (x_iload 1 (x_iaload (x_aload 0 (x_g1 111 233 (x_iload 2 (x_iaload (x_if_icmp .eq 60 K (x_aload 0 (x_g1 111 233 (x_iload 1 (x_iaload (x_aload 0 (x_g1 111 232 (x_iload 2 (x_iaload (x_if_icmp .eq 60 K (x_aload 0 (x_g1 111 233 (x_iload 1 (x_iaload (x_aload 0 (x_g1 111 233 (x_iload 2 (x_iaload (x_if_icmp .ne 64 K (x_iconst 1 (x_goto 65 K))))))))))))))))))))))))))))))))))))) := ((xe_aload 0).trans (congrArg (x_aload 0) ((xe_g1 (kk := 111) rfl tl_11_32).trans (congrArg (x_g1 111 232) ((xe_iload 1).trans (congrArg (x_iload 1) ((xe_iaload).trans (congrArg (x_iaload) ((xe_aload 0).trans (congrArg (x_aload 0) ((xe_g1 (kk := 111) rfl tl_11_32).trans (congrArg (x_g1 111 232) ((xe_iload 2).trans (congrArg (x_iload 2) ((xe_iaload).trans (congrArg (x_iaload) ((xe_if_icmp .eq 60).trans (congrArg (x_if_icmp .eq 60 K) ((xe_aload 0).trans (congrArg (x_aload 0) ((xe_g1 (kk := 111) rfl tl_11_32).trans (congrArg (x_g1 111 232) ((xe_iload 1).trans (congrArg (x_iload 1) ((xe_iaload).trans (congrArg (x_iaload) ((xe_aload 0).trans (congrArg (x_aload 0) ((xe_g1 (kk := 111) rfl tl_11_33).trans (congrArg (x_g1 111 233) ((xe_iload 2).trans (congrArg (x_iload 2) ((xe_iaload).trans (congrArg (x_iaload) ((xe_if_icmp .eq 60).trans (congrArg (x_if_icmp .eq 60 K) ((xe_aload 0).trans (congrArg (x_aload 0) ((xe_g1 (kk := 111) rfl tl_11_33).trans (congrArg (x_g1 111 233) ((xe_iload 1).trans (congrArg (x_iload 1) ((xe_iaload).trans (congrArg (x_iaload) ((xe_aload 0).trans (congrArg (x_aload 0) ((xe_g1 (kk := 111) rfl tl_11_32).trans (congrArg (x_g1 111 232) ((xe_iload 2).trans (congrArg (x_iload 2) ((xe_iaload).trans (congrArg (x_iaload) ((xe_if_icmp .eq 60).trans (congrArg (x_if_icmp .eq 60 K) ((xe_aload 0).trans (congrArg (x_aload 0) ((xe_g1 (kk := 111) rfl tl_11_33).trans (congrArg (x_g1 111 233) ((xe_iload 1).trans (congrArg (x_iload 1) ((xe_iaload).trans (congrArg (x_iaload) ((xe_aload 0).trans (congrArg (x_aload 0) ((xe_g1 (kk := 111) rfl tl_11_33).trans (congrArg (x_g1 111 233) ((xe_iload 2).trans (congrArg (x_iload 2) ((xe_iaload).trans (congrArg (x_iaload) ((xe_if_icmp .ne 64).trans (congrArg (x_if_icmp .ne 64 K) ((xe_iconst 1).trans (congrArg (x_iconst 1) (xe_goto 65)))))))))))))))))))))))))))))))))))))))))))))))))))))))))))))))))))))))))))
theorem bk_X11_shareClub_f_60 : ck_ fX11 (some .boolean) cX11_shareClub 60 [.iconst 1, .goto 65] 64 = true := qck_r (nn_ _) (by decide +kernel)
theorem bs_X11_shareClub_f_60 {P : Zt → Option Zv → Prop} (K : Int → Zl → List Zv → Zt → Prop) : sx_ K P [.iconst 1, .goto 65] 64 = x_iconst 1 (x_goto 65 K) := ((xe_iconst 1).trans (congrArg (x_iconst 1) (xe_goto 65)))
theorem bk_X11_shareClub_f_65 : ck_ fX11 (some .boolean) cX11_shareClub 65 [.ireturn] 66 = true := qck_r (nn_ _) (by decide +kernel)
theorem bs_X11_shareClub_f_65 {P : Zt → Option Zv → Prop} (K : Int → Zl → List Zv → Zt → Prop) : sx_ K P [.ireturn] 66 = x_ireturn P := (xe_ireturn)
theorem bk_X11_shareClub_f_64 : ck_ fX11 (some .boolean) cX11_shareClub 64 [.iconst 0, .ireturn] 66 = true := qck_r (nn_ _) (by decide +kernel)
theorem bs_X11_shareClub_f_64 {P : Zt → Option Zv → Prop} (K : Int → Zl → List Zv → Zt → Prop) : sx_ K P [.iconst 0, .ireturn] 66 = x_iconst 0 (x_ireturn P) := ((xe_iconst 0).trans (congrArg (x_iconst 0) (xe_ireturn)))
abbrev po_X11_shareClub_f (T : Zt) (a b : Int) : Zt → Option Zv → Prop := fun T' r => T = T' ∧ ∃ x : Int, r = some (vI x) ∧ ((x = 1 ∧ (T 232 0 a = T 232 0 b ∨ T 232 0 a = T 233 0 b ∨ T 233 0 a = T 232 0 b ∨ T 233 0 a = T 233 0 b)) ∨ (x = 0 ∧ ¬ (T 232 0 a = T 232 0 b ∨ T 232 0 a = T 233 0 b ∨ T 233 0 a = T 232 0 b ∨ T 233 0 a = T 233 0 b)))
set_option maxHeartbeats 4000000 in
theorem ct_X11_shareClub_f {T : Zt} {a b : Int} (h1 : 0 ≤ a ∧ a < 400) (h2 : 0 ≤ b ∧ b < 400) : Ct_ yX11_shareClub zX11_shareClub T [vR 111 0, vI a, vI b] (po_X11_shareClub_f T a b) := by
  refine ct_of pn_11 rfl rfl (Nat.le_of_ble_eq_true rfl) (fun hT hav => ?_)
  have hr_a : -2147483648 ≤ a ∧ a ≤ 2147483647 := hav (vI a) (List.mem_cons_of_mem _ List.mem_cons_self)
  have hr_b : -2147483648 ≤ b ∧ b ≤ 2147483647 := hav (vI b) (List.mem_cons_of_mem _ (List.mem_cons_of_mem _ List.mem_cons_self))
  have hz : zX11_shareClub.2.2.2.1 = some .boolean → ∀ (T' : Zt) (x : Int), po_X11_shareClub_f T a b T' (some (vI x)) → 0 ≤ x ∧ x ≤ 1 := fun _ T' x h => by obtain ⟨-, y, e, hy⟩ := h; cases e; omega
  show J_ zX11_shareClub T (po_X11_shareClub_f T a b) 0 0 0 [some (vR 111 0), some (vI a), some (vI b)] [] T
  refine j_blx (F := fX11) tb_X11 (nn_ _) bk_X11_shareClub_f_0 bs_X11_shareClub_f_0 hz (fun K hK => ?_)
  refine ix_i (by omega) ?_
  intro b1 b1b
  refine ix_i (by omega) ?_
  intro b2 b2b
  refine And.intro (fun c3 => ?_) (fun c3 => ?_)
  · refine hK 60 _ [] T ?_
    refine j_blx (F := fX11) tb_X11 (nn_ _) bk_X11_shareClub_f_60 bs_X11_shareClub_f_60 hz (fun K hK => ?_)
    refine hK 65 _ [vI 1] T ?_
    refine j_blx (F := fX11) tb_X11 (nn_ _) bk_X11_shareClub_f_65 bs_X11_shareClub_f_65 hz (fun K hK => ?_)
    refine (show po_X11_shareClub_f T a b T (some (vI 1)) from ?_)
    exact ⟨rfl, _, rfl, Or.inl ⟨rfl, by omega⟩⟩
  · refine ix_i (by omega) ?_
    intro b4 b4b
    refine ix_i (by omega) ?_
    intro b5 b5b
    refine And.intro (fun c6 => ?_) (fun c6 => ?_)
    · refine hK 60 _ [] T ?_
      refine j_blx (F := fX11) tb_X11 (nn_ _) bk_X11_shareClub_f_60 bs_X11_shareClub_f_60 hz (fun K hK => ?_)
      refine hK 65 _ [vI 1] T ?_
      refine j_blx (F := fX11) tb_X11 (nn_ _) bk_X11_shareClub_f_65 bs_X11_shareClub_f_65 hz (fun K hK => ?_)
      refine (show po_X11_shareClub_f T a b T (some (vI 1)) from ?_)
      exact ⟨rfl, _, rfl, Or.inl ⟨rfl, by omega⟩⟩
    · refine ix_i (by omega) ?_
      intro b7 b7b
      refine ix_i (by omega) ?_
      intro b8 b8b
      refine And.intro (fun c9 => ?_) (fun c9 => ?_)
      · refine hK 60 _ [] T ?_
        refine j_blx (F := fX11) tb_X11 (nn_ _) bk_X11_shareClub_f_60 bs_X11_shareClub_f_60 hz (fun K hK => ?_)
        refine hK 65 _ [vI 1] T ?_
        refine j_blx (F := fX11) tb_X11 (nn_ _) bk_X11_shareClub_f_65 bs_X11_shareClub_f_65 hz (fun K hK => ?_)
        refine (show po_X11_shareClub_f T a b T (some (vI 1)) from ?_)
        exact ⟨rfl, _, rfl, Or.inl ⟨rfl, by omega⟩⟩
      · refine ix_i (by omega) ?_
        intro b10 b10b
        refine ix_i (by omega) ?_
        intro b11 b11b
        refine And.intro (fun c12 => ?_) (fun c12 => ?_)
        · refine hK 64 _ [] T ?_
          refine j_blx (F := fX11) tb_X11 (nn_ _) bk_X11_shareClub_f_64 bs_X11_shareClub_f_64 hz (fun K hK => ?_)
          refine (show po_X11_shareClub_f T a b T (some (vI 0)) from ?_)
          exact ⟨rfl, _, rfl, Or.inr ⟨rfl, by omega⟩⟩
        · refine hK 65 _ [vI 1] T ?_
          refine j_blx (F := fX11) tb_X11 (nn_ _) bk_X11_shareClub_f_65 bs_X11_shareClub_f_65 hz (fun K hK => ?_)
          refine (show po_X11_shareClub_f T a b T (some (vI 1)) from ?_)
          exact ⟨rfl, _, rfl, Or.inl ⟨rfl, by omega⟩⟩
