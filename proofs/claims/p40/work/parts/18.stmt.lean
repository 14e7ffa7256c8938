theorem FI_1 {T T' : Zt} (h : FI_ T) (w : Int) (ho : ∀ j, j ≠ w → T' 204 0 j = T 204 0 j) (hw : 0 ≤ w → w < 23 → (rb_ w).1 ≤ T' 204 0 w ∧ T' 204 0 w ≤ (rb_ w).2) : FI_ T' := by
  intro j h1 h2
  by_cases e : j = w
  · subst e; exact hw h1 h2
  · rw [ho j e]; exact h j h1 h2
theorem rb_s : ∀ s : Int, 4 ≤ s → s < 14 → (rb_ (6 + s - 4)).1 = wl_267.getD (s - 4).toNat 0 ∧ (rb_ (6 + s - 4)).2 = wl_268.getD (s - 4).toNat 0 := by
  intro s h1 h2
  rcases (by omega : s = 4 ∨ s = 5 ∨ s = 6 ∨ s = 7 ∨ s = 8 ∨ s = 9 ∨ s = 10 ∨ s = 11 ∨ s = 12 ∨ s = 13) with rfl | rfl | rfl | rfl | rfl | rfl | rfl | rfl | rfl | rfl <;> exact ⟨rfl, rfl⟩
abbrev cX11_readStatement : ByteArray := prog_13_method_17_code
def yX11_readStatement : MethodName := ⟨RX11, "readStatement", "()V"⟩
def zX11_readStatement : Zm := (RX11, cX11_readStatement, 2, none, { frames := 4, cells := 0, slots := 0, locals := 86 })
theorem bk_X11_readStatement_200 : ck_ fX11 none cX11_readStatement 200 [.aload 0, .tableswitch 0 11 62 #[], .ifCond .ne 235, .aload 0] 208 = true := by decide +kernel
theorem bk_X11_readStatement_235 : ck_ fX11 none cX11_readStatement 235 [.return_] 236 = true := by decide +kernel
theorem bk_X11_readStatement_211 : ck_ fX11 none cX11_readStatement 211 [.aload 0, .tableswitch 0 11 62 #[], .ifCond .ne 235, .aload 0, .tableswitch 0 11 58 #[], .iconst 3, .if_icmp .eq 235, .aload 0, .iconst 2, .aload 0, .tableswitch 0 11 59 #[]] 232 = true := by decide +kernel
theorem bk_X11_readStatement_83 : ck_ fX11 none cX11_readStatement 83 [.aload 0, .tableswitch 0 11 62 #[], .ifCond .eq 91, .return_] 91 = true := by decide +kernel
theorem bk_X11_readStatement_91 : ck_ fX11 none cX11_readStatement 91 [.aload 0, .tableswitch 0 11 69 #[], .iload 1, .iconst 1, .bastore, .iload 1, .iconst 2, .if_icmp .ne 108, .aload 0] 104 = true := by decide +kernel
theorem bk_X11_readStatement_108 : ck_ fX11 none cX11_readStatement 108 [.iload 1, .ifCond .ne 119, .aload 0] 113 = true := by decide +kernel
theorem bk_X11_readStatement_119 : ck_ fX11 none cX11_readStatement 119 [.iload 1, .iconst 1, .if_icmp .ne 159, .aload 0, .iconst 0, .iconst 9, .iconst 1] 129 = true := by decide +kernel
theorem bk_X11_readStatement_159 : ck_ fX11 none cX11_readStatement 159 [.iload 1, .iconst 3, .if_icmp .ne 174, .aload 0, .tableswitch 0 11 4 #[], .iconst 5, .iconst 1, .iastore, .goto 200] 174 = true := by decide +kernel
theorem bk_X11_readStatement_174 : ck_ fX11 none cX11_readStatement 174 [.aload 0, .aload 0, .tableswitch 0 11 67 #[], .iload 1, .iconst 4, .isub, .iaload, .aload 0, .tableswitch 0 11 68 #[], .iload 1, .iconst 4, .isub, .iaload, .iconst 6, .iload 1, .iadd, .iconst 4, .isub] 197 = true := by decide +kernel
theorem cl_X11_304 : cv_ RX11 304 yX11_wantNumber zX11_wantNumber 11 3 := ⟨gi_V (lw_at 1820 (by decide +kernel) rfl : Cond.methodLink RX11 304 yX11_wantNumber ∈ lw_g) (lw_at 1822 (by decide +kernel) rfl : Cond.instanceMethod yX11_wantNumber ∈ lw_g) (lw_sel 78 rfl : Cond.selects yX11_wantNumber.cls yX11_wantNumber yX11_wantNumber ∈ lw_g) (lw_at 10 (by decide +kernel) rfl : Cond.initialized yX11_wantNumber.cls ∈ lw_g) (lw_at 1823 (by decide +kernel) rfl : Cond.code yX11_wantNumber cX11_wantNumber 4 none ∈ lw_g), ⟨by decide, by decide, by decide +kernel⟩, ⟨_, _, rfl⟩⟩
theorem bk_X11_readStatement_132 : ck_ fX11 none cX11_readStatement 132 [.aload 0, .iconst 0, .aload 0, .tableswitch 0 11 4 #[], .iconst 1, .iaload, .iconst 2] 141 = true := by decide +kernel
theorem bk_X11_readStatement_144 : ck_ fX11 none cX11_readStatement 144 [.aload 0, .iconst 0, .aload 0, .tableswitch 0 11 4 #[], .iconst 2, .iaload, .iconst 3] 153 = true := by decide +kernel
theorem bk_X11_readStatement_156 : ck_ fX11 none cX11_readStatement 156 [.goto 200] 159 = true := by decide +kernel
theorem cl_X11_301 : cv_ RX11 301 yX11_readSport zX11_readSport 11 0 := ⟨gi_V (lw_at 1816 (by decide +kernel) rfl : Cond.methodLink RX11 301 yX11_readSport ∈ lw_g) (lw_at 1818 (by decide +kernel) rfl : Cond.instanceMethod yX11_readSport ∈ lw_g) (lw_sel 55 rfl : Cond.selects yX11_readSport.cls yX11_readSport yX11_readSport ∈ lw_g) (lw_at 10 (by decide +kernel) rfl : Cond.initialized yX11_readSport.cls ∈ lw_g) (lw_at 1819 (by decide +kernel) rfl : Cond.code yX11_readSport cX11_readSport 2 none ∈ lw_g), ⟨by decide, by decide, by decide +kernel⟩, ⟨_, _, rfl⟩⟩
theorem bk_X11_readStatement_116 : ck_ fX11 none cX11_readStatement 116 [.goto 200] 119 = true := by decide +kernel
theorem cl_X11_298 : cv_ RX11 298 yX11_readOrder zX11_readOrder 11 0 := ⟨gi_V (lw_at 1812 (by decide +kernel) rfl : Cond.methodLink RX11 298 yX11_readOrder ∈ lw_g) (lw_at 1814 (by decide +kernel) rfl : Cond.instanceMethod yX11_readOrder ∈ lw_g) (lw_sel 54 rfl : Cond.selects yX11_readOrder.cls yX11_readOrder yX11_readOrder ∈ lw_g) (lw_at 10 (by decide +kernel) rfl : Cond.initialized yX11_readOrder.cls ∈ lw_g) (lw_at 1815 (by decide +kernel) rfl : Cond.code yX11_readOrder cX11_readOrder 3 none ∈ lw_g), ⟨by decide, by decide, by decide +kernel⟩, ⟨_, _, rfl⟩⟩
theorem bk_X11_readStatement_107 : ck_ fX11 none cX11_readStatement 107 [.return_] 108 = true := by decide +kernel
theorem bk_X11_readStatement_58 : ck_ fX11 none cX11_readStatement 58 [.aload 0, .tableswitch 0 11 62 #[], .ifCond .ne 83, .aload 0, .tableswitch 0 11 69 #[], .iload 1, .baload, .ifCond .eq 83, .aload 0, .iconst 5, .aload 0, .tableswitch 0 11 59 #[]] 80 = true := by decide +kernel
theorem bk_X11_readStatement_36 : ck_ fX11 none cX11_readStatement 36 [.istore 1, .aload 0, .tableswitch 0 11 62 #[], .ifCond .ne 58, .iload 1, .iconst (-1), .if_icmp .ne 58, .aload 0, .iconst 3, .aload 0, .tableswitch 0 11 59 #[]] 55 = true := by decide +kernel
theorem bk_X11_readStatement_17 : ck_ fX11 none cX11_readStatement 17 [.aload 0, .tableswitch 0 11 62 #[], .ifCond .ne 35, .aload 0, .aload 0, .tableswitch 0 11 64 #[]] 29 = true := by decide +kernel
theorem bk_X11_readStatement_35 : ck_ fX11 none cX11_readStatement 35 [.iconst (-1)] 36 = true := by decide +kernel
theorem bk_X11_readStatement_32 : ck_ fX11 none cX11_readStatement 32 [.goto 36] 35 = true := by decide +kernel
theorem bk_X11_readStatement_0 : ck_ fX11 none cX11_readStatement 0 [.aload 0, .tableswitch 0 11 58 #[], .iconst 1, .if_icmp .eq 17, .aload 0, .iconst 2, .aload 0, .tableswitch 0 11 59 #[]] 14 = true := by decide +kernel
abbrev po_X11_readStatement (T : Zt) : Zt → Option Zv → Prop := fun T' r => r = none ∧ fr_ [(111, [57, 58, 59, 60, 61, 62, 63]), (204, []), (269, []), (270, [])] T T' ∧ (T' 111 0 57 ≤ T 111 0 1 ∧ T 111 0 57 ≤ T' 111 0 57 ∧ (T' 111 0 62 = 0 → T 111 0 62 = 0) ∧ FI_ T' ∧ (T' 111 0 62 = 0 → T' 204 0 2 ≤ T' 204 0 1 ∧ T' 204 0 3 ≤ T' 204 0 2))
set_option maxHeartbeats 4000000 in
theorem ct_X11_readStatement {T : Zt} (h1 : T 111 0 57 ≤ T 111 0 1) (hC : CW_ T) (hFI : FI_ T) (hW : T 111 0 62 = 0 → T 204 0 2 ≤ T 204 0 1 ∧ T 204 0 3 ≤ T 204 0 2) (hq : T 111 0 59 ≤ T 111 0 60 ∧ T 111 0 60 ≤ 400) : Ct_ yX11_readStatement zX11_readStatement T [vR 111 0] (po_X11_readStatement T) := by
  refine ct_of (by decide) rfl rfl (Nat.le_of_ble_eq_true rfl) (fun hT hav => ?_)
  have hz : zX11_readStatement.2.2.2.1 = some .boolean → ∀ (T' : Zt) (x : Int), po_X11_readStatement T T' (some (vI x)) → 0 ≤ x ∧ x ≤ 1 := fun h => by cases h
  have hb_1 : 0 ≤ T 111 0 1 ∧ T 111 0 1 ≤ 400 := bd_f hT 111 1 (by decide +kernel : (tf_ 111)[1]? = some (0, 0, 0, 400)) 0
  show J_ zX11_readStatement T (po_X11_readStatement T) 0 0 0 [some (vR 111 0), none] [] T
  have c_36 : ∀ (s : Int) (T2 : Zt), (fr_ [(111, [57, 58, 59, 60, 61, 62, 63])] T T2) → (T2 111 0 57 ≤ T 111 0 1 ∧ T 111 0 57 ≤ T2 111 0 57 ∧ (T2 111 0 62 = 0 → T 111 0 62 = 0) ∧ -1 ≤ s ∧ s < 14) → J_ zX11_readStatement T (po_X11_readStatement T) 0 0 36 [some (vR 111 0), none] [vI s] T2 := by
    intro s T2 hf_36 i2
    have c_83 : ∀ (T4 : Zt), (fr_ [(111, [57, 58, 59, 60, 61, 62, 63])] T T4) → (T4 111 0 57 ≤ T 111 0 1 ∧ T 111 0 57 ≤ T4 111 0 57 ∧ (T4 111 0 62 = 0 → T 111 0 62 = 0) ∧ (T4 111 0 62 = 0 → s ≠ -1)) → J_ zX11_readStatement T (po_X11_readStatement T) 0 0 83 [some (vR 111 0), some (vI s)] [] T4 := by
      intro T4 hf_83 i4
      have c_200 : ∀ (T5 : Zt), (fr_ [(111, [57, 58, 59, 60, 61, 62, 63]), (204, []), (269, []), (270, [])] T T5) → (T5 111 0 57 ≤ T 111 0 1 ∧ T 111 0 57 ≤ T5 111 0 57 ∧ (T5 111 0 62 = 0 → T 111 0 62 = 0)) → (FI_ T5) → (T5 111 0 62 = 0 → T5 204 0 2 ≤ T5 204 0 1 ∧ T5 204 0 3 ≤ T5 204 0 2) → J_ zX11_readStatement T (po_X11_readStatement T) 0 0 200 [some (vR 111 0), none] [] T5 := by
        intro T5 hf_200 i5 g5 w5
        refine j_blk (F := fX11) tb_X11 (by decide) bk_X11_readStatement_200 hz (fun K hK => ?_)
        intro b1 b1b
        refine And.intro (fun c2 => ?_) (fun c2 => ?_)
        · refine hK 235 [some (vR 111 0), none] [] T5 ?_
          refine j_blk (F := fX11) tb_X11 (by decide) bk_X11_readStatement_235 hz (fun K hK => ?_)
          refine (show po_X11_readStatement T T5 (none) from ?_)
          exact ⟨rfl, fr_t (fr_0 _ _) (fr_s hf_200 rfl), by omega, by omega, by omega, g5, by omega⟩
        · refine hK 208 [some (vR 111 0), none] [vR 111 0] T5 ?_
          have e3 : T5 111 0 1 = T 111 0 1 := hf_200 111 0 1 rfl
          refine j_callV (y := yX11_take) (Yc := zX11_take) (rest := []) [] (ct_X11_take (T := T5) (by omega)) cl_X11_291 (by decide +kernel) (by decide) rfl (by decide +kernel) (Nat.le_of_ble_eq_true rfl) (by decide) (by decide) rfl ?_
          rintro U4 _ ⟨rfl, fU4, qU4⟩
          show J_ zX11_readStatement T (po_X11_readStatement T) 0 0 211 [some (vR 111 0), none] [] U4
          refine j_blk (F := fX11) tb_X11 (by decide) bk_X11_readStatement_211 hz (fun K hK => ?_)
          intro b5 b5b
          refine And.intro (fun c6 => ?_) (fun c6 => ?_)
          · refine hK 235 [some (vR 111 0), none] [] U4 ?_
            refine j_blk (F := fX11) tb_X11 (by decide) bk_X11_readStatement_235 hz (fun K hK => ?_)
            refine (show po_X11_readStatement T U4 (none) from ?_)
            have e7 : U4 204 0 2 = T5 204 0 2 := fU4 204 0 2 rfl
            have e8 : U4 204 0 1 = T5 204 0 1 := fU4 204 0 1 rfl
            have e9 : U4 204 0 3 = T5 204 0 3 := fU4 204 0 3 rfl
            have e10 : U4 204 0 1 = T5 204 0 1 := fU4 204 0 1 rfl
            have e11 : U4 204 0 2 = T5 204 0 2 := fU4 204 0 2 rfl
            have e12 : U4 204 0 3 = T5 204 0 3 := fU4 204 0 3 rfl
            exact ⟨rfl, fr_t (fr_t (fr_0 _ _) (fr_s hf_200 rfl)) (fr_s fU4 rfl), by omega, by omega, by omega, FI__f (ws := [(111, [57, 58, 59, 60, 61, 62, 63])]) g5 (fr_t (fr_0 _ _) (fr_s fU4 rfl)) ⟨fun _ => rfl, trivial⟩, by omega⟩
          · intro b13 b13b
            refine And.intro (fun c14 => ?_) (fun c14 => ?_)
            · refine hK 235 [some (vR 111 0), none] [] U4 ?_
              refine j_blk (F := fX11) tb_X11 (by decide) bk_X11_readStatement_235 hz (fun K hK => ?_)
              refine (show po_X11_readStatement T U4 (none) from ?_)
              have e15 : U4 204 0 2 = T5 204 0 2 := fU4 204 0 2 rfl
              have e16 : U4 204 0 1 = T5 204 0 1 := fU4 204 0 1 rfl
              have e17 : U4 204 0 3 = T5 204 0 3 := fU4 204 0 3 rfl
              have e18 : U4 204 0 1 = T5 204 0 1 := fU4 204 0 1 rfl
              have e19 : U4 204 0 2 = T5 204 0 2 := fU4 204 0 2 rfl
              have e20 : U4 204 0 3 = T5 204 0 3 := fU4 204 0 3 rfl
              exact ⟨rfl, fr_t (fr_t (fr_0 _ _) (fr_s hf_200 rfl)) (fr_s fU4 rfl), by omega, by omega, by omega, FI__f (ws := [(111, [57, 58, 59, 60, 61, 62, 63])]) g5 (fr_t (fr_0 _ _) (fr_s fU4 rfl)) ⟨fun _ => rfl, trivial⟩, by omega⟩
            · intro b21 b21b
              refine hK 232 [some (vR 111 0), none] [vI (U4 111 0 59), vI 2, vR 111 0] U4 ?_
              refine j_callV (y := yX11_bad) (Yc := zX11_bad) (rest := []) [vI 2, vI (U4 111 0 59)] (ct_X11_bad (T := U4) (by omega) (by omega)) cl_X11_281 (by decide +kernel) (by decide) rfl (by decide +kernel) (Nat.le_of_ble_eq_true rfl) (by decide) (by decide) rfl ?_
              rintro U22 _ ⟨rfl, fU22, qU22⟩
              show J_ zX11_readStatement T (po_X11_readStatement T) 0 0 235 [some (vR 111 0), none] [] U22
              refine j_blk (F := fX11) tb_X11 (by decide) bk_X11_readStatement_235 hz (fun K hK => ?_)
              refine (show po_X11_readStatement T U22 (none) from ?_)
              have e23 : U22 111 0 57 = U4 111 0 57 := fU22 111 0 57 rfl
              have e24 : U22 204 0 2 = T5 204 0 2 := (fU22 204 0 2 rfl).trans (fU4 204 0 2 rfl)
              have e25 : U22 204 0 1 = T5 204 0 1 := (fU22 204 0 1 rfl).trans (fU4 204 0 1 rfl)
              have e26 : U22 204 0 3 = T5 204 0 3 := (fU22 204 0 3 rfl).trans (fU4 204 0 3 rfl)
              have e27 : U22 204 0 1 = T5 204 0 1 := (fU22 204 0 1 rfl).trans (fU4 204 0 1 rfl)
              have e28 : U22 204 0 2 = T5 204 0 2 := (fU22 204 0 2 rfl).trans (fU4 204 0 2 rfl)
              have e29 : U22 204 0 3 = T5 204 0 3 := (fU22 204 0 3 rfl).trans (fU4 204 0 3 rfl)
              exact ⟨rfl, fr_t (fr_t (fr_t (fr_0 _ _) (fr_s hf_200 rfl)) (fr_s fU4 rfl)) (fr_s fU22 rfl), by omega, by omega, by omega, FI__f (ws := [(111, [62, 63, 57, 58, 59, 60, 61])]) g5 (fr_t (fr_t (fr_0 _ _) (fr_s fU4 rfl)) (fr_s fU22 rfl)) ⟨fun _ => rfl, trivial⟩, by omega⟩
      refine j_blk (F := fX11) tb_X11 (by decide) bk_X11_readStatement_83 hz (fun K hK => ?_)
      intro b30 b30b
      refine And.intro (fun c31 => ?_) (fun c31 => ?_)
      · refine hK 91 [some (vR 111 0), some (vI s)] [] T4 ?_
        refine j_blk (F := fX11) tb_X11 (by decide) bk_X11_readStatement_91 hz (fun K hK => ?_)
        refine iy_i (by omega) (by omega) ?_
        refine sx_nm (fun U32 hU32 => ?_)
        have e33 := up_f hU32
        refine And.intro (fun c34 => ?_) (fun c34 => ?_)
        · refine hK 108 [some (vR 111 0), some (vI s)] [] U32 ?_
          refine j_blk (F := fX11) tb_X11 (by decide) bk_X11_readStatement_108 hz (fun K hK => ?_)
          refine And.intro (fun c35 => ?_) (fun c35 => ?_)
          · refine hK 119 [some (vR 111 0), some (vI s)] [] U32 ?_
            refine j_blk (F := fX11) tb_X11 (by decide) bk_X11_readStatement_119 hz (fun K hK => ?_)
            refine And.intro (fun c36 => ?_) (fun c36 => ?_)
            · refine hK 159 [some (vR 111 0), some (vI s)] [] U32 ?_
              refine j_blk (F := fX11) tb_X11 (by decide) bk_X11_readStatement_159 hz (fun K hK => ?_)
              refine And.intro (fun c37 => ?_) (fun c37 => ?_)
              · refine hK 174 [some (vR 111 0), some (vI s)] [] U32 ?_
                refine j_blk (F := fX11) tb_X11 (by decide) bk_X11_readStatement_174 hz (fun K hK => ?_)
                refine rg_i (by omega) ?_
                refine ix_i (by omega) ?_
                intro b38 b38b
                have e39 : U32 267 0 (s - 4) = T 267 0 (s - 4) := (up_k hU32 (by decide) 0 (s - 4)).trans (hf_83 267 0 (s - 4) rfl)
                rw [e39] at b38 b38b ⊢
                have hl7 := hC.2.2.2.1 (s - 4) (by omega) (by omega)
                refine rg_i (by omega) ?_
                refine ix_i (by omega) ?_
                intro b40 b40b
                have e41 : U32 268 0 (s - 4) = T 268 0 (s - 4) := (up_k hU32 (by decide) 0 (s - 4)).trans (hf_83 268 0 (s - 4) rfl)
                rw [e41] at b40 b40b ⊢
                have hl8 := hC.2.2.2.2 (s - 4) (by omega) (by omega)
                refine rg_i (by omega) ?_
                refine rg_i (by omega) ?_
                refine hK 197 [some (vR 111 0), some (vI s)] [vI ((6 + s) - 4), vI (T 268 0 (s - 4)), vI (T 267 0 (s - 4)), vR 111 0] U32 ?_
                have e42 : U32 111 0 57 = T4 111 0 57 := up_k hU32 (by decide) 0 57
                have e43 : U32 111 0 1 = T 111 0 1 := (up_k hU32 (by decide) 0 1).trans (hf_83 111 0 1 rfl)
                refine j_callV (y := yX11_wantNumber) (Yc := zX11_wantNumber) (rest := []) [vI (T 267 0 (s - 4)), vI (T 268 0 (s - 4)), vI ((6 + s) - 4)] (ct_X11_wantNumber (T := U32) (by omega) (by omega) (by (have z9 := rb_s s (by omega) (by omega)); (have z8 := rb_all (6 + s - 4) (by omega) (by omega)); omega)) cl_X11_304 (by decide +kernel) (by decide) rfl (by decide +kernel) (Nat.le_of_ble_eq_true rfl) (by decide) (by decide) rfl ?_
                rintro U44 _ ⟨rfl, fU44, ⟨qU44a, qU44b, qU44c, qU44d, qU44e⟩⟩
                show J_ zX11_readStatement T (po_X11_readStatement T) 0 0 200 [some (vR 111 0), some (vI s)] [] U44
                refine j_drop [some (vR 111 0), none] (fun k v hk => ?_) rfl ?_
                · match k, hk with
                  | 0, hk => exact hk
                  | 1, hk => cases hk
                  | k + 2, hk => cases hk
                refine c_200 U44 ?_ ?_ ?_ ?_
                · exact fr_t (fr_u (fr_t (fr_0 _ _) (fr_s hf_83 rfl)) hU32 rfl) (fr_s fU44 rfl)
                · omega
                · have f0 : FI_ U32 := FI__f (ws := [(269, []), (111, [57, 58, 59, 60, 61, 62, 63])]) hFI (fr_u (fr_t (fr_0 _ _) (fr_s hf_83 rfl)) hU32 rfl) ⟨fun _ => rfl, trivial⟩
                  exact FI_1 f0 (6 + s - 4) qU44e (fun a b => by have z := f0 (6 + s - 4) a b; rw [(rb_s s (by omega) (by omega)).1, (rb_s s (by omega) (by omega)).2] at z ⊢; omega)
                · have y1 := qU44e 1 (by omega)
                  have v1 := (show fr_ [(269, []), (111, [57, 58, 59, 60, 61, 62, 63])] T U32 from fr_u (fr_t (fr_0 _ _) (fr_s hf_83 rfl)) hU32 rfl) 204 0 1 rfl
                  have y2 := qU44e 2 (by omega)
                  have v2 := (show fr_ [(269, []), (111, [57, 58, 59, 60, 61, 62, 63])] T U32 from fr_u (fr_t (fr_0 _ _) (fr_s hf_83 rfl)) hU32 rfl) 204 0 2 rfl
                  have y3 := qU44e 3 (by omega)
                  have v3 := (show fr_ [(269, []), (111, [57, 58, 59, 60, 61, 62, 63])] T U32 from fr_u (fr_t (fr_0 _ _) (fr_s hf_83 rfl)) hU32 rfl) 204 0 3 rfl
                  omega
              · refine iy_i (by omega) (by omega) ?_
                refine sx_nm (fun U45 hU45 => ?_)
                have e46 := up_f hU45
                refine hK 200 [some (vR 111 0), some (vI s)] [] U45 ?_
                refine j_drop [some (vR 111 0), none] (fun k v hk => ?_) rfl ?_
                · match k, hk with
                  | 0, hk => exact hk
                  | 1, hk => cases hk
                  | k + 2, hk => cases hk
                have e47 : U45 111 0 57 = T4 111 0 57 := (up_k hU45 (by decide) 0 57).trans (up_k hU32 (by decide) 0 57)
                have e48 : U45 111 0 62 = T4 111 0 62 := (up_k hU45 (by decide) 0 62).trans (up_k hU32 (by decide) 0 62)
                have e49 : U45 204 0 2 = T 204 0 2 := (up_j hU45 (by decide) 204 0).trans ((up_k hU32 (by decide) 0 2).trans (hf_83 204 0 2 rfl))
                have e50 : U45 204 0 1 = T 204 0 1 := (up_j hU45 (by decide) 204 0).trans ((up_k hU32 (by decide) 0 1).trans (hf_83 204 0 1 rfl))
                have e51 : U45 204 0 3 = T 204 0 3 := (up_j hU45 (by decide) 204 0).trans ((up_k hU32 (by decide) 0 3).trans (hf_83 204 0 3 rfl))
                refine c_200 U45 ?_ ?_ ?_ ?_
                · exact fr_u (fr_u (fr_t (fr_0 _ _) (fr_s hf_83 rfl)) hU32 rfl) hU45 rfl
                · omega
                · have f0 : FI_ U32 := FI__f (ws := [(269, []), (111, [57, 58, 59, 60, 61, 62, 63])]) hFI (fr_u (fr_t (fr_0 _ _) (fr_s hf_83 rfl)) hU32 rfl) ⟨fun _ => rfl, trivial⟩
                  exact FI_1 f0 5 (fun j hj => up_g hU45 (fun z => hj z.2.2)) (fun _ _ => by show (0 : Int) ≤ _ ∧ _ ≤ (1 : Int); rw [up_f hU45]; omega)
                have e52 : U45 204 0 1 = T 204 0 1 := (up_j hU45 (by decide) 204 0).trans ((up_k hU32 (by decide) 0 1).trans (hf_83 204 0 1 rfl))
                have e53 : U45 204 0 2 = T 204 0 2 := (up_j hU45 (by decide) 204 0).trans ((up_k hU32 (by decide) 0 2).trans (hf_83 204 0 2 rfl))
                have e54 : U45 204 0 3 = T 204 0 3 := (up_j hU45 (by decide) 204 0).trans ((up_k hU32 (by decide) 0 3).trans (hf_83 204 0 3 rfl))
                · omega
            · refine hK 129 [some (vR 111 0), some (vI s)] [vI 1, vI 9, vI 0, vR 111 0] U32 ?_
              have e55 : U32 111 0 57 = T4 111 0 57 := up_k hU32 (by decide) 0 57
              have e56 : U32 111 0 1 = T 111 0 1 := (up_k hU32 (by decide) 0 1).trans (hf_83 111 0 1 rfl)
              refine j_callV (y := yX11_wantNumber) (Yc := zX11_wantNumber) (rest := []) [vI 0, vI 9, vI 1] (ct_X11_wantNumber (T := U32) (by omega) (by omega) (by omega)) cl_X11_304 (by decide +kernel) (by decide) rfl (by decide +kernel) (Nat.le_of_ble_eq_true rfl) (by decide) (by decide) rfl ?_
              rintro U57 _ ⟨rfl, fU57, ⟨qU57a, qU57b, qU57c, qU57d, qU57e⟩⟩
              show J_ zX11_readStatement T (po_X11_readStatement T) 0 0 132 [some (vR 111 0), some (vI s)] [] U57
              refine j_blk (F := fX11) tb_X11 (by decide) bk_X11_readStatement_132 hz (fun K hK => ?_)
              refine ix_i (by omega) ?_
              intro b58 b58b
              refine hK 141 [some (vR 111 0), some (vI s)] [vI 2, vI (U57 204 0 1), vI 0, vR 111 0] U57 ?_
              have e59 : U57 111 0 1 = T 111 0 1 := (fU57 111 0 1 rfl).trans ((up_k hU32 (by decide) 0 1).trans (hf_83 111 0 1 rfl))
              refine j_callV (y := yX11_wantNumber) (Yc := zX11_wantNumber) (rest := []) [vI 0, vI (U57 204 0 1), vI 2] (ct_X11_wantNumber (T := U57) (by omega) (by omega) (by omega)) cl_X11_304 (by decide +kernel) (by decide) rfl (by decide +kernel) (Nat.le_of_ble_eq_true rfl) (by decide) (by decide) rfl ?_
              rintro U60 _ ⟨rfl, fU60, ⟨qU60a, qU60b, qU60c, qU60d, qU60e⟩⟩
              show J_ zX11_readStatement T (po_X11_readStatement T) 0 0 144 [some (vR 111 0), some (vI s)] [] U60
              refine j_blk (F := fX11) tb_X11 (by decide) bk_X11_readStatement_144 hz (fun K hK => ?_)
              refine ix_i (by omega) ?_
              intro b61 b61b
              refine hK 153 [some (vR 111 0), some (vI s)] [vI 3, vI (U60 204 0 2), vI 0, vR 111 0] U60 ?_
              have e62 : U60 111 0 1 = T 111 0 1 := (fU60 111 0 1 rfl).trans ((fU57 111 0 1 rfl).trans ((up_k hU32 (by decide) 0 1).trans (hf_83 111 0 1 rfl)))
              refine j_callV (y := yX11_wantNumber) (Yc := zX11_wantNumber) (rest := []) [vI 0, vI (U60 204 0 2), vI 3] (ct_X11_wantNumber (T := U60) (by omega) (by omega) (by omega)) cl_X11_304 (by decide +kernel) (by decide) rfl (by decide +kernel) (Nat.le_of_ble_eq_true rfl) (by decide) (by decide) rfl ?_
              rintro U63 _ ⟨rfl, fU63, ⟨qU63a, qU63b, qU63c, qU63d, qU63e⟩⟩
              show J_ zX11_readStatement T (po_X11_readStatement T) 0 0 156 [some (vR 111 0), some (vI s)] [] U63
              refine j_blk (F := fX11) tb_X11 (by decide) bk_X11_readStatement_156 hz (fun K hK => ?_)
              refine hK 200 [some (vR 111 0), some (vI s)] [] U63 ?_
              refine j_drop [some (vR 111 0), none] (fun k v hk => ?_) rfl ?_
              · match k, hk with
                | 0, hk => exact hk
                | 1, hk => cases hk
                | k + 2, hk => cases hk
              refine c_200 U63 ?_ ?_ ?_ ?_
              · exact fr_t (fr_t (fr_t (fr_u (fr_t (fr_0 _ _) (fr_s hf_83 rfl)) hU32 rfl) (fr_s fU57 rfl)) (fr_s fU60 rfl)) (fr_s fU63 rfl)
              · omega
              · have f0 : FI_ U32 := FI__f (ws := [(269, []), (111, [57, 58, 59, 60, 61, 62, 63])]) hFI (fr_u (fr_t (fr_0 _ _) (fr_s hf_83 rfl)) hU32 rfl) ⟨fun _ => rfl, trivial⟩
                have f1 : FI_ U57 := (FI_1 f0 1 qU57e (fun _ _ => by have z : (0 : Int) ≤ U32 204 0 1 ∧ U32 204 0 1 ≤ (9 : Int) := f0 1 (by omega) (by omega); show (0 : Int) ≤ _ ∧ _ ≤ (9 : Int); omega))
                have f2 : FI_ U60 := (FI_1 f1 2 qU60e (fun _ _ => by have zz : (0 : Int) ≤ U57 204 0 1 ∧ U57 204 0 1 ≤ (9 : Int) := f1 1 (by omega) (by omega); have z : (0 : Int) ≤ U57 204 0 2 ∧ U57 204 0 2 ≤ (9 : Int) := f1 2 (by omega) (by omega); show (0 : Int) ≤ _ ∧ _ ≤ (9 : Int); omega))
                exact (FI_1 f2 3 qU63e (fun _ _ => by have zz : (0 : Int) ≤ U60 204 0 2 ∧ U60 204 0 2 ≤ (9 : Int) := f2 2 (by omega) (by omega); have z : (0 : Int) ≤ U60 204 0 3 ∧ U60 204 0 3 ≤ (9 : Int) := f2 3 (by omega) (by omega); show (0 : Int) ≤ _ ∧ _ ≤ (9 : Int); omega))
              · have y1 := qU63e 1 (by omega)
                have y2 := qU63e 2 (by omega)
                have y3 := qU60e 1 (by omega)
                omega
          · refine hK 113 [some (vR 111 0), some (vI s)] [vR 111 0] U32 ?_
            have e64 : U32 111 0 57 = T4 111 0 57 := up_k hU32 (by decide) 0 57
            have e65 : U32 111 0 1 = T 111 0 1 := (up_k hU32 (by decide) 0 1).trans (hf_83 111 0 1 rfl)
            refine j_callV (y := yX11_readSport) (Yc := zX11_readSport) (rest := []) [] (ct_X11_readSport (T := U32) (by omega) (by exact CX_f (ws := [(269, []), (111, [57, 58, 59, 60, 61, 62, 63])]) hC (fr_u (fr_t (fr_0 _ _) (fr_s hf_83 rfl)) hU32 rfl) ⟨fun _ => rfl, fun _ => rfl, fun _ => rfl, fun _ => rfl, fun _ => rfl, trivial⟩)) cl_X11_301 (by decide +kernel) (by decide) rfl (by decide +kernel) (Nat.le_of_ble_eq_true rfl) (by decide) (by decide) rfl ?_
            rintro U66 _ ⟨rfl, fU66, ⟨qU66a, qU66b, qU66c, qU66d, qU66e⟩⟩
            show J_ zX11_readStatement T (po_X11_readStatement T) 0 0 116 [some (vR 111 0), some (vI s)] [] U66
            refine j_blk (F := fX11) tb_X11 (by decide) bk_X11_readStatement_116 hz (fun K hK => ?_)
            refine hK 200 [some (vR 111 0), some (vI s)] [] U66 ?_
            refine j_drop [some (vR 111 0), none] (fun k v hk => ?_) rfl ?_
            · match k, hk with
              | 0, hk => exact hk
              | 1, hk => cases hk
              | k + 2, hk => cases hk
            refine c_200 U66 ?_ ?_ ?_ ?_
            · exact fr_t (fr_u (fr_t (fr_0 _ _) (fr_s hf_83 rfl)) hU32 rfl) (fr_s fU66 rfl)
            · omega
            · exact FI_1 (FI__f (ws := [(269, []), (111, [57, 58, 59, 60, 61, 62, 63])]) hFI (fr_u (fr_t (fr_0 _ _) (fr_s hf_83 rfl)) hU32 rfl) ⟨fun _ => rfl, trivial⟩) 0 qU66d (fun _ _ => by have z := hFI 0 (by omega) (by omega); have e0 : U32 204 0 0 = T 204 0 0 := ((show fr_ [(269, []), (111, [57, 58, 59, 60, 61, 62, 63])] T U32 from fr_u (fr_t (fr_0 _ _) (fr_s hf_83 rfl)) hU32 rfl)) 204 0 0 rfl; show (0 : Int) ≤ _ ∧ _ ≤ (3 : Int); have z2 : (0 : Int) ≤ T 204 0 0 ∧ T 204 0 0 ≤ (3 : Int) := z; omega)
            · have y1 := qU66d 1 (by omega)
              have v1 := (show fr_ [(269, []), (111, [57, 58, 59, 60, 61, 62, 63])] T U32 from fr_u (fr_t (fr_0 _ _) (fr_s hf_83 rfl)) hU32 rfl) 204 0 1 rfl
              have y2 := qU66d 2 (by omega)
              have v2 := (show fr_ [(269, []), (111, [57, 58, 59, 60, 61, 62, 63])] T U32 from fr_u (fr_t (fr_0 _ _) (fr_s hf_83 rfl)) hU32 rfl) 204 0 2 rfl
              have y3 := qU66d 3 (by omega)
              have v3 := (show fr_ [(269, []), (111, [57, 58, 59, 60, 61, 62, 63])] T U32 from fr_u (fr_t (fr_0 _ _) (fr_s hf_83 rfl)) hU32 rfl) 204 0 3 rfl
              omega
        · refine hK 104 [some (vR 111 0), some (vI s)] [vR 111 0] U32 ?_
          have e67 : U32 111 0 57 = T4 111 0 57 := up_k hU32 (by decide) 0 57
          have e68 : U32 111 0 1 = T 111 0 1 := (up_k hU32 (by decide) 0 1).trans (hf_83 111 0 1 rfl)
          refine j_callV (y := yX11_readOrder) (Yc := zX11_readOrder) (rest := []) [] (ct_X11_readOrder (T := U32) (by omega) (by exact CX_f (ws := [(269, []), (111, [57, 58, 59, 60, 61, 62, 63])]) hC (fr_u (fr_t (fr_0 _ _) (fr_s hf_83 rfl)) hU32 rfl) ⟨fun _ => rfl, fun _ => rfl, fun _ => rfl, fun _ => rfl, fun _ => rfl, trivial⟩) (by exact FI__f (ws := [(269, []), (111, [57, 58, 59, 60, 61, 62, 63])]) hFI (fr_u (fr_t (fr_0 _ _) (fr_s hf_83 rfl)) hU32 rfl) ⟨fun _ => rfl, trivial⟩)) cl_X11_298 (by decide +kernel) (by decide) rfl (by decide +kernel) (Nat.le_of_ble_eq_true rfl) (by decide) (by decide) rfl ?_
          rintro U69 _ ⟨rfl, fU69, ⟨qU69a, qU69b, qU69c, qU69d, qU69f, qU69e⟩⟩
          show J_ zX11_readStatement T (po_X11_readStatement T) 0 0 107 [some (vR 111 0), some (vI s)] [] U69
          refine j_blk (F := fX11) tb_X11 (by decide) bk_X11_readStatement_107 hz (fun K hK => ?_)
          refine (show po_X11_readStatement T U69 (none) from ?_)
          have f0 : FI_ U32 := FI__f (ws := [(269, []), (111, [57, 58, 59, 60, 61, 62, 63])]) hFI (fr_u (fr_t (fr_0 _ _) (fr_s hf_83 rfl)) hU32 rfl) ⟨fun _ => rfl, trivial⟩
          have y1 := qU69d 1 (by omega) (by omega)
          have v1 := (show fr_ [(269, []), (111, [57, 58, 59, 60, 61, 62, 63])] T U32 from fr_u (fr_t (fr_0 _ _) (fr_s hf_83 rfl)) hU32 rfl) 204 0 1 rfl
          have y2 := qU69d 2 (by omega) (by omega)
          have v2 := (show fr_ [(269, []), (111, [57, 58, 59, 60, 61, 62, 63])] T U32 from fr_u (fr_t (fr_0 _ _) (fr_s hf_83 rfl)) hU32 rfl) 204 0 2 rfl
          have y3 := qU69d 3 (by omega) (by omega)
          have v3 := (show fr_ [(269, []), (111, [57, 58, 59, 60, 61, 62, 63])] T U32 from fr_u (fr_t (fr_0 _ _) (fr_s hf_83 rfl)) hU32 rfl) 204 0 3 rfl
          refine ⟨rfl, fr_t (fr_u (fr_t (fr_0 _ _) (fr_s hf_83 rfl)) hU32 rfl) (fr_s fU69 rfl), by omega, by omega, by omega, fun w a b => ?_, by omega⟩
          by_cases z : w < 16
          · by_cases z4 : w = 4
            · subst z4; show (0 : Int) ≤ _ ∧ _ ≤ (7 : Int); omega
            · rw [qU69d w z z4]; exact f0 w a b
          · have y := qU69f w (by omega) b
            rcases (by omega : w = 16 ∨ w = 17 ∨ w = 18 ∨ w = 19 ∨ w = 20 ∨ w = 21 ∨ w = 22) with rfl | rfl | rfl | rfl | rfl | rfl | rfl <;> exact y
      · refine (show po_X11_readStatement T T4 (none) from ?_)
        have e70 : T4 204 0 2 = T 204 0 2 := hf_83 204 0 2 rfl
        have e71 : T4 204 0 1 = T 204 0 1 := hf_83 204 0 1 rfl
        have e72 : T4 204 0 3 = T 204 0 3 := hf_83 204 0 3 rfl
        have e73 : T4 204 0 1 = T 204 0 1 := hf_83 204 0 1 rfl
        have e74 : T4 204 0 2 = T 204 0 2 := hf_83 204 0 2 rfl
        have e75 : T4 204 0 3 = T 204 0 3 := hf_83 204 0 3 rfl
        exact ⟨rfl, fr_t (fr_0 _ _) (fr_s hf_83 rfl), by omega, by omega, by omega, FI__f (ws := [(111, [57, 58, 59, 60, 61, 62, 63])]) hFI (fr_t (fr_0 _ _) (fr_s hf_83 rfl)) ⟨fun _ => rfl, trivial⟩, by omega⟩
    have c_58 : ∀ (T3 : Zt), (fr_ [(111, [57, 58, 59, 60, 61, 62, 63])] T T3) → (T3 111 0 57 ≤ T 111 0 1 ∧ T 111 0 57 ≤ T3 111 0 57 ∧ (T3 111 0 62 = 0 → T 111 0 62 = 0) ∧ (T3 111 0 62 = 0 → s ≠ -1)) → J_ zX11_readStatement T (po_X11_readStatement T) 0 0 58 [some (vR 111 0), some (vI s)] [] T3 := by
      intro T3 hf_58 i3
      refine j_blk (F := fX11) tb_X11 (by decide) bk_X11_readStatement_58 hz (fun K hK => ?_)
      intro b76 b76b
      refine And.intro (fun c77 => ?_) (fun c77 => ?_)
      · refine hK 83 [some (vR 111 0), some (vI s)] [] T3 ?_
        refine c_83 T3 ?_ ?_
        · exact fr_t (fr_0 _ _) (fr_s hf_58 rfl)
        · omega
      · refine ix_i (by omega) ?_
        intro b78 b78b
        have e79 : T3 269 0 s = T 269 0 s := hf_58 269 0 s rfl
        rw [e79] at b78 b78b ⊢
        refine And.intro (fun c80 => ?_) (fun c80 => ?_)
        · refine hK 83 [some (vR 111 0), some (vI s)] [] T3 ?_
          refine c_83 T3 ?_ ?_
          · exact fr_t (fr_0 _ _) (fr_s hf_58 rfl)
          · omega
        · intro b81 b81b
          refine hK 80 [some (vR 111 0), some (vI s)] [vI (T3 111 0 59), vI 5, vR 111 0] T3 ?_
          refine j_callV (y := yX11_bad) (Yc := zX11_bad) (rest := []) [vI 5, vI (T3 111 0 59)] (ct_X11_bad (T := T3) (by omega) (by omega)) cl_X11_281 (by decide +kernel) (by decide) rfl (by decide +kernel) (Nat.le_of_ble_eq_true rfl) (by decide) (by decide) rfl ?_
          rintro U82 _ ⟨rfl, fU82, qU82⟩
          show J_ zX11_readStatement T (po_X11_readStatement T) 0 0 83 [some (vR 111 0), some (vI s)] [] U82
          have e83 : U82 111 0 57 = T3 111 0 57 := fU82 111 0 57 rfl
          refine c_83 U82 ?_ ?_
          · exact fr_t (fr_t (fr_0 _ _) (fr_s hf_58 rfl)) (fr_s fU82 rfl)
          · omega
    refine j_blk (F := fX11) tb_X11 (by decide) bk_X11_readStatement_36 hz (fun K hK => ?_)
    intro b84 b84b
    refine And.intro (fun c85 => ?_) (fun c85 => ?_)
    · refine hK 58 [some (vR 111 0), some (vI s)] [] T2 ?_
      refine c_58 T2 ?_ ?_
      · exact fr_t (fr_0 _ _) (fr_s hf_36 rfl)
      · omega
    · refine And.intro (fun c86 => ?_) (fun c86 => ?_)
      · refine hK 58 [some (vR 111 0), some (vI s)] [] T2 ?_
        refine c_58 T2 ?_ ?_
        · exact fr_t (fr_0 _ _) (fr_s hf_36 rfl)
        · omega
      · intro b87 b87b
        refine hK 55 [some (vR 111 0), some (vI s)] [vI (T2 111 0 59), vI 3, vR 111 0] T2 ?_
        refine j_callV (y := yX11_bad) (Yc := zX11_bad) (rest := []) [vI 3, vI (T2 111 0 59)] (ct_X11_bad (T := T2) (by omega) (by omega)) cl_X11_281 (by decide +kernel) (by decide) rfl (by decide +kernel) (Nat.le_of_ble_eq_true rfl) (by decide) (by decide) rfl ?_
        rintro U88 _ ⟨rfl, fU88, qU88⟩
        show J_ zX11_readStatement T (po_X11_readStatement T) 0 0 58 [some (vR 111 0), some (vI s)] [] U88
        have e89 : U88 111 0 57 = T2 111 0 57 := fU88 111 0 57 rfl
        refine c_58 U88 ?_ ?_
        · exact fr_t (fr_t (fr_0 _ _) (fr_s hf_36 rfl)) (fr_s fU88 rfl)
        · omega
  have c_17 : ∀ (T1 : Zt), (fr_ [(111, [57, 58, 59, 60, 61, 62, 63])] T T1) → (T1 111 0 57 ≤ T 111 0 1 ∧ T 111 0 57 ≤ T1 111 0 57 ∧ (T1 111 0 62 = 0 → T 111 0 62 = 0) ∧ T1 111 0 59 ≤ T1 111 0 60 ∧ T1 111 0 60 ≤ 400) → J_ zX11_readStatement T (po_X11_readStatement T) 0 0 17 [some (vR 111 0), none] [] T1 := by
    intro T1 hf_17 i1
    refine j_blk (F := fX11) tb_X11 (by decide) bk_X11_readStatement_17 hz (fun K hK => ?_)
    intro b90 b90b
    refine And.intro (fun c91 => ?_) (fun c91 => ?_)
    · refine hK 35 [some (vR 111 0), none] [] T1 ?_
      refine j_blk (F := fX11) tb_X11 (by decide) bk_X11_readStatement_35 hz (fun K hK => ?_)
      refine hK 36 [some (vR 111 0), none] [vI (-1)] T1 ?_
      refine c_36 (-1) T1 ?_ ?_
      · exact fr_t (fr_0 _ _) (fr_s hf_17 rfl)
      · omega
    · refine hK 29 [some (vR 111 0), none] [vR 264 0, vR 111 0] T1 ?_
      refine j_callV (y := yX11_whichOf) (Yc := zX11_whichOf) (rest := []) [vR 264 0] (ct_X11_whichOf_264 (T := T1) (by omega) (by exact CX_f (ws := [(111, [57, 58, 59, 60, 61, 62, 63])]) hC (fr_t (fr_0 _ _) (fr_s hf_17 rfl)) ⟨fun _ => rfl, fun _ => rfl, fun _ => rfl, fun _ => rfl, fun _ => rfl, trivial⟩)) cl_X11_294 (by decide +kernel) (by decide) rfl (by decide +kernel) (Nat.le_of_ble_eq_true rfl) (by decide) (by decide) rfl ?_
      rintro _ _ ⟨rfl, x92, rfl, hx92⟩
      show J_ zX11_readStatement T (po_X11_readStatement T) 0 0 32 [some (vR 111 0), none] [vI x92] T1
      refine j_blk (F := fX11) tb_X11 (by decide) bk_X11_readStatement_32 hz (fun K hK => ?_)
      refine hK 36 [some (vR 111 0), none] [vI x92] T1 ?_
      refine c_36 x92 T1 ?_ ?_
      · exact fr_t (fr_0 _ _) (fr_s hf_17 rfl)
      · omega
  refine j_blk (F := fX11) tb_X11 (by decide) bk_X11_readStatement_0 hz (fun K hK => ?_)
  intro b93 b93b
  refine And.intro (fun c94 => ?_) (fun c94 => ?_)
  · refine hK 17 [some (vR 111 0), none] [] T ?_
    refine c_17 T ?_ ?_
    · exact fr_0 _ _
    · omega
  · intro b95 b95b
    refine hK 14 [some (vR 111 0), none] [vI (T 111 0 59), vI 2, vR 111 0] T ?_
    refine j_callV (y := yX11_bad) (Yc := zX11_bad) (rest := []) [vI 2, vI (T 111 0 59)] (ct_X11_bad (T := T) (by omega) (by omega)) cl_X11_281 (by decide +kernel) (by decide) rfl (by decide +kernel) (Nat.le_of_ble_eq_true rfl) (by decide) (by decide) rfl ?_
    rintro U96 _ ⟨rfl, fU96, qU96⟩
    show J_ zX11_readStatement T (po_X11_readStatement T) 0 0 17 [some (vR 111 0), none] [] U96
    have e97 : U96 111 0 57 = T 111 0 57 := fU96 111 0 57 rfl
    have e98 : U96 111 0 59 = T 111 0 59 := fU96 111 0 59 rfl
    have e99 : U96 111 0 60 = T 111 0 60 := fU96 111 0 60 rfl
    refine c_17 U96 ?_ ?_
    · exact fr_t (fr_0 _ _) (fr_s fU96 rfl)
    · omega
