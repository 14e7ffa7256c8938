-- whichOf over the row 264
abbrev cX11_whichOf : ByteArray := prog_13_method_12_code
def yX11_whichOf : MethodName := ⟨RX11, "whichOf", "([I)I"⟩
def zX11_whichOf : Zm := (RX11, cX11_whichOf, 7, (some .int), { frames := 0, cells := 0, slots := 0, locals := 0 })
theorem bk_X11_whichOf_7 : ck_ fX11 (some .int) cX11_whichOf 7 [.iload 4, .aload 1, .arraylength, .if_icmp .ge 126, .iconst 0, .istore 5, .iconst 1, .istore 6] 20 = true := by decide +kernel
theorem bk_X11_whichOf_126 : ck_ fX11 (some .int) cX11_whichOf 126 [.iload 2, .ireturn] 128 = true := by decide +kernel
theorem bk_X11_whichOf_78 : ck_ fX11 (some .int) cX11_whichOf 78 [.istore 6, .iinc 5 1, .goto 20] 86 = true := by decide +kernel
theorem bk_X11_whichOf_110 : ck_ fX11 (some .int) cX11_whichOf 110 [.istore 2, .iinc 3 1, .iload 4, .iload 5, .iconst 1, .iadd, .iadd, .istore 4, .goto 7] 126 = true := by decide +kernel
theorem bk_X11_whichOf_20 : ck_ fX11 (some .int) cX11_whichOf 20 [.aload 1, .iload 4, .iload 5, .iadd, .iaload, .iconst 32, .if_icmp .eq 86, .iload 6, .ifCond .eq 77, .aload 0, .tableswitch 0 11 59 #[], .iload 5, .iadd, .aload 0, .tableswitch 0 11 60 #[], .if_icmp .ge 77, .aload 0, .tableswitch 0 11 0 #[], .aload 0, .tableswitch 0 11 59 #[], .iload 5, .iadd, .iaload, .aload 1, .iload 4, .iload 5, .iadd, .iaload, .if_icmp .ne 77, .iconst 1, .goto 78] 77 = true := by decide +kernel
theorem bk_X11_whichOf_86 : ck_ fX11 (some .int) cX11_whichOf 86 [.iload 6, .ifCond .eq 109, .iload 5, .aload 0, .tableswitch 0 11 60 #[], .aload 0, .tableswitch 0 11 59 #[], .isub, .if_icmp .ne 109, .iload 3, .goto 110] 109 = true := by decide +kernel
theorem bk_X11_whichOf_109 : ck_ fX11 (some .int) cX11_whichOf 109 [.iload 2] 110 = true := by decide +kernel
theorem bk_X11_whichOf_77 : ck_ fX11 (some .int) cX11_whichOf 77 [.iconst 0] 78 = true := by decide +kernel
theorem bk_X11_whichOf_0 : ck_ fX11 (some .int) cX11_whichOf 0 [.iconst (-1), .istore 2, .iconst 0, .istore 3, .iconst 0, .istore 4] 7 = true := by decide +kernel
abbrev po_X11_whichOf_264 (T : Zt) : Zt → Option Zv → Prop := fun T' r => T = T' ∧ ∃ x : Int, r = some (vI x) ∧ (-1 ≤ x ∧ x < 14)
set_option maxHeartbeats 4000000 in
theorem ct_X11_whichOf_264 {T : Zt} (h1 : T 111 0 59 ≤ T 111 0 60 ∧ T 111 0 60 ≤ 400) (hC : CW_ T) : Ct_ yX11_whichOf zX11_whichOf T [vR 111 0, vR 264 0] (po_X11_whichOf_264 T) := by
  refine ct_of (by decide) rfl rfl (Nat.le_of_ble_eq_true rfl) (fun hT hav => ?_)
  have hz : zX11_whichOf.2.2.2.1 = some .boolean → ∀ (T' : Zt) (x : Int), po_X11_whichOf_264 T T' (some (vI x)) → 0 ≤ x ∧ x ≤ 1 := fun h => by cases h
  show J_ zX11_whichOf T (po_X11_whichOf_264 T) 0 0 0 [some (vR 111 0), some (vR 264 0), none, none, none, none, none] [] T
  have c_7 : ∀ (nn : Nat) (wh : Int) (nr : Int) (k : Int), ((82 - k).toNat) ≤ nn → (wp_264 k nr) → (-1 ≤ wh ∧ wh < 14) → (0 ≤ k ∧ k ≤ 82) → J_ zX11_whichOf T (po_X11_whichOf_264 T) 0 0 7 [some (vR 111 0), some (vR 264 0), some (vI wh), some (vI nr), some (vI k), none, none] [] T := by
    intro nn
    induction nn using Nat.strongRecOn with
    | _ nn ih_7 =>
      intro wh nr k hm_7 w1 w2 w3
      have hk9 : k = 82 ∨ k < 82 := by omega
      rcases hk9 with hk9 | hk9
      · refine j_blk (F := fX11) tb_X11 (by decide) bk_X11_whichOf_7 hz (fun K hK => ?_)
        refine And.intro (fun c9 => ?_) (fun c9 => absurd c9 (by omega))
        refine hK 126 [some (vR 111 0), some (vR 264 0), some (vI wh), some (vI nr), some (vI k), none, none] [] T ?_
        refine j_blk (F := fX11) tb_X11 (by decide) bk_X11_whichOf_126 hz (fun K hK => ?_)
        refine (show po_X11_whichOf_264 T T (some (vI wh)) from ?_)
        exact ⟨rfl, _, rfl, by omega⟩
      obtain ⟨e, hk0, he0, he1, he2, he3, hnx, hn0, hn1⟩ := ww_264 hC w1 hk9
      have c_20 : ∀ (nn : Nat) (n : Int) (b : Int), ((e - k - n).toNat) ≤ nn → (0 ≤ n ∧ k + n ≤ e ∧ 0 ≤ b ∧ b ≤ 1) → J_ zX11_whichOf T (po_X11_whichOf_264 T) 0 0 20 [some (vR 111 0), some (vR 264 0), some (vI wh), some (vI nr), some (vI k), some (vI n), some (vI b)] [] T := by
        intro nn
        induction nn using Nat.strongRecOn with
        | _ nn ih_20 =>
          intro n b hm_20 n1
          have c_78 : ∀ (v : Int), (0 ≤ v ∧ v ≤ 1) → (k + n < e) → J_ zX11_whichOf T (po_X11_whichOf_264 T) 0 0 78 [some (vR 111 0), some (vR 264 0), some (vI wh), some (vI nr), some (vI k), some (vI n), some (vI b)] [vI v] T := by
            intro v v1 v2
            refine j_blk (F := fX11) tb_X11 (by decide) bk_X11_whichOf_78 hz (fun K hK => ?_)
            refine rg_i (by omega) ?_
            refine hK 20 [some (vR 111 0), some (vR 264 0), some (vI wh), some (vI nr), some (vI k), some (vI (n + 1)), some (vI v)] [] T ?_
            refine ih_20 _ ?_ (n + 1) v (Nat.le_refl _) ?_
            · omega
            · omega
          have c_110 : ∀ (v : Int), (-1 ≤ v ∧ v < 14) → (k + n = e) → J_ zX11_whichOf T (po_X11_whichOf_264 T) 0 0 110 [some (vR 111 0), some (vR 264 0), some (vI wh), some (vI nr), some (vI k), some (vI n), some (vI b)] [vI v] T := by
            intro v v1 v2
            refine j_blk (F := fX11) tb_X11 (by decide) bk_X11_whichOf_110 hz (fun K hK => ?_)
            refine rg_i (by omega) ?_
            refine rg_i (by omega) ?_
            refine rg_i (by omega) ?_
            refine hK 7 [some (vR 111 0), some (vR 264 0), some (vI v), some (vI (nr + 1)), some (vI (k + (n + 1))), some (vI n), some (vI b)] [] T ?_
            refine j_drop [some (vR 111 0), some (vR 264 0), some (vI v), some (vI (nr + 1)), some (vI (k + (n + 1))), none, none] (fun k v hk => ?_) rfl ?_
            · match k, hk with
              | 0, hk => exact hk
              | 1, hk => exact hk
              | 2, hk => exact hk
              | 3, hk => exact hk
              | 4, hk => exact hk
              | 5, hk => cases hk
              | 6, hk => cases hk
              | k + 7, hk => cases hk
            refine ih_7 _ ?_ v (nr + 1) (k + (n + 1)) (Nat.le_refl _) ?_ ?_ ?_
            · omega
            · (have hz9 : k + (n + 1) = e + 1 := by omega); rw [hz9]; exact hnx
            · omega
            · omega
          refine j_blk (F := fX11) tb_X11 (by decide) bk_X11_whichOf_20 hz (fun K hK => ?_)
          refine rg_i (by omega) ?_
          refine ix_i (by omega) ?_
          intro b1 b1b
          refine And.intro (fun c2 => ?_) (fun c2 => ?_)
          · have hke : k + n = e := Classical.byContradiction (fun z => he2 (k + n) (by omega) (by omega) c2)
            refine hK 86 [some (vR 111 0), some (vR 264 0), some (vI wh), some (vI nr), some (vI k), some (vI n), some (vI b)] [] T ?_
            refine j_blk (F := fX11) tb_X11 (by decide) bk_X11_whichOf_86 hz (fun K hK => ?_)
            refine And.intro (fun c3 => ?_) (fun c3 => ?_)
            · refine hK 109 [some (vR 111 0), some (vR 264 0), some (vI wh), some (vI nr), some (vI k), some (vI n), some (vI b)] [] T ?_
              refine j_blk (F := fX11) tb_X11 (by decide) bk_X11_whichOf_109 hz (fun K hK => ?_)
              refine hK 110 [some (vR 111 0), some (vR 264 0), some (vI wh), some (vI nr), some (vI k), some (vI n), some (vI b)] [vI wh] T ?_
              refine c_110 wh ?_ ?_
              · omega
              · omega
            · intro b4 b4b
              intro b5 b5b
              refine rg_i (by omega) ?_
              refine And.intro (fun c6 => ?_) (fun c6 => ?_)
              · refine hK 109 [some (vR 111 0), some (vR 264 0), some (vI wh), some (vI nr), some (vI k), some (vI n), some (vI b)] [] T ?_
                refine j_blk (F := fX11) tb_X11 (by decide) bk_X11_whichOf_109 hz (fun K hK => ?_)
                refine hK 110 [some (vR 111 0), some (vR 264 0), some (vI wh), some (vI nr), some (vI k), some (vI n), some (vI b)] [vI wh] T ?_
                refine c_110 wh ?_ ?_
                · omega
                · omega
              · refine hK 110 [some (vR 111 0), some (vR 264 0), some (vI wh), some (vI nr), some (vI k), some (vI n), some (vI b)] [vI nr] T ?_
                refine c_110 nr ?_ ?_
                · omega
                · omega
          · have hke : k + n ≠ e := fun z => c2 (by rw [z]; exact he3)
            refine And.intro (fun c7 => ?_) (fun c7 => ?_)
            · refine hK 77 [some (vR 111 0), some (vR 264 0), some (vI wh), some (vI nr), some (vI k), some (vI n), some (vI b)] [] T ?_
              refine j_blk (F := fX11) tb_X11 (by decide) bk_X11_whichOf_77 hz (fun K hK => ?_)
              refine hK 78 [some (vR 111 0), some (vR 264 0), some (vI wh), some (vI nr), some (vI k), some (vI n), some (vI b)] [vI 0] T ?_
              refine c_78 0 ?_ ?_
              · omega
              · omega
            · intro b8 b8b
              refine rg_i (by omega) ?_
              intro b9 b9b
              refine And.intro (fun c10 => ?_) (fun c10 => ?_)
              · refine hK 77 [some (vR 111 0), some (vR 264 0), some (vI wh), some (vI nr), some (vI k), some (vI n), some (vI b)] [] T ?_
                refine j_blk (F := fX11) tb_X11 (by decide) bk_X11_whichOf_77 hz (fun K hK => ?_)
                refine hK 78 [some (vR 111 0), some (vR 264 0), some (vI wh), some (vI nr), some (vI k), some (vI n), some (vI b)] [vI 0] T ?_
                refine c_78 0 ?_ ?_
                · omega
                · omega
              · intro b11 b11b
                refine rg_i (by omega) ?_
                refine ix_i (by omega) ?_
                intro b12 b12b
                refine rg_i (by omega) ?_
                refine ix_i (by omega) ?_
                intro b13 b13b
                refine And.intro (fun c14 => ?_) (fun c14 => ?_)
                · refine hK 77 [some (vR 111 0), some (vR 264 0), some (vI wh), some (vI nr), some (vI k), some (vI n), some (vI b)] [] T ?_
                  refine j_blk (F := fX11) tb_X11 (by decide) bk_X11_whichOf_77 hz (fun K hK => ?_)
                  refine hK 78 [some (vR 111 0), some (vR 264 0), some (vI wh), some (vI nr), some (vI k), some (vI n), some (vI b)] [vI 0] T ?_
                  refine c_78 0 ?_ ?_
                  · omega
                  · omega
                · refine hK 78 [some (vR 111 0), some (vR 264 0), some (vI wh), some (vI nr), some (vI k), some (vI n), some (vI b)] [vI 1] T ?_
                  refine c_78 1 ?_ ?_
                  · omega
                  · omega
      refine j_blk (F := fX11) tb_X11 (by decide) bk_X11_whichOf_7 hz (fun K hK => ?_)
      refine And.intro (fun c15 => ?_) (fun c15 => ?_)
      · refine hK 126 [some (vR 111 0), some (vR 264 0), some (vI wh), some (vI nr), some (vI k), none, none] [] T ?_
        refine j_blk (F := fX11) tb_X11 (by decide) bk_X11_whichOf_126 hz (fun K hK => ?_)
        refine (show po_X11_whichOf_264 T T (some (vI wh)) from ?_)
        exact ⟨rfl, _, rfl, by omega⟩
      · refine hK 20 [some (vR 111 0), some (vR 264 0), some (vI wh), some (vI nr), some (vI k), some (vI 0), some (vI 1)] [] T ?_
        refine c_20 _ 0 1 (Nat.le_refl _) ?_
        · omega
  refine j_blk (F := fX11) tb_X11 (by decide) bk_X11_whichOf_0 hz (fun K hK => ?_)
  refine hK 7 [some (vR 111 0), some (vR 264 0), some (vI (-1)), some (vI 0), some (vI 0), none, none] [] T ?_
  refine c_7 _ (-1) 0 0 (Nat.le_refl _) ?_ ?_ ?_
  · exact Or.inl ⟨_, List.mem_cons_self⟩
  · omega
  · omega
-- whichOf over the row 265
abbrev po_X11_whichOf_265 (T : Zt) : Zt → Option Zv → Prop := fun T' r => T = T' ∧ ∃ x : Int, r = some (vI x) ∧ (-1 ≤ x ∧ x < 4)
set_option maxHeartbeats 4000000 in
theorem ct_X11_whichOf_265 {T : Zt} (h1 : T 111 0 59 ≤ T 111 0 60 ∧ T 111 0 60 ≤ 400) (hC : CW_ T) : Ct_ yX11_whichOf zX11_whichOf T [vR 111 0, vR 265 0] (po_X11_whichOf_265 T) := by
  refine ct_of (by decide) rfl rfl (Nat.le_of_ble_eq_true rfl) (fun hT hav => ?_)
  have hz : zX11_whichOf.2.2.2.1 = some .boolean → ∀ (T' : Zt) (x : Int), po_X11_whichOf_265 T T' (some (vI x)) → 0 ≤ x ∧ x ≤ 1 := fun h => by cases h
  show J_ zX11_whichOf T (po_X11_whichOf_265 T) 0 0 0 [some (vR 111 0), some (vR 265 0), none, none, none, none, none] [] T
  have c_7 : ∀ (nn : Nat) (wh : Int) (nr : Int) (k : Int), ((36 - k).toNat) ≤ nn → (wp_265 k nr) → (-1 ≤ wh ∧ wh < 4) → (0 ≤ k ∧ k ≤ 36) → J_ zX11_whichOf T (po_X11_whichOf_265 T) 0 0 7 [some (vR 111 0), some (vR 265 0), some (vI wh), some (vI nr), some (vI k), none, none] [] T := by
    intro nn
    induction nn using Nat.strongRecOn with
    | _ nn ih_7 =>
      intro wh nr k hm_7 w1 w2 w3
      have hk9 : k = 36 ∨ k < 36 := by omega
      rcases hk9 with hk9 | hk9
      · refine j_blk (F := fX11) tb_X11 (by decide) bk_X11_whichOf_7 hz (fun K hK => ?_)
        refine And.intro (fun c9 => ?_) (fun c9 => absurd c9 (by omega))
        refine hK 126 [some (vR 111 0), some (vR 265 0), some (vI wh), some (vI nr), some (vI k), none, none] [] T ?_
        refine j_blk (F := fX11) tb_X11 (by decide) bk_X11_whichOf_126 hz (fun K hK => ?_)
        refine (show po_X11_whichOf_265 T T (some (vI wh)) from ?_)
        exact ⟨rfl, _, rfl, by omega⟩
      obtain ⟨e, hk0, he0, he1, he2, he3, hnx, hn0, hn1⟩ := ww_265 hC w1 hk9
      have c_20 : ∀ (nn : Nat) (n : Int) (b : Int), ((e - k - n).toNat) ≤ nn → (0 ≤ n ∧ k + n ≤ e ∧ 0 ≤ b ∧ b ≤ 1) → J_ zX11_whichOf T (po_X11_whichOf_265 T) 0 0 20 [some (vR 111 0), some (vR 265 0), some (vI wh), some (vI nr), some (vI k), some (vI n), some (vI b)] [] T := by
        intro nn
        induction nn using Nat.strongRecOn with
        | _ nn ih_20 =>
          intro n b hm_20 n1
          have c_78 : ∀ (v : Int), (0 ≤ v ∧ v ≤ 1) → (k + n < e) → J_ zX11_whichOf T (po_X11_whichOf_265 T) 0 0 78 [some (vR 111 0), some (vR 265 0), some (vI wh), some (vI nr), some (vI k), some (vI n), some (vI b)] [vI v] T := by
            intro v v1 v2
            refine j_blk (F := fX11) tb_X11 (by decide) bk_X11_whichOf_78 hz (fun K hK => ?_)
            refine rg_i (by omega) ?_
            refine hK 20 [some (vR 111 0), some (vR 265 0), some (vI wh), some (vI nr), some (vI k), some (vI (n + 1)), some (vI v)] [] T ?_
            refine ih_20 _ ?_ (n + 1) v (Nat.le_refl _) ?_
            · omega
            · omega
          have c_110 : ∀ (v : Int), (-1 ≤ v ∧ v < 4) → (k + n = e) → J_ zX11_whichOf T (po_X11_whichOf_265 T) 0 0 110 [some (vR 111 0), some (vR 265 0), some (vI wh), some (vI nr), some (vI k), some (vI n), some (vI b)] [vI v] T := by
            intro v v1 v2
            refine j_blk (F := fX11) tb_X11 (by decide) bk_X11_whichOf_110 hz (fun K hK => ?_)
            refine rg_i (by omega) ?_
            refine rg_i (by omega) ?_
            refine rg_i (by omega) ?_
            refine hK 7 [some (vR 111 0), some (vR 265 0), some (vI v), some (vI (nr + 1)), some (vI (k + (n + 1))), some (vI n), some (vI b)] [] T ?_
            refine j_drop [some (vR 111 0), some (vR 265 0), some (vI v), some (vI (nr + 1)), some (vI (k + (n + 1))), none, none] (fun k v hk => ?_) rfl ?_
            · match k, hk with
              | 0, hk => exact hk
              | 1, hk => exact hk
              | 2, hk => exact hk
              | 3, hk => exact hk
              | 4, hk => exact hk
              | 5, hk => cases hk
              | 6, hk => cases hk
              | k + 7, hk => cases hk
            refine ih_7 _ ?_ v (nr + 1) (k + (n + 1)) (Nat.le_refl _) ?_ ?_ ?_
            · omega
            · (have hz9 : k + (n + 1) = e + 1 := by omega); rw [hz9]; exact hnx
            · omega
            · omega
          refine j_blk (F := fX11) tb_X11 (by decide) bk_X11_whichOf_20 hz (fun K hK => ?_)
          refine rg_i (by omega) ?_
          refine ix_i (by omega) ?_
          intro b1 b1b
          refine And.intro (fun c2 => ?_) (fun c2 => ?_)
          · have hke : k + n = e := Classical.byContradiction (fun z => he2 (k + n) (by omega) (by omega) c2)
            refine hK 86 [some (vR 111 0), some (vR 265 0), some (vI wh), some (vI nr), some (vI k), some (vI n), some (vI b)] [] T ?_
            refine j_blk (F := fX11) tb_X11 (by decide) bk_X11_whichOf_86 hz (fun K hK => ?_)
            refine And.intro (fun c3 => ?_) (fun c3 => ?_)
            · refine hK 109 [some (vR 111 0), some (vR 265 0), some (vI wh), some (vI nr), some (vI k), some (vI n), some (vI b)] [] T ?_
              refine j_blk (F := fX11) tb_X11 (by decide) bk_X11_whichOf_109 hz (fun K hK => ?_)
              refine hK 110 [some (vR 111 0), some (vR 265 0), some (vI wh), some (vI nr), some (vI k), some (vI n), some (vI b)] [vI wh] T ?_
              refine c_110 wh ?_ ?_
              · omega
              · omega
            · intro b4 b4b
              intro b5 b5b
              refine rg_i (by omega) ?_
              refine And.intro (fun c6 => ?_) (fun c6 => ?_)
              · refine hK 109 [some (vR 111 0), some (vR 265 0), some (vI wh), some (vI nr), some (vI k), some (vI n), some (vI b)] [] T ?_
                refine j_blk (F := fX11) tb_X11 (by decide) bk_X11_whichOf_109 hz (fun K hK => ?_)
                refine hK 110 [some (vR 111 0), some (vR 265 0), some (vI wh), some (vI nr), some (vI k), some (vI n), some (vI b)] [vI wh] T ?_
                refine c_110 wh ?_ ?_
                · omega
                · omega
              · refine hK 110 [some (vR 111 0), some (vR 265 0), some (vI wh), some (vI nr), some (vI k), some (vI n), some (vI b)] [vI nr] T ?_
                refine c_110 nr ?_ ?_
                · omega
                · omega
          · have hke : k + n ≠ e := fun z => c2 (by rw [z]; exact he3)
            refine And.intro (fun c7 => ?_) (fun c7 => ?_)
            · refine hK 77 [some (vR 111 0), some (vR 265 0), some (vI wh), some (vI nr), some (vI k), some (vI n), some (vI b)] [] T ?_
              refine j_blk (F := fX11) tb_X11 (by decide) bk_X11_whichOf_77 hz (fun K hK => ?_)
              refine hK 78 [some (vR 111 0), some (vR 265 0), some (vI wh), some (vI nr), some (vI k), some (vI n), some (vI b)] [vI 0] T ?_
              refine c_78 0 ?_ ?_
              · omega
              · omega
            · intro b8 b8b
              refine rg_i (by omega) ?_
              intro b9 b9b
              refine And.intro (fun c10 => ?_) (fun c10 => ?_)
              · refine hK 77 [some (vR 111 0), some (vR 265 0), some (vI wh), some (vI nr), some (vI k), some (vI n), some (vI b)] [] T ?_
                refine j_blk (F := fX11) tb_X11 (by decide) bk_X11_whichOf_77 hz (fun K hK => ?_)
                refine hK 78 [some (vR 111 0), some (vR 265 0), some (vI wh), some (vI nr), some (vI k), some (vI n), some (vI b)] [vI 0] T ?_
                refine c_78 0 ?_ ?_
                · omega
                · omega
              · intro b11 b11b
                refine rg_i (by omega) ?_
                refine ix_i (by omega) ?_
                intro b12 b12b
                refine rg_i (by omega) ?_
                refine ix_i (by omega) ?_
                intro b13 b13b
                refine And.intro (fun c14 => ?_) (fun c14 => ?_)
                · refine hK 77 [some (vR 111 0), some (vR 265 0), some (vI wh), some (vI nr), some (vI k), some (vI n), some (vI b)] [] T ?_
                  refine j_blk (F := fX11) tb_X11 (by decide) bk_X11_whichOf_77 hz (fun K hK => ?_)
                  refine hK 78 [some (vR 111 0), some (vR 265 0), some (vI wh), some (vI nr), some (vI k), some (vI n), some (vI b)] [vI 0] T ?_
                  refine c_78 0 ?_ ?_
                  · omega
                  · omega
                · refine hK 78 [some (vR 111 0), some (vR 265 0), some (vI wh), some (vI nr), some (vI k), some (vI n), some (vI b)] [vI 1] T ?_
                  refine c_78 1 ?_ ?_
                  · omega
                  · omega
      refine j_blk (F := fX11) tb_X11 (by decide) bk_X11_whichOf_7 hz (fun K hK => ?_)
      refine And.intro (fun c15 => ?_) (fun c15 => ?_)
      · refine hK 126 [some (vR 111 0), some (vR 265 0), some (vI wh), some (vI nr), some (vI k), none, none] [] T ?_
        refine j_blk (F := fX11) tb_X11 (by decide) bk_X11_whichOf_126 hz (fun K hK => ?_)
        refine (show po_X11_whichOf_265 T T (some (vI wh)) from ?_)
        exact ⟨rfl, _, rfl, by omega⟩
      · refine hK 20 [some (vR 111 0), some (vR 265 0), some (vI wh), some (vI nr), some (vI k), some (vI 0), some (vI 1)] [] T ?_
        refine c_20 _ 0 1 (Nat.le_refl _) ?_
        · omega
  refine j_blk (F := fX11) tb_X11 (by decide) bk_X11_whichOf_0 hz (fun K hK => ?_)
  refine hK 7 [some (vR 111 0), some (vR 265 0), some (vI (-1)), some (vI 0), some (vI 0), none, none] [] T ?_
  refine c_7 _ (-1) 0 0 (Nat.le_refl _) ?_ ?_ ?_
  · exact Or.inl ⟨_, List.mem_cons_self⟩
  · omega
  · omega
-- whichOf over the row 266
abbrev po_X11_whichOf_266 (T : Zt) : Zt → Option Zv → Prop := fun T' r => T = T' ∧ ∃ x : Int, r = some (vI x) ∧ (-1 ≤ x ∧ x < 7)
set_option maxHeartbeats 4000000 in
theorem ct_X11_whichOf_266 {T : Zt} (h1 : T 111 0 59 ≤ T 111 0 60 ∧ T 111 0 60 ≤ 400) (hC : CW_ T) : Ct_ yX11_whichOf zX11_whichOf T [vR 111 0, vR 266 0] (po_X11_whichOf_266 T) := by
  refine ct_of (by decide) rfl rfl (Nat.le_of_ble_eq_true rfl) (fun hT hav => ?_)
  have hz : zX11_whichOf.2.2.2.1 = some .boolean → ∀ (T' : Zt) (x : Int), po_X11_whichOf_266 T T' (some (vI x)) → 0 ≤ x ∧ x ≤ 1 := fun h => by cases h
  show J_ zX11_whichOf T (po_X11_whichOf_266 T) 0 0 0 [some (vR 111 0), some (vR 266 0), none, none, none, none, none] [] T
  have c_7 : ∀ (nn : Nat) (wh : Int) (nr : Int) (k : Int), ((37 - k).toNat) ≤ nn → (wp_266 k nr) → (-1 ≤ wh ∧ wh < 7) → (0 ≤ k ∧ k ≤ 37) → J_ zX11_whichOf T (po_X11_whichOf_266 T) 0 0 7 [some (vR 111 0), some (vR 266 0), some (vI wh), some (vI nr), some (vI k), none, none] [] T := by
    intro nn
    induction nn using Nat.strongRecOn with
    | _ nn ih_7 =>
      intro wh nr k hm_7 w1 w2 w3
      have hk9 : k = 37 ∨ k < 37 := by omega
      rcases hk9 with hk9 | hk9
      · refine j_blk (F := fX11) tb_X11 (by decide) bk_X11_whichOf_7 hz (fun K hK => ?_)
        refine And.intro (fun c9 => ?_) (fun c9 => absurd c9 (by omega))
        refine hK 126 [some (vR 111 0), some (vR 266 0), some (vI wh), some (vI nr), some (vI k), none, none] [] T ?_
        refine j_blk (F := fX11) tb_X11 (by decide) bk_X11_whichOf_126 hz (fun K hK => ?_)
        refine (show po_X11_whichOf_266 T T (some (vI wh)) from ?_)
        exact ⟨rfl, _, rfl, by omega⟩
      obtain ⟨e, hk0, he0, he1, he2, he3, hnx, hn0, hn1⟩ := ww_266 hC w1 hk9
      have c_20 : ∀ (nn : Nat) (n : Int) (b : Int), ((e - k - n).toNat) ≤ nn → (0 ≤ n ∧ k + n ≤ e ∧ 0 ≤ b ∧ b ≤ 1) → J_ zX11_whichOf T (po_X11_whichOf_266 T) 0 0 20 [some (vR 111 0), some (vR 266 0), some (vI wh), some (vI nr), some (vI k), some (vI n), some (vI b)] [] T := by
        intro nn
        induction nn using Nat.strongRecOn with
        | _ nn ih_20 =>
          intro n b hm_20 n1
          have c_78 : ∀ (v : Int), (0 ≤ v ∧ v ≤ 1) → (k + n < e) → J_ zX11_whichOf T (po_X11_whichOf_266 T) 0 0 78 [some (vR 111 0), some (vR 266 0), some (vI wh), some (vI nr), some (vI k), some (vI n), some (vI b)] [vI v] T := by
            intro v v1 v2
            refine j_blk (F := fX11) tb_X11 (by decide) bk_X11_whichOf_78 hz (fun K hK => ?_)
            refine rg_i (by omega) ?_
            refine hK 20 [some (vR 111 0), some (vR 266 0), some (vI wh), some (vI nr), some (vI k), some (vI (n + 1)), some (vI v)] [] T ?_
            refine ih_20 _ ?_ (n + 1) v (Nat.le_refl _) ?_
            · omega
            · omega
          have c_110 : ∀ (v : Int), (-1 ≤ v ∧ v < 7) → (k + n = e) → J_ zX11_whichOf T (po_X11_whichOf_266 T) 0 0 110 [some (vR 111 0), some (vR 266 0), some (vI wh), some (vI nr), some (vI k), some (vI n), some (vI b)] [vI v] T := by
            intro v v1 v2
            refine j_blk (F := fX11) tb_X11 (by decide) bk_X11_whichOf_110 hz (fun K hK => ?_)
            refine rg_i (by omega) ?_
            refine rg_i (by omega) ?_
            refine rg_i (by omega) ?_
            refine hK 7 [some (vR 111 0), some (vR 266 0), some (vI v), some (vI (nr + 1)), some (vI (k + (n + 1))), some (vI n), some (vI b)] [] T ?_
            refine j_drop [some (vR 111 0), some (vR 266 0), some (vI v), some (vI (nr + 1)), some (vI (k + (n + 1))), none, none] (fun k v hk => ?_) rfl ?_
            · match k, hk with
              | 0, hk => exact hk
              | 1, hk => exact hk
              | 2, hk => exact hk
              | 3, hk => exact hk
              | 4, hk => exact hk
              | 5, hk => cases hk
              | 6, hk => cases hk
              | k + 7, hk => cases hk
            refine ih_7 _ ?_ v (nr + 1) (k + (n + 1)) (Nat.le_refl _) ?_ ?_ ?_
            · omega
            · (have hz9 : k + (n + 1) = e + 1 := by omega); rw [hz9]; exact hnx
            · omega
            · omega
          refine j_blk (F := fX11) tb_X11 (by decide) bk_X11_whichOf_20 hz (fun K hK => ?_)
          refine rg_i (by omega) ?_
          refine ix_i (by omega) ?_
          intro b1 b1b
          refine And.intro (fun c2 => ?_) (fun c2 => ?_)
          · have hke : k + n = e := Classical.byContradiction (fun z => he2 (k + n) (by omega) (by omega) c2)
            refine hK 86 [some (vR 111 0), some (vR 266 0), some (vI wh), some (vI nr), some (vI k), some (vI n), some (vI b)] [] T ?_
            refine j_blk (F := fX11) tb_X11 (by decide) bk_X11_whichOf_86 hz (fun K hK => ?_)
            refine And.intro (fun c3 => ?_) (fun c3 => ?_)
            · refine hK 109 [some (vR 111 0), some (vR 266 0), some (vI wh), some (vI nr), some (vI k), some (vI n), some (vI b)] [] T ?_
              refine j_blk (F := fX11) tb_X11 (by decide) bk_X11_whichOf_109 hz (fun K hK => ?_)
              refine hK 110 [some (vR 111 0), some (vR 266 0), some (vI wh), some (vI nr), some (vI k), some (vI n), some (vI b)] [vI wh] T ?_
              refine c_110 wh ?_ ?_
              · omega
              · omega
            · intro b4 b4b
              intro b5 b5b
              refine rg_i (by omega) ?_
              refine And.intro (fun c6 => ?_) (fun c6 => ?_)
              · refine hK 109 [some (vR 111 0), some (vR 266 0), some (vI wh), some (vI nr), some (vI k), some (vI n), some (vI b)] [] T ?_
                refine j_blk (F := fX11) tb_X11 (by decide) bk_X11_whichOf_109 hz (fun K hK => ?_)
                refine hK 110 [some (vR 111 0), some (vR 266 0), some (vI wh), some (vI nr), some (vI k), some (vI n), some (vI b)] [vI wh] T ?_
                refine c_110 wh ?_ ?_
                · omega
                · omega
              · refine hK 110 [some (vR 111 0), some (vR 266 0), some (vI wh), some (vI nr), some (vI k), some (vI n), some (vI b)] [vI nr] T ?_
                refine c_110 nr ?_ ?_
                · omega
                · omega
          · have hke : k + n ≠ e := fun z => c2 (by rw [z]; exact he3)
            refine And.intro (fun c7 => ?_) (fun c7 => ?_)
            · refine hK 77 [some (vR 111 0), some (vR 266 0), some (vI wh), some (vI nr), some (vI k), some (vI n), some (vI b)] [] T ?_
              refine j_blk (F := fX11) tb_X11 (by decide) bk_X11_whichOf_77 hz (fun K hK => ?_)
              refine hK 78 [some (vR 111 0), some (vR 266 0), some (vI wh), some (vI nr), some (vI k), some (vI n), some (vI b)] [vI 0] T ?_
              refine c_78 0 ?_ ?_
              · omega
              · omega
            · intro b8 b8b
              refine rg_i (by omega) ?_
              intro b9 b9b
              refine And.intro (fun c10 => ?_) (fun c10 => ?_)
              · refine hK 77 [some (vR 111 0), some (vR 266 0), some (vI wh), some (vI nr), some (vI k), some (vI n), some (vI b)] [] T ?_
                refine j_blk (F := fX11) tb_X11 (by decide) bk_X11_whichOf_77 hz (fun K hK => ?_)
                refine hK 78 [some (vR 111 0), some (vR 266 0), some (vI wh), some (vI nr), some (vI k), some (vI n), some (vI b)] [vI 0] T ?_
                refine c_78 0 ?_ ?_
                · omega
                · omega
              · intro b11 b11b
                refine rg_i (by omega) ?_
                refine ix_i (by omega) ?_
                intro b12 b12b
                refine rg_i (by omega) ?_
                refine ix_i (by omega) ?_
                intro b13 b13b
                refine And.intro (fun c14 => ?_) (fun c14 => ?_)
                · refine hK 77 [some (vR 111 0), some (vR 266 0), some (vI wh), some (vI nr), some (vI k), some (vI n), some (vI b)] [] T ?_
                  refine j_blk (F := fX11) tb_X11 (by decide) bk_X11_whichOf_77 hz (fun K hK => ?_)
                  refine hK 78 [some (vR 111 0), some (vR 266 0), some (vI wh), some (vI nr), some (vI k), some (vI n), some (vI b)] [vI 0] T ?_
                  refine c_78 0 ?_ ?_
                  · omega
                  · omega
                · refine hK 78 [some (vR 111 0), some (vR 266 0), some (vI wh), some (vI nr), some (vI k), some (vI n), some (vI b)] [vI 1] T ?_
                  refine c_78 1 ?_ ?_
                  · omega
                  · omega
      refine j_blk (F := fX11) tb_X11 (by decide) bk_X11_whichOf_7 hz (fun K hK => ?_)
      refine And.intro (fun c15 => ?_) (fun c15 => ?_)
      · refine hK 126 [some (vR 111 0), some (vR 266 0), some (vI wh), some (vI nr), some (vI k), none, none] [] T ?_
        refine j_blk (F := fX11) tb_X11 (by decide) bk_X11_whichOf_126 hz (fun K hK => ?_)
        refine (show po_X11_whichOf_266 T T (some (vI wh)) from ?_)
        exact ⟨rfl, _, rfl, by omega⟩
      · refine hK 20 [some (vR 111 0), some (vR 266 0), some (vI wh), some (vI nr), some (vI k), some (vI 0), some (vI 1)] [] T ?_
        refine c_20 _ 0 1 (Nat.le_refl _) ?_
        · omega
  refine j_blk (F := fX11) tb_X11 (by decide) bk_X11_whichOf_0 hz (fun K hK => ?_)
  refine hK 7 [some (vR 111 0), some (vR 266 0), some (vI (-1)), some (vI 0), some (vI 0), none, none] [] T ?_
  refine c_7 _ (-1) 0 0 (Nat.le_refl _) ?_ ?_ ?_
  · exact Or.inl ⟨_, List.mem_cons_self⟩
  · omega
  · omega
