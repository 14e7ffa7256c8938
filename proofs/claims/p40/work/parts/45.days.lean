abbrev cX6_standAgainst : ByteArray := prog_8_method_8_code
def yX6_standAgainst : MethodName := ⟨RX6, "standAgainst", "(LSportsHouse$Match;LSportsHouse$Match;)Z"⟩
def zX6_standAgainst : Zm := (RX6, cX6_standAgainst, 4, (some .boolean), { frames := 2, cells := 0, slots := 0, locals := 42 })
theorem bk_X6_standAgainst_0 : ck_ fX6 (some .boolean) cX6_standAgainst 0 [.aload 1, .tableswitch 0 2 6 #[], .iconst (-1), .if_icmp .ne 16, .aload 2, .tableswitch 0 2 6 #[], .iconst (-1), .if_icmp .eq 18, .iconst 0, .ireturn] 18 = true := by decide +kernel
theorem bk_X6_standAgainst_16 : ck_ fX6 (some .boolean) cX6_standAgainst 16 [.iconst 0, .ireturn] 18 = true := by decide +kernel
theorem bk_X6_standAgainst_18 : ck_ fX6 (some .boolean) cX6_standAgainst 18 [.aload 1, .tableswitch 0 2 5 #[], .aload 2, .tableswitch 0 2 5 #[], .isub] 27 = true := by decide +kernel
theorem bk_X6_standAgainst_30 : ck_ fX6 (some .boolean) cX6_standAgainst 30 [.istore 3, .iload 3, .ifCond .ne 64, .aload 0, .tableswitch 0 6 0 #[], .tableswitch 0 8 0 #[], .aload 1, .tableswitch 0 2 3 #[], .iaload, .aload 0, .tableswitch 0 6 0 #[], .tableswitch 0 8 0 #[], .aload 2, .tableswitch 0 2 3 #[], .iaload, .if_icmp .ne 64, .iconst 1, .ireturn] 64 = true := by decide +kernel
theorem bk_X6_standAgainst_64 : ck_ fX6 (some .boolean) cX6_standAgainst 64 [.iload 3, .aload 1] 66 = true := by decide +kernel
theorem cl_X6_133 : cv_ RX6 133 yX2_rest zX2_rest 2 0 := ⟨gi_V (lw_at 816 (by decide +kernel) rfl : Cond.methodLink RX6 133 yX2_rest ∈ lw_g) (lw_at 817 (by decide +kernel) rfl : Cond.instanceMethod yX2_rest ∈ lw_g) (lw_at 818 (by decide +kernel) rfl : Cond.selects yX2_rest.cls yX2_rest yX2_rest ∈ lw_g) (lw_at 16 (by decide +kernel) rfl : Cond.initialized yX2_rest.cls ∈ lw_g) (lw_at 819 (by decide +kernel) rfl : Cond.code yX2_rest cX2_rest 1 (some .int) ∈ lw_g), ⟨by decide, by decide, by decide +kernel⟩, ⟨_, _, rfl⟩⟩
theorem bk_X6_standAgainst_69 : ck_ fX6 (some .boolean) cX6_standAgainst 69 [.aload 2] 70 = true := by decide +kernel
theorem bk_X6_standAgainst_76 : ck_ fX6 (some .boolean) cX6_standAgainst 76 [.if_icmp .ge 91, .aload 1, .aload 2] 81 = true := by decide +kernel
theorem bk_X6_standAgainst_91 : ck_ fX6 (some .boolean) cX6_standAgainst 91 [.iconst 0, .ireturn] 93 = true := by decide +kernel
theorem cl_X6_140 : cs_ RX6 140 yX6_shareClub zX6_shareClub 2 := ⟨gi_S (lw_at 823 (by decide +kernel) rfl : Cond.methodLink RX6 140 yX6_shareClub ∈ lw_g) (lw_at 824 (by decide +kernel) rfl : Cond.static yX6_shareClub ∈ lw_g) (lw_at 4 (by decide +kernel) rfl : Cond.initialized yX6_shareClub.cls ∈ lw_g) (lw_at 825 (by decide +kernel) rfl : Cond.code yX6_shareClub cX6_shareClub 2 (some .boolean) ∈ lw_g), ⟨by decide, by decide, by decide +kernel⟩⟩
theorem bk_X6_standAgainst_84 : ck_ fX6 (some .boolean) cX6_standAgainst 84 [.ifCond .eq 91, .iconst 1, .goto 92] 91 = true := by decide +kernel
theorem bk_X6_standAgainst_92 : ck_ fX6 (some .boolean) cX6_standAgainst 92 [.ireturn] 93 = true := by decide +kernel
abbrev po_X6_standAgainst (T : Zt) (p : Int) (u : Int) : Zt → Option Zv → Prop := fun T' r => T = T' ∧ ∃ x : Int, r = some (vI x) ∧ (0 ≤ x ∧ x ≤ 1)
set_option maxHeartbeats 4000000 in
theorem ct_X6_standAgainst {T : Zt} {p : Int} {u : Int} : Ct_ yX6_standAgainst zX6_standAgainst T [vR 106 0, vR 102 p, vR 102 u] (po_X6_standAgainst T p u) := by
  refine ct_of (by decide) rfl rfl (Nat.le_of_ble_eq_true rfl) (fun hT hav => ?_)
  have hz : zX6_standAgainst.2.2.2.1 = some .boolean → ∀ (T' : Zt) (x : Int), po_X6_standAgainst T p u T' (some (vI x)) → 0 ≤ x ∧ x ≤ 1 := fun _ T' x h => by obtain ⟨-, y, e, hy⟩ := h; cases e; omega
  show J_ zX6_standAgainst T (po_X6_standAgainst T p u) 0 0 0 [some (vR 106 0), some (vR 102 p), some (vR 102 u), none] [] T
  refine j_blk (F := fX6) tb_X6 (by decide) bk_X6_standAgainst_0 hz (fun K hK => ?_)
  intro b1 b1b
  refine And.intro (fun c2 => ?_) (fun c2 => ?_)
  · refine hK 16 [some (vR 106 0), some (vR 102 p), some (vR 102 u), none] [] T ?_
    refine j_blk (F := fX6) tb_X6 (by decide) bk_X6_standAgainst_16 hz (fun K hK => ?_)
    refine (show po_X6_standAgainst T p u T (some (vI 0)) from ?_)
    exact ⟨rfl, _, rfl, by omega⟩
  · intro b3 b3b
    refine And.intro (fun c4 => ?_) (fun c4 => ?_)
    · refine hK 18 [some (vR 106 0), some (vR 102 p), some (vR 102 u), none] [] T ?_
      refine j_blk (F := fX6) tb_X6 (by decide) bk_X6_standAgainst_18 hz (fun K hK => ?_)
      intro b5 b5b
      intro b6 b6b
      refine rg_i (by omega) ?_
      refine hK 27 [some (vR 106 0), some (vR 102 p), some (vR 102 u), none] [vI ((T 102 p 5) - (T 102 u 5))] T ?_
      obtain ⟨x7, e8, hx7⟩ : ∃ x7 : Int, (if 0 ≤ ((T 102 p 5) - (T 102 u 5)) then ((T 102 p 5) - (T 102 u 5)) else -((T 102 p 5) - (T 102 u 5))) = x7 ∧ (0 ≤ x7 ∧ (x7 = (T 102 p 5) - (T 102 u 5) ∨ x7 = -((T 102 p 5) - (T 102 u 5)))) := ⟨_, rfl, by split <;> omega⟩
      refine j_ab (pc := 27) (by omega) (lw_at 813 (by decide +kernel) rfl : Cond.methodLink RX6 122 Lib.Math.abs.name ∈ lw_g) (lw_at 814 (by decide +kernel) rfl : Cond.static Lib.Math.abs.name ∈ lw_g) (lw_at 17 (by decide +kernel) rfl : Cond.initialized "java/lang/Math" ∈ lw_g) (lw_at 815 (by decide +kernel) rfl : Cond.code Lib.Math.abs.name Lib.Math.abs.code 1 (some .int) ∈ lw_g) (by decide +kernel) (by decide) (by decide) (by decide) (Nat.le_of_ble_eq_true rfl) ?_
      rw [e8]
      show J_ zX6_standAgainst T (po_X6_standAgainst T p u) 0 0 30 [some (vR 106 0), some (vR 102 p), some (vR 102 u), none] [vI x7] T
      refine j_blk (F := fX6) tb_X6 (by decide) bk_X6_standAgainst_30 hz (fun K hK => ?_)
      refine And.intro (fun c9 => ?_) (fun c9 => ?_)
      · refine hK 64 [some (vR 106 0), some (vR 102 p), some (vR 102 u), some (vI x7)] [] T ?_
        refine j_blk (F := fX6) tb_X6 (by decide) bk_X6_standAgainst_64 hz (fun K hK => ?_)
        refine hK 66 [some (vR 106 0), some (vR 102 p), some (vR 102 u), some (vI x7)] [vR 102 p, vI x7] T ?_
        refine j_callV (y := yX2_rest) (Yc := zX2_rest) (rest := [vI x7]) [] (ct_X2_rest (T := T)) cl_X6_133 (by decide +kernel) (by decide) rfl (by decide +kernel) (Nat.le_of_ble_eq_true rfl) (by decide) (by decide) rfl ?_
        rintro _ _ ⟨rfl, x10, rfl, hx10⟩
        show J_ zX6_standAgainst T (po_X6_standAgainst T p u) 0 0 69 [some (vR 106 0), some (vR 102 p), some (vR 102 u), some (vI x7)] [vI x10, vI x7] T
        refine j_blk (F := fX6) tb_X6 (by decide) bk_X6_standAgainst_69 hz (fun K hK => ?_)
        refine hK 70 [some (vR 106 0), some (vR 102 p), some (vR 102 u), some (vI x7)] [vR 102 u, vI x10, vI x7] T ?_
        refine j_callV (y := yX2_rest) (Yc := zX2_rest) (rest := [vI x10, vI x7]) [] (ct_X2_rest (T := T)) cl_X6_133 (by decide +kernel) (by decide) rfl (by decide +kernel) (Nat.le_of_ble_eq_true rfl) (by decide) (by decide) rfl ?_
        rintro _ _ ⟨rfl, x11, rfl, hx11⟩
        show J_ zX6_standAgainst T (po_X6_standAgainst T p u) 0 0 73 [some (vR 106 0), some (vR 102 p), some (vR 102 u), some (vI x7)] [vI x11, vI x10, vI x7] T
        obtain ⟨x12, e13, hx12⟩ : ∃ x12 : Int, (if x10 < x11 then x11 else x10) = x12 ∧ ((x12 = x10 ∨ x12 = x11) ∧ x10 ≤ x12 ∧ x11 ≤ x12) := ⟨_, rfl, by split <;> omega⟩
        refine j_mx (pc := 73) (lw_at 820 (by decide +kernel) rfl : Cond.methodLink RX6 136 Lib.Math.max.name ∈ lw_g) (lw_at 821 (by decide +kernel) rfl : Cond.static Lib.Math.max.name ∈ lw_g) (lw_at 17 (by decide +kernel) rfl : Cond.initialized "java/lang/Math" ∈ lw_g) (lw_at 822 (by decide +kernel) rfl : Cond.code Lib.Math.max.name Lib.Math.max.code 2 (some .int) ∈ lw_g) (by decide +kernel) (by decide) (by decide) (by decide) (Nat.le_of_ble_eq_true rfl) ?_
        rw [e13]
        show J_ zX6_standAgainst T (po_X6_standAgainst T p u) 0 0 76 [some (vR 106 0), some (vR 102 p), some (vR 102 u), some (vI x7)] [vI x12, vI x7] T
        refine j_blk (F := fX6) tb_X6 (by decide) bk_X6_standAgainst_76 hz (fun K hK => ?_)
        refine And.intro (fun c14 => ?_) (fun c14 => ?_)
        · refine hK 91 [some (vR 106 0), some (vR 102 p), some (vR 102 u), some (vI x7)] [] T ?_
          refine j_blk (F := fX6) tb_X6 (by decide) bk_X6_standAgainst_91 hz (fun K hK => ?_)
          refine (show po_X6_standAgainst T p u T (some (vI 0)) from ?_)
          exact ⟨rfl, _, rfl, by omega⟩
        · refine hK 81 [some (vR 106 0), some (vR 102 p), some (vR 102 u), some (vI x7)] [vR 102 u, vR 102 p] T ?_
          refine j_callS (y := yX6_shareClub) (Yc := zX6_shareClub) (rest := []) [vR 102 p, vR 102 u] (ct_X6_shareClub (T := T)) cl_X6_140 (by decide +kernel) (by decide) rfl (by decide +kernel) (Nat.le_of_ble_eq_true rfl) (by decide) (by decide) rfl ?_
          rintro _ _ ⟨rfl, x15, rfl, hx15⟩
          show J_ zX6_standAgainst T (po_X6_standAgainst T p u) 0 0 84 [some (vR 106 0), some (vR 102 p), some (vR 102 u), some (vI x7)] [vI x15] T
          refine j_blk (F := fX6) tb_X6 (by decide) bk_X6_standAgainst_84 hz (fun K hK => ?_)
          refine And.intro (fun c16 => ?_) (fun c16 => ?_)
          · refine hK 91 [some (vR 106 0), some (vR 102 p), some (vR 102 u), some (vI x7)] [] T ?_
            refine j_blk (F := fX6) tb_X6 (by decide) bk_X6_standAgainst_91 hz (fun K hK => ?_)
            refine (show po_X6_standAgainst T p u T (some (vI 0)) from ?_)
            exact ⟨rfl, _, rfl, by omega⟩
          · refine hK 92 [some (vR 106 0), some (vR 102 p), some (vR 102 u), some (vI x7)] [vI 1] T ?_
            refine j_blk (F := fX6) tb_X6 (by decide) bk_X6_standAgainst_92 hz (fun K hK => ?_)
            refine (show po_X6_standAgainst T p u T (some (vI 1)) from ?_)
            exact ⟨rfl, _, rfl, by omega⟩
      · intro b17 b17b
        refine ix_i (by omega) ?_
        intro b18 b18b
        intro b19 b19b
        refine ix_i (by omega) ?_
        intro b20 b20b
        refine And.intro (fun c21 => ?_) (fun c21 => ?_)
        · refine hK 64 [some (vR 106 0), some (vR 102 p), some (vR 102 u), some (vI x7)] [] T ?_
          refine j_blk (F := fX6) tb_X6 (by decide) bk_X6_standAgainst_64 hz (fun K hK => ?_)
          refine hK 66 [some (vR 106 0), some (vR 102 p), some (vR 102 u), some (vI x7)] [vR 102 p, vI x7] T ?_
          refine j_callV (y := yX2_rest) (Yc := zX2_rest) (rest := [vI x7]) [] (ct_X2_rest (T := T)) cl_X6_133 (by decide +kernel) (by decide) rfl (by decide +kernel) (Nat.le_of_ble_eq_true rfl) (by decide) (by decide) rfl ?_
          rintro _ _ ⟨rfl, x22, rfl, hx22⟩
          show J_ zX6_standAgainst T (po_X6_standAgainst T p u) 0 0 69 [some (vR 106 0), some (vR 102 p), some (vR 102 u), some (vI x7)] [vI x22, vI x7] T
          refine j_blk (F := fX6) tb_X6 (by decide) bk_X6_standAgainst_69 hz (fun K hK => ?_)
          refine hK 70 [some (vR 106 0), some (vR 102 p), some (vR 102 u), some (vI x7)] [vR 102 u, vI x22, vI x7] T ?_
          refine j_callV (y := yX2_rest) (Yc := zX2_rest) (rest := [vI x22, vI x7]) [] (ct_X2_rest (T := T)) cl_X6_133 (by decide +kernel) (by decide) rfl (by decide +kernel) (Nat.le_of_ble_eq_true rfl) (by decide) (by decide) rfl ?_
          rintro _ _ ⟨rfl, x23, rfl, hx23⟩
          show J_ zX6_standAgainst T (po_X6_standAgainst T p u) 0 0 73 [some (vR 106 0), some (vR 102 p), some (vR 102 u), some (vI x7)] [vI x23, vI x22, vI x7] T
          obtain ⟨x24, e25, hx24⟩ : ∃ x24 : Int, (if x22 < x23 then x23 else x22) = x24 ∧ ((x24 = x22 ∨ x24 = x23) ∧ x22 ≤ x24 ∧ x23 ≤ x24) := ⟨_, rfl, by split <;> omega⟩
          refine j_mx (pc := 73) (lw_at 820 (by decide +kernel) rfl : Cond.methodLink RX6 136 Lib.Math.max.name ∈ lw_g) (lw_at 821 (by decide +kernel) rfl : Cond.static Lib.Math.max.name ∈ lw_g) (lw_at 17 (by decide +kernel) rfl : Cond.initialized "java/lang/Math" ∈ lw_g) (lw_at 822 (by decide +kernel) rfl : Cond.code Lib.Math.max.name Lib.Math.max.code 2 (some .int) ∈ lw_g) (by decide +kernel) (by decide) (by decide) (by decide) (Nat.le_of_ble_eq_true rfl) ?_
          rw [e25]
          show J_ zX6_standAgainst T (po_X6_standAgainst T p u) 0 0 76 [some (vR 106 0), some (vR 102 p), some (vR 102 u), some (vI x7)] [vI x24, vI x7] T
          refine j_blk (F := fX6) tb_X6 (by decide) bk_X6_standAgainst_76 hz (fun K hK => ?_)
          refine And.intro (fun c26 => ?_) (fun c26 => ?_)
          · refine hK 91 [some (vR 106 0), some (vR 102 p), some (vR 102 u), some (vI x7)] [] T ?_
            refine j_blk (F := fX6) tb_X6 (by decide) bk_X6_standAgainst_91 hz (fun K hK => ?_)
            refine (show po_X6_standAgainst T p u T (some (vI 0)) from ?_)
            exact ⟨rfl, _, rfl, by omega⟩
          · refine hK 81 [some (vR 106 0), some (vR 102 p), some (vR 102 u), some (vI x7)] [vR 102 u, vR 102 p] T ?_
            refine j_callS (y := yX6_shareClub) (Yc := zX6_shareClub) (rest := []) [vR 102 p, vR 102 u] (ct_X6_shareClub (T := T)) cl_X6_140 (by decide +kernel) (by decide) rfl (by decide +kernel) (Nat.le_of_ble_eq_true rfl) (by decide) (by decide) rfl ?_
            rintro _ _ ⟨rfl, x27, rfl, hx27⟩
            show J_ zX6_standAgainst T (po_X6_standAgainst T p u) 0 0 84 [some (vR 106 0), some (vR 102 p), some (vR 102 u), some (vI x7)] [vI x27] T
            refine j_blk (F := fX6) tb_X6 (by decide) bk_X6_standAgainst_84 hz (fun K hK => ?_)
            refine And.intro (fun c28 => ?_) (fun c28 => ?_)
            · refine hK 91 [some (vR 106 0), some (vR 102 p), some (vR 102 u), some (vI x7)] [] T ?_
              refine j_blk (F := fX6) tb_X6 (by decide) bk_X6_standAgainst_91 hz (fun K hK => ?_)
              refine (show po_X6_standAgainst T p u T (some (vI 0)) from ?_)
              exact ⟨rfl, _, rfl, by omega⟩
            · refine hK 92 [some (vR 106 0), some (vR 102 p), some (vR 102 u), some (vI x7)] [vI 1] T ?_
              refine j_blk (F := fX6) tb_X6 (by decide) bk_X6_standAgainst_92 hz (fun K hK => ?_)
              refine (show po_X6_standAgainst T p u T (some (vI 1)) from ?_)
              exact ⟨rfl, _, rfl, by omega⟩
        · refine (show po_X6_standAgainst T p u T (some (vI 1)) from ?_)
          exact ⟨rfl, _, rfl, by omega⟩
    · refine (show po_X6_standAgainst T p u T (some (vI 0)) from ?_)
      exact ⟨rfl, _, rfl, by omega⟩
abbrev cX6_listAgainst : ByteArray := prog_8_method_7_code
def yX6_listAgainst : MethodName := ⟨RX6, "listAgainst", "(LSportsHouse$Match;)I"⟩
def zX6_listAgainst : Zm := (RX6, cX6_listAgainst, 5, (some .int), { frames := 3, cells := 0, slots := 0, locals := 65 })
theorem bk_X6_listAgainst_4 : ck_ fX6 (some .int) cX6_listAgainst 4 [.iload 3, .aload 0, .tableswitch 0 6 4 #[], .if_icmp .ge 64, .aload 0, .tableswitch 0 6 3 #[], .iload 3, .aaload, .astore 4, .iload 3, .aload 1, .tableswitch 0 2 1 #[], .if_icmp .eq 58, .aload 0, .aload 1, .aload 4] 32 = true := by decide +kernel
theorem bk_X6_listAgainst_64 : ck_ fX6 (some .int) cX6_listAgainst 64 [.iload 2, .ireturn] 66 = true := by decide +kernel
theorem bk_X6_listAgainst_58 : ck_ fX6 (some .int) cX6_listAgainst 58 [.iinc 3 1, .goto 4] 64 = true := by decide +kernel
theorem cl_X6_112 : cv_ RX6 112 yX6_standAgainst zX6_standAgainst 6 2 := ⟨gi_V (lw_at 809 (by decide +kernel) rfl : Cond.methodLink RX6 112 yX6_standAgainst ∈ lw_g) (lw_at 811 (by decide +kernel) rfl : Cond.instanceMethod yX6_standAgainst ∈ lw_g) (lw_sel 126 rfl : Cond.selects yX6_standAgainst.cls yX6_standAgainst yX6_standAgainst ∈ lw_g) (lw_at 4 (by decide +kernel) rfl : Cond.initialized yX6_standAgainst.cls ∈ lw_g) (lw_at 812 (by decide +kernel) rfl : Cond.code yX6_standAgainst cX6_standAgainst 4 (some .boolean) ∈ lw_g), ⟨by decide, by decide, by decide +kernel⟩, ⟨_, _, rfl⟩⟩
theorem bk_X6_listAgainst_35 : ck_ fX6 (some .int) cX6_listAgainst 35 [.ifCond .eq 58, .aload 4] 40 = true := by decide +kernel
theorem cl_X6_116 : cv_ RX6 116 yX2_phaseOfLife zX2_phaseOfLife 2 0 := ⟨gi_V (lw_at 826 (by decide +kernel) rfl : Cond.methodLink RX6 116 yX2_phaseOfLife ∈ lw_g) (lw_at 778 (by decide +kernel) rfl : Cond.instanceMethod yX2_phaseOfLife ∈ lw_g) (lw_at 779 (by decide +kernel) rfl : Cond.selects yX2_phaseOfLife.cls yX2_phaseOfLife yX2_phaseOfLife ∈ lw_g) (lw_at 16 (by decide +kernel) rfl : Cond.initialized yX2_phaseOfLife.cls ∈ lw_g) (lw_at 780 (by decide +kernel) rfl : Cond.code yX2_phaseOfLife cX2_phaseOfLife 1 (some .int) ∈ lw_g), ⟨by decide, by decide, by decide +kernel⟩, ⟨_, _, rfl⟩⟩
theorem bk_X6_listAgainst_43 : ck_ fX6 (some .int) cX6_listAgainst 43 [.ifCond .eq 48, .iconst (-1), .ireturn] 48 = true := by decide +kernel
theorem bk_X6_listAgainst_48 : ck_ fX6 (some .int) cX6_listAgainst 48 [.aload 0, .tableswitch 0 6 13 #[], .iload 2, .iload 3, .iastore, .iinc 2 1, .iinc 3 1, .goto 4] 64 = true := by decide +kernel
theorem bk_X6_listAgainst_0 : ck_ fX6 (some .int) cX6_listAgainst 0 [.iconst 0, .istore 2, .iconst 0, .istore 3] 4 = true := by decide +kernel
abbrev po_X6_listAgainst (T : Zt) (p : Int) : Zt → Option Zv → Prop := fun T' r => ∃ x : Int, r = some (vI x) ∧ fr_ [(533, [])] T T' ∧ ((-1 ≤ x ∧ x ≤ 400) ∧ ∀ j : Int, 0 ≤ j → j < x → 0 ≤ T' 533 0 j ∧ T' 533 0 j < T 106 0 4)
set_option maxHeartbeats 4000000 in
theorem ct_X6_listAgainst {T : Zt} {p : Int} (hka : KA_ T) : Ct_ yX6_listAgainst zX6_listAgainst T [vR 106 0, vR 102 p] (po_X6_listAgainst T p) := by
  refine ct_of (by decide) rfl rfl (Nat.le_of_ble_eq_true rfl) (fun hT hav => ?_)
  have hz : zX6_listAgainst.2.2.2.1 = some .boolean → ∀ (T' : Zt) (x : Int), po_X6_listAgainst T p T' (some (vI x)) → 0 ≤ x ∧ x ≤ 1 := fun h => by cases h
  have hb_matchCount : 0 ≤ T 106 0 4 ∧ T 106 0 4 ≤ 400 := bd_f hT 106 4 (by decide +kernel : (tf_ 106)[4]? = some (0, 0, 0, 400)) 0
  show J_ zX6_listAgainst T (po_X6_listAgainst T p) 0 0 0 [some (vR 106 0), some (vR 102 p), none, none, none] [] T
  have c_4 : ∀ (nn : Nat) (f : Int) (k : Int) (T1 : Zt), ((400 - k).toNat) ≤ nn → (fr_ [(533, [])] T T1) → (0 ≤ f ∧ f ≤ k ∧ 0 ≤ k ∧ k ≤ 400) → (∀ j : Int, 0 ≤ j → j < f → 0 ≤ T1 533 0 j ∧ T1 533 0 j < T 106 0 4) → J_ zX6_listAgainst T (po_X6_listAgainst T p) 0 0 4 [some (vR 106 0), some (vR 102 p), some (vI f), some (vI k), none] [] T1 := by
    intro nn
    induction nn using Nat.strongRecOn with
    | _ nn ih_4 =>
      intro f k T1 hm_4 hf_4 i1 li1
      refine j_blk (F := fX6) tb_X6 (by decide) bk_X6_listAgainst_4 hz (fun K hK => ?_)
      intro b1 b1b
      have e2 : T1 106 0 4 = T 106 0 4 := hf_4 106 0 4 rfl
      rw [e2] at b1 b1b ⊢
      refine And.intro (fun c3 => ?_) (fun c3 => ?_)
      · refine hK 64 [some (vR 106 0), some (vR 102 p), some (vI f), some (vI k), none] [] T1 ?_
        refine j_blk (F := fX6) tb_X6 (by decide) bk_X6_listAgainst_64 hz (fun K hK => ?_)
        refine (show po_X6_listAgainst T p T1 (some (vI f)) from ?_)
        exact ⟨_, rfl, fr_t (fr_0 _ _) (fr_s hf_4 rfl), by omega, li1⟩
      · refine ix_i (by omega) ?_
        have e5 : T1 523 0 k = T 523 0 k := hf_4 523 0 k rfl
        refine And.intro (fun c4 => ?_) (fun c4 => ?_)
        · exact absurd (show T 523 0 (k) = 0 by omega) (hka.2 _ (by omega) (by omega))
        · intro b6 b6b
          have e7 : T1 102 p 1 = T 102 p 1 := hf_4 102 p 1 rfl
          rw [e7] at b6 b6b ⊢
          refine And.intro (fun c8 => ?_) (fun c8 => ?_)
          · refine hK 58 [some (vR 106 0), some (vR 102 p), some (vI f), some (vI k), some (vR 102 k)] [] T1 ?_
            refine j_blk (F := fX6) tb_X6 (by decide) bk_X6_listAgainst_58 hz (fun K hK => ?_)
            refine rg_i (by omega) ?_
            refine hK 4 [some (vR 106 0), some (vR 102 p), some (vI f), some (vI (k + 1)), some (vR 102 k)] [] T1 ?_
            refine j_drop [some (vR 106 0), some (vR 102 p), some (vI f), some (vI (k + 1)), none] (fun k v hk => ?_) rfl ?_
            · match k, hk with
              | 0, hk => exact hk
              | 1, hk => exact hk
              | 2, hk => exact hk
              | 3, hk => exact hk
              | 4, hk => cases hk
              | k + 5, hk => cases hk
            refine ih_4 _ ?_ f (k + 1) T1 (Nat.le_refl _) ?_ ?_ ?_
            · omega
            · exact fr_t (fr_0 _ _) (fr_s hf_4 rfl)
            · omega
            · exact li1
          · refine hK 32 [some (vR 106 0), some (vR 102 p), some (vI f), some (vI k), some (vR 102 k)] [vR 102 k, vR 102 p, vR 106 0] T1 ?_
            refine j_callV (y := yX6_standAgainst) (Yc := zX6_standAgainst) (rest := []) [vR 102 p, vR 102 k] (ct_X6_standAgainst (T := T1)) cl_X6_112 (by decide +kernel) (by decide) rfl (by decide +kernel) (Nat.le_of_ble_eq_true rfl) (by decide) (by decide) rfl ?_
            rintro _ _ ⟨rfl, x9, rfl, hx9⟩
            show J_ zX6_listAgainst T (po_X6_listAgainst T p) 0 0 35 [some (vR 106 0), some (vR 102 p), some (vI f), some (vI k), some (vR 102 k)] [vI x9] T1
            refine j_blk (F := fX6) tb_X6 (by decide) bk_X6_listAgainst_35 hz (fun K hK => ?_)
            refine And.intro (fun c10 => ?_) (fun c10 => ?_)
            · refine hK 58 [some (vR 106 0), some (vR 102 p), some (vI f), some (vI k), some (vR 102 k)] [] T1 ?_
              refine j_blk (F := fX6) tb_X6 (by decide) bk_X6_listAgainst_58 hz (fun K hK => ?_)
              refine rg_i (by omega) ?_
              refine hK 4 [some (vR 106 0), some (vR 102 p), some (vI f), some (vI (k + 1)), some (vR 102 k)] [] T1 ?_
              refine j_drop [some (vR 106 0), some (vR 102 p), some (vI f), some (vI (k + 1)), none] (fun k v hk => ?_) rfl ?_
              · match k, hk with
                | 0, hk => exact hk
                | 1, hk => exact hk
                | 2, hk => exact hk
                | 3, hk => exact hk
                | 4, hk => cases hk
                | k + 5, hk => cases hk
              refine ih_4 _ ?_ f (k + 1) T1 (Nat.le_refl _) ?_ ?_ ?_
              · omega
              · exact fr_t (fr_0 _ _) (fr_s hf_4 rfl)
              · omega
              · exact li1
            · refine hK 40 [some (vR 106 0), some (vR 102 p), some (vI f), some (vI k), some (vR 102 k)] [vR 102 k] T1 ?_
              refine j_callV (y := yX2_phaseOfLife) (Yc := zX2_phaseOfLife) (rest := []) [] (ct_X2_phaseOfLife (T := T1)) cl_X6_116 (by decide +kernel) (by decide) rfl (by decide +kernel) (Nat.le_of_ble_eq_true rfl) (by decide) (by decide) rfl ?_
              rintro _ _ ⟨rfl, x11, rfl, hx11⟩
              show J_ zX6_listAgainst T (po_X6_listAgainst T p) 0 0 43 [some (vR 106 0), some (vR 102 p), some (vI f), some (vI k), some (vR 102 k)] [vI x11] T1
              refine j_blk (F := fX6) tb_X6 (by decide) bk_X6_listAgainst_43 hz (fun K hK => ?_)
              refine And.intro (fun c12 => ?_) (fun c12 => ?_)
              · refine hK 48 [some (vR 106 0), some (vR 102 p), some (vI f), some (vI k), some (vR 102 k)] [] T1 ?_
                refine j_blk (F := fX6) tb_X6 (by decide) bk_X6_listAgainst_48 hz (fun K hK => ?_)
                refine iy_i (by omega) (by omega) ?_
                refine sx_nm (fun U13 hU13 => ?_)
                have e14 := up_f hU13
                refine rg_i (by omega) ?_
                refine rg_i (by omega) ?_
                refine hK 4 [some (vR 106 0), some (vR 102 p), some (vI (f + 1)), some (vI (k + 1)), some (vR 102 k)] [] U13 ?_
                refine j_drop [some (vR 106 0), some (vR 102 p), some (vI (f + 1)), some (vI (k + 1)), none] (fun k v hk => ?_) rfl ?_
                · match k, hk with
                  | 0, hk => exact hk
                  | 1, hk => exact hk
                  | 2, hk => exact hk
                  | 3, hk => exact hk
                  | 4, hk => cases hk
                  | k + 5, hk => cases hk
                refine ih_4 _ ?_ (f + 1) (k + 1) U13 (Nat.le_refl _) ?_ ?_ ?_
                · omega
                · exact fr_u (fr_t (fr_0 _ _) (fr_s hf_4 rfl)) hU13 rfl
                · omega
                · intro j a b
                  by_cases z : j = f
                  · rw [z, up_f hU13]; omega
                  · rw [up_g hU13 (fun q => z q.2.2)]; exact li1 j a (by omega)
              · refine (show po_X6_listAgainst T p T1 (some (vI (-1))) from ?_)
                exact ⟨_, rfl, fr_t (fr_0 _ _) (fr_s hf_4 rfl), by omega, fun j a b => by omega⟩
  refine j_blk (F := fX6) tb_X6 (by decide) bk_X6_listAgainst_0 hz (fun K hK => ?_)
  refine hK 4 [some (vR 106 0), some (vR 102 p), some (vI 0), some (vI 0), none] [] T ?_
  refine c_4 _ 0 0 T (Nat.le_refl _) ?_ ?_ ?_
  · exact fr_0 _ _
  · omega
  · intro j a b; omega
abbrev po_J7_fill_535 (T : Zt) (p : Int) (v : Int) : Zt → Option Zv → Prop := fun T' r => r = none ∧ fr_ [(535, [])] T T' ∧ oi_ T T' p ∧ ∀ j, 0 ≤ j → j < 1000 → T' 535 p j = v
set_option maxHeartbeats 4000000 in
theorem ct_J7_fill_535 {T : Zt} {p : Int} {v : Int} (h1 : 0 ≤ v ∧ v ≤ 1) : Ct_ yJ7_fill_53178 zJ7_fill_53178 T [vR 535 p, vI v] (po_J7_fill_535 T p v) := by
  refine ct_of (by decide) rfl rfl (Nat.le_of_ble_eq_true rfl) (fun hT hav => ?_)
  have hr_v : -2147483648 ≤ v ∧ v ≤ 2147483647 := hav (vI v) (by simp)
  have hz : zJ7_fill_53178.2.2.2.1 = some .boolean → ∀ (T' : Zt) (x : Int), po_J7_fill_535 T p v T' (some (vI x)) → 0 ≤ x ∧ x ≤ 1 := fun h => by cases h
  show J_ zJ7_fill_53178 T (po_J7_fill_535 T p v) 0 0 0 [some (vR 535 p), some (vI v), none, none] [] T
  have c_5 : ∀ (nn : Nat) (j : Int) (T1 : Zt), ((1000 - j).toNat) ≤ nn → (fr_ [(535, [])] T T1) → (0 ≤ j ∧ j ≤ 1000) → (oi_ T T1 p) → (∀ q, 0 ≤ q → q < j → T1 535 p q = v) → J_ zJ7_fill_53178 T (po_J7_fill_535 T p v) 0 0 5 [some (vR 535 p), some (vI v), some (vI j), some (vI 1000)] [] T1 := by
    intro nn
    induction nn using Nat.strongRecOn with
    | _ nn ih_5 =>
      intro j T1 hm_5 hf_5 i1 o1 f1
      refine j_blk (F := fJ7) tb_J7 (by decide) bk_J7_fill_53178_5 hz (fun K hK => ?_)
      refine And.intro (fun c1 => ?_) (fun c1 => ?_)
      · refine hK 20 [some (vR 535 p), some (vI v), some (vI j), some (vI 1000)] [] T1 ?_
        refine j_blk (F := fJ7) tb_J7 (by decide) bk_J7_fill_53178_20 hz (fun K hK => ?_)
        refine (show po_J7_fill_535 T p v T1 (none) from ?_)
        exact ⟨rfl, fr_t (fr_0 _ _) (fr_s hf_5 rfl), o1, fun q a b => f1 q a (by omega)⟩
      · refine iy_i (by omega) (by omega) ?_
        refine sx_nm (fun U2 hU2 => ?_)
        have e3 := up_f hU2
        refine rg_i (by omega) ?_
        refine hK 5 [some (vR 535 p), some (vI v), some (vI (j + 1)), some (vI 1000)] [] U2 ?_
        refine ih_5 _ ?_ (j + 1) U2 (Nat.le_refl _) ?_ ?_ ?_ ?_
        · omega
        · exact fr_u (fr_t (fr_0 _ _) (fr_s hf_5 rfl)) hU2 rfl
        · omega
        · exact oi_u o1 hU2
        · intro q a b
          by_cases z : q = j
          · rw [z]; exact up_f hU2
          · rw [up_g hU2 (fun y => z y.2.2)]; exact f1 q a (by omega)
  refine j_blk (F := fJ7) tb_J7 (by decide) bk_J7_fill_53178_0 hz (fun K hK => ?_)
  refine hK 5 [some (vR 535 p), some (vI v), some (vI 0), some (vI 1000)] [] T ?_
  refine c_5 _ 0 T (Nat.le_refl _) ?_ ?_ ?_ ?_
  · exact fr_0 _ _
  · omega
  · exact oi_r
  · intro q a b; omega
abbrev cX6_blockDays : ByteArray := prog_8_method_11_code
def yX6_blockDays : MethodName := ⟨RX6, "blockDays", "(LSportsHouse$Match;)V"⟩
def zX6_blockDays : Zm := (RX6, cX6_blockDays, 7, none, { frames := 2, cells := 0, slots := 0, locals := 42 })
theorem bk_X6_blockDays_132 : ck_ fX6 none cX6_blockDays 132 [.iload 6, .iload 5, .if_icmp .gt 153, .aload 0, .tableswitch 0 6 15 #[], .iload 6, .iconst 1, .iastore, .iinc 6 1, .goto 132] 153 = true := by decide +kernel
theorem bk_X6_blockDays_153 : ck_ fX6 none cX6_blockDays 153 [.iinc 2 1, .goto 10] 159 = true := by decide +kernel
theorem bk_X6_blockDays_10 : ck_ fX6 none cX6_blockDays 10 [.iload 2, .aload 0, .tableswitch 0 6 4 #[], .if_icmp .ge 159, .aload 0, .tableswitch 0 6 3 #[], .iload 2, .aaload, .astore 3, .iload 2, .aload 1, .tableswitch 0 2 1 #[], .if_icmp .eq 153, .aload 3, .tableswitch 0 2 6 #[], .iconst (-1), .if_icmp .eq 44, .goto 153] 44 = true := by decide +kernel
theorem bk_X6_blockDays_159 : ck_ fX6 none cX6_blockDays 159 [.return_] 160 = true := by decide +kernel
theorem bk_X6_blockDays_44 : ck_ fX6 none cX6_blockDays 44 [.aload 0, .tableswitch 0 6 0 #[], .tableswitch 0 8 0 #[], .aload 1, .tableswitch 0 2 3 #[], .iaload, .aload 0, .tableswitch 0 6 0 #[], .tableswitch 0 8 0 #[], .aload 3, .tableswitch 0 2 3 #[], .iaload, .if_icmp .ne 81, .aload 0, .tableswitch 0 6 15 #[], .aload 3, .tableswitch 0 2 5 #[], .iconst 1, .iastore, .aload 1, .aload 3] 83 = true := by decide +kernel
theorem bk_X6_blockDays_81 : ck_ fX6 none cX6_blockDays 81 [.aload 1, .aload 3] 83 = true := by decide +kernel
theorem bk_X6_blockDays_86 : ck_ fX6 none cX6_blockDays 86 [.ifCond .eq 153, .aload 1] 90 = true := by decide +kernel
theorem bk_X6_blockDays_93 : ck_ fX6 none cX6_blockDays 93 [.aload 3] 94 = true := by decide +kernel
theorem bk_X6_blockDays_100 : ck_ fX6 none cX6_blockDays 100 [.iconst 1, .isub, .istore 4, .iconst 999, .aload 3, .tableswitch 0 2 5 #[], .iload 4, .iadd] 114 = true := by decide +kernel
theorem bk_X6_blockDays_117 : ck_ fX6 none cX6_blockDays 117 [.istore 5, .iconst 0, .aload 3, .tableswitch 0 2 5 #[], .iload 4, .isub] 127 = true := by decide +kernel
theorem bk_X6_blockDays_130 : ck_ fX6 none cX6_blockDays 130 [.istore 6] 132 = true := by decide +kernel
theorem bk_X6_blockDays_0 : ck_ fX6 none cX6_blockDays 0 [.aload 0, .tableswitch 0 6 15 #[], .iconst 0] 5 = true := by decide +kernel
theorem cl_X6_150 : cs_ RX6 150 yJ7_fill_53178 zJ7_fill_53178 2 := ⟨gi_S (lw_at 835 (by decide +kernel) rfl : Cond.methodLink RX6 150 yJ7_fill_53178 ∈ lw_g) (lw_at 266 (by decide +kernel) rfl : Cond.static yJ7_fill_53178 ∈ lw_g) (lw_at 7 (by decide +kernel) rfl : Cond.initialized yJ7_fill_53178.cls ∈ lw_g) (lw_at 267 (by decide +kernel) rfl : Cond.code yJ7_fill_53178 cJ7_fill_53178 4 none ∈ lw_g), ⟨by decide, by decide, by decide +kernel⟩⟩
theorem bk_X6_blockDays_8 : ck_ fX6 none cX6_blockDays 8 [.iconst 0, .istore 2] 10 = true := by decide +kernel
abbrev po_X6_blockDays (T : Zt) (p : Int) : Zt → Option Zv → Prop := fun T' r => r = none ∧ fr_ [(535, [])] T T' ∧ (0 = (0 : Int))
set_option maxHeartbeats 4000000 in
theorem ct_X6_blockDays {T : Zt} {p : Int} (hka : KA_ T) : Ct_ yX6_blockDays zX6_blockDays T [vR 106 0, vR 102 p] (po_X6_blockDays T p) := by
  refine ct_of (by decide) rfl rfl (Nat.le_of_ble_eq_true rfl) (fun hT hav => ?_)
  have hz : zX6_blockDays.2.2.2.1 = some .boolean → ∀ (T' : Zt) (x : Int), po_X6_blockDays T p T' (some (vI x)) → 0 ≤ x ∧ x ≤ 1 := fun h => by cases h
  have hb_matchCount : 0 ≤ T 106 0 4 ∧ T 106 0 4 ≤ 400 := bd_f hT 106 4 (by decide +kernel : (tf_ 106)[4]? = some (0, 0, 0, 400)) 0
  show J_ zX6_blockDays T (po_X6_blockDays T p) 0 0 0 [some (vR 106 0), some (vR 102 p), none, none, none, none, none] [] T
  have c_10 : ∀ (nn : Nat) (k : Int) (T1 : Zt), ((400 - k).toNat) ≤ nn → (fr_ [(535, [])] T T1) → (0 ≤ k ∧ k ≤ 400) → J_ zX6_blockDays T (po_X6_blockDays T p) 0 0 10 [some (vR 106 0), some (vR 102 p), some (vI k), none, none, none, none] [] T1 := by
    intro nn
    induction nn using Nat.strongRecOn with
    | _ nn ih_10 =>
      intro k T1 hm_10 hf_10 i1
      have c_132 : ∀ (nn : Nat) (to : Int) (d : Int) (T2 : Zt), ((1000 - d).toNat) ≤ nn → (fr_ [(535, [])] T T2) → (0 ≤ d ∧ to ≤ 999 ∧ k < 400) → J_ zX6_blockDays T (po_X6_blockDays T p) 0 0 132 [some (vR 106 0), some (vR 102 p), some (vI k), none, none, some (vI to), some (vI d)] [] T2 := by
        intro nn
        induction nn using Nat.strongRecOn with
        | _ nn ih_132 =>
          intro to d T2 hm_132 hf_132 i2
          refine j_blk (F := fX6) tb_X6 (by decide) bk_X6_blockDays_132 hz (fun K hK => ?_)
          refine And.intro (fun c1 => ?_) (fun c1 => ?_)
          · refine hK 153 [some (vR 106 0), some (vR 102 p), some (vI k), none, none, some (vI to), some (vI d)] [] T2 ?_
            refine j_blk (F := fX6) tb_X6 (by decide) bk_X6_blockDays_153 hz (fun K hK => ?_)
            refine rg_i (by omega) ?_
            refine hK 10 [some (vR 106 0), some (vR 102 p), some (vI (k + 1)), none, none, some (vI to), some (vI d)] [] T2 ?_
            refine j_drop [some (vR 106 0), some (vR 102 p), some (vI (k + 1)), none, none, none, none] (fun k v hk => ?_) rfl ?_
            · match k, hk with
              | 0, hk => exact hk
              | 1, hk => exact hk
              | 2, hk => exact hk
              | 3, hk => cases hk
              | 4, hk => cases hk
              | 5, hk => cases hk
              | 6, hk => cases hk
              | k + 7, hk => cases hk
            refine ih_10 _ ?_ (k + 1) T2 (Nat.le_refl _) ?_ ?_
            · omega
            · exact fr_t (fr_0 _ _) (fr_s hf_132 rfl)
            · omega
          · refine iy_i (by omega) (by omega) ?_
            refine sx_nm (fun U2 hU2 => ?_)
            have e3 := up_f hU2
            refine rg_i (by omega) ?_
            refine hK 132 [some (vR 106 0), some (vR 102 p), some (vI k), none, none, some (vI to), some (vI (d + 1))] [] U2 ?_
            refine ih_132 _ ?_ to (d + 1) U2 (Nat.le_refl _) ?_ ?_
            · omega
            · exact fr_u (fr_t (fr_0 _ _) (fr_s hf_132 rfl)) hU2 rfl
            · omega
      refine j_blk (F := fX6) tb_X6 (by decide) bk_X6_blockDays_10 hz (fun K hK => ?_)
      intro b4 b4b
      have e5 : T1 106 0 4 = T 106 0 4 := hf_10 106 0 4 rfl
      rw [e5] at b4 b4b ⊢
      refine And.intro (fun c6 => ?_) (fun c6 => ?_)
      · refine hK 159 [some (vR 106 0), some (vR 102 p), some (vI k), none, none, none, none] [] T1 ?_
        refine j_blk (F := fX6) tb_X6 (by decide) bk_X6_blockDays_159 hz (fun K hK => ?_)
        refine (show po_X6_blockDays T p T1 (none) from ?_)
        exact ⟨rfl, fr_t (fr_0 _ _) (fr_s hf_10 rfl), by rfl⟩
      · refine ix_i (by omega) ?_
        have e8 : T1 523 0 k = T 523 0 k := hf_10 523 0 k rfl
        refine And.intro (fun c7 => ?_) (fun c7 => ?_)
        · exact absurd (show T 523 0 (k) = 0 by omega) (hka.2 _ (by omega) (by omega))
        · intro b9 b9b
          have e10 : T1 102 p 1 = T 102 p 1 := hf_10 102 p 1 rfl
          rw [e10] at b9 b9b ⊢
          refine And.intro (fun c11 => ?_) (fun c11 => ?_)
          · refine hK 153 [some (vR 106 0), some (vR 102 p), some (vI k), some (vR 102 k), none, none, none] [] T1 ?_
            refine j_blk (F := fX6) tb_X6 (by decide) bk_X6_blockDays_153 hz (fun K hK => ?_)
            refine rg_i (by omega) ?_
            refine hK 10 [some (vR 106 0), some (vR 102 p), some (vI (k + 1)), some (vR 102 k), none, none, none] [] T1 ?_
            refine j_drop [some (vR 106 0), some (vR 102 p), some (vI (k + 1)), none, none, none, none] (fun k v hk => ?_) rfl ?_
            · match k, hk with
              | 0, hk => exact hk
              | 1, hk => exact hk
              | 2, hk => exact hk
              | 3, hk => cases hk
              | 4, hk => cases hk
              | 5, hk => cases hk
              | 6, hk => cases hk
              | k + 7, hk => cases hk
            refine ih_10 _ ?_ (k + 1) T1 (Nat.le_refl _) ?_ ?_
            · omega
            · exact fr_t (fr_0 _ _) (fr_s hf_10 rfl)
            · omega
          · intro b12 b12b
            have e13 : T1 102 k 6 = T 102 k 6 := hf_10 102 k 6 rfl
            rw [e13] at b12 b12b ⊢
            refine And.intro (fun c14 => ?_) (fun c14 => ?_)
            · refine hK 44 [some (vR 106 0), some (vR 102 p), some (vI k), some (vR 102 k), none, none, none] [] T1 ?_
              refine j_blk (F := fX6) tb_X6 (by decide) bk_X6_blockDays_44 hz (fun K hK => ?_)
              intro b15 b15b
              have e16 : T1 102 p 3 = T 102 p 3 := hf_10 102 p 3 rfl
              rw [e16] at b15 b15b ⊢
              refine ix_i (by omega) ?_
              intro b17 b17b
              have e18 : T1 560 0 (T 102 p 3) = T 560 0 (T 102 p 3) := hf_10 560 0 (T 102 p 3) rfl
              rw [e18] at b17 b17b ⊢
              intro b19 b19b
              have e20 : T1 102 k 3 = T 102 k 3 := hf_10 102 k 3 rfl
              rw [e20] at b19 b19b ⊢
              refine ix_i (by omega) ?_
              intro b21 b21b
              have e22 : T1 560 0 (T 102 k 3) = T 560 0 (T 102 k 3) := hf_10 560 0 (T 102 k 3) rfl
              rw [e22] at b21 b21b ⊢
              refine And.intro (fun c23 => ?_) (fun c23 => ?_)
              · refine hK 81 [some (vR 106 0), some (vR 102 p), some (vI k), some (vR 102 k), none, none, none] [] T1 ?_
                refine j_blk (F := fX6) tb_X6 (by decide) bk_X6_blockDays_81 hz (fun K hK => ?_)
                refine hK 83 [some (vR 106 0), some (vR 102 p), some (vI k), some (vR 102 k), none, none, none] [vR 102 k, vR 102 p] T1 ?_
                refine j_callS (y := yX6_shareClub) (Yc := zX6_shareClub) (rest := []) [vR 102 p, vR 102 k] (ct_X6_shareClub (T := T1)) cl_X6_140 (by decide +kernel) (by decide) rfl (by decide +kernel) (Nat.le_of_ble_eq_true rfl) (by decide) (by decide) rfl ?_
                rintro _ _ ⟨rfl, x24, rfl, hx24⟩
                show J_ zX6_blockDays T (po_X6_blockDays T p) 0 0 86 [some (vR 106 0), some (vR 102 p), some (vI k), some (vR 102 k), none, none, none] [vI x24] T1
                refine j_blk (F := fX6) tb_X6 (by decide) bk_X6_blockDays_86 hz (fun K hK => ?_)
                refine And.intro (fun c25 => ?_) (fun c25 => ?_)
                · refine hK 153 [some (vR 106 0), some (vR 102 p), some (vI k), some (vR 102 k), none, none, none] [] T1 ?_
                  refine j_blk (F := fX6) tb_X6 (by decide) bk_X6_blockDays_153 hz (fun K hK => ?_)
                  refine rg_i (by omega) ?_
                  refine hK 10 [some (vR 106 0), some (vR 102 p), some (vI (k + 1)), some (vR 102 k), none, none, none] [] T1 ?_
                  refine j_drop [some (vR 106 0), some (vR 102 p), some (vI (k + 1)), none, none, none, none] (fun k v hk => ?_) rfl ?_
                  · match k, hk with
                    | 0, hk => exact hk
                    | 1, hk => exact hk
                    | 2, hk => exact hk
                    | 3, hk => cases hk
                    | 4, hk => cases hk
                    | 5, hk => cases hk
                    | 6, hk => cases hk
                    | k + 7, hk => cases hk
                  refine ih_10 _ ?_ (k + 1) T1 (Nat.le_refl _) ?_ ?_
                  · omega
                  · exact fr_t (fr_0 _ _) (fr_s hf_10 rfl)
                  · omega
                · refine hK 90 [some (vR 106 0), some (vR 102 p), some (vI k), some (vR 102 k), none, none, none] [vR 102 p] T1 ?_
                  refine j_callV (y := yX2_rest) (Yc := zX2_rest) (rest := []) [] (ct_X2_rest (T := T1)) cl_X6_133 (by decide +kernel) (by decide) rfl (by decide +kernel) (Nat.le_of_ble_eq_true rfl) (by decide) (by decide) rfl ?_
                  rintro _ _ ⟨rfl, x26, rfl, hx26⟩
                  show J_ zX6_blockDays T (po_X6_blockDays T p) 0 0 93 [some (vR 106 0), some (vR 102 p), some (vI k), some (vR 102 k), none, none, none] [vI x26] T1
                  refine j_blk (F := fX6) tb_X6 (by decide) bk_X6_blockDays_93 hz (fun K hK => ?_)
                  refine hK 94 [some (vR 106 0), some (vR 102 p), some (vI k), some (vR 102 k), none, none, none] [vR 102 k, vI x26] T1 ?_
                  refine j_callV (y := yX2_rest) (Yc := zX2_rest) (rest := [vI x26]) [] (ct_X2_rest (T := T1)) cl_X6_133 (by decide +kernel) (by decide) rfl (by decide +kernel) (Nat.le_of_ble_eq_true rfl) (by decide) (by decide) rfl ?_
                  rintro _ _ ⟨rfl, x27, rfl, hx27⟩
                  show J_ zX6_blockDays T (po_X6_blockDays T p) 0 0 97 [some (vR 106 0), some (vR 102 p), some (vI k), some (vR 102 k), none, none, none] [vI x27, vI x26] T1
                  obtain ⟨x28, e29, hx28⟩ : ∃ x28 : Int, (if x26 < x27 then x27 else x26) = x28 ∧ ((x28 = x26 ∨ x28 = x27) ∧ x26 ≤ x28 ∧ x27 ≤ x28) := ⟨_, rfl, by split <;> omega⟩
                  refine j_mx (pc := 97) (lw_at 820 (by decide +kernel) rfl : Cond.methodLink RX6 136 Lib.Math.max.name ∈ lw_g) (lw_at 821 (by decide +kernel) rfl : Cond.static Lib.Math.max.name ∈ lw_g) (lw_at 17 (by decide +kernel) rfl : Cond.initialized "java/lang/Math" ∈ lw_g) (lw_at 822 (by decide +kernel) rfl : Cond.code Lib.Math.max.name Lib.Math.max.code 2 (some .int) ∈ lw_g) (by decide +kernel) (by decide) (by decide) (by decide) (Nat.le_of_ble_eq_true rfl) ?_
                  rw [e29]
                  show J_ zX6_blockDays T (po_X6_blockDays T p) 0 0 100 [some (vR 106 0), some (vR 102 p), some (vI k), some (vR 102 k), none, none, none] [vI x28] T1
                  refine j_blk (F := fX6) tb_X6 (by decide) bk_X6_blockDays_100 hz (fun K hK => ?_)
                  refine rg_i (by omega) ?_
                  intro b30 b30b
                  have e31 : T1 102 k 5 = T 102 k 5 := hf_10 102 k 5 rfl
                  rw [e31] at b30 b30b ⊢
                  refine rg_i (by omega) ?_
                  refine hK 114 [some (vR 106 0), some (vR 102 p), some (vI k), some (vR 102 k), some (vI (x28 - 1)), none, none] [vI ((T 102 k 5) + (x28 - 1)), vI 999] T1 ?_
                  obtain ⟨x32, e33, hx32⟩ : ∃ x32 : Int, (if ((T 102 k 5) + (x28 - 1)) < 999 then ((T 102 k 5) + (x28 - 1)) else 999) = x32 ∧ ((x32 = 999 ∨ x32 = (T 102 k 5) + (x28 - 1)) ∧ x32 ≤ 999 ∧ x32 ≤ (T 102 k 5) + (x28 - 1)) := ⟨_, rfl, by split <;> omega⟩
                  refine j_mn (pc := 114) (lw_at 836 (by decide +kernel) rfl : Cond.methodLink RX6 156 Lib.Math.min.name ∈ lw_g) (lw_at 837 (by decide +kernel) rfl : Cond.static Lib.Math.min.name ∈ lw_g) (lw_at 17 (by decide +kernel) rfl : Cond.initialized "java/lang/Math" ∈ lw_g) (lw_at 838 (by decide +kernel) rfl : Cond.code Lib.Math.min.name Lib.Math.min.code 2 (some .int) ∈ lw_g) (by decide +kernel) (by decide) (by decide) (by decide) (Nat.le_of_ble_eq_true rfl) ?_
                  rw [e33]
                  show J_ zX6_blockDays T (po_X6_blockDays T p) 0 0 117 [some (vR 106 0), some (vR 102 p), some (vI k), some (vR 102 k), some (vI (x28 - 1)), none, none] [vI x32] T1
                  refine j_blk (F := fX6) tb_X6 (by decide) bk_X6_blockDays_117 hz (fun K hK => ?_)
                  intro b34 b34b
                  have e35 : T1 102 k 5 = T 102 k 5 := hf_10 102 k 5 rfl
                  rw [e35] at b34 b34b ⊢
                  refine rg_i (by omega) ?_
                  refine hK 127 [some (vR 106 0), some (vR 102 p), some (vI k), some (vR 102 k), some (vI (x28 - 1)), some (vI x32), none] [vI ((T 102 k 5) - (x28 - 1)), vI 0] T1 ?_
                  obtain ⟨x36, e37, hx36⟩ : ∃ x36 : Int, (if 0 < ((T 102 k 5) - (x28 - 1)) then ((T 102 k 5) - (x28 - 1)) else 0) = x36 ∧ ((x36 = 0 ∨ x36 = (T 102 k 5) - (x28 - 1)) ∧ 0 ≤ x36 ∧ (T 102 k 5) - (x28 - 1) ≤ x36) := ⟨_, rfl, by split <;> omega⟩
                  refine j_mx (pc := 127) (lw_at 820 (by decide +kernel) rfl : Cond.methodLink RX6 136 Lib.Math.max.name ∈ lw_g) (lw_at 821 (by decide +kernel) rfl : Cond.static Lib.Math.max.name ∈ lw_g) (lw_at 17 (by decide +kernel) rfl : Cond.initialized "java/lang/Math" ∈ lw_g) (lw_at 822 (by decide +kernel) rfl : Cond.code Lib.Math.max.name Lib.Math.max.code 2 (some .int) ∈ lw_g) (by decide +kernel) (by decide) (by decide) (by decide) (Nat.le_of_ble_eq_true rfl) ?_
                  rw [e37]
                  show J_ zX6_blockDays T (po_X6_blockDays T p) 0 0 130 [some (vR 106 0), some (vR 102 p), some (vI k), some (vR 102 k), some (vI (x28 - 1)), some (vI x32), none] [vI x36] T1
                  refine j_blk (F := fX6) tb_X6 (by decide) bk_X6_blockDays_130 hz (fun K hK => ?_)
                  refine hK 132 [some (vR 106 0), some (vR 102 p), some (vI k), some (vR 102 k), some (vI (x28 - 1)), some (vI x32), some (vI x36)] [] T1 ?_
                  refine j_drop [some (vR 106 0), some (vR 102 p), some (vI k), none, none, some (vI x32), some (vI x36)] (fun k v hk => ?_) rfl ?_
                  · match k, hk with
                    | 0, hk => exact hk
                    | 1, hk => exact hk
                    | 2, hk => exact hk
                    | 3, hk => cases hk
                    | 4, hk => cases hk
                    | 5, hk => exact hk
                    | 6, hk => exact hk
                    | k + 7, hk => cases hk
                  refine c_132 _ x32 x36 T1 (Nat.le_refl _) ?_ ?_
                  · exact fr_t (fr_0 _ _) (fr_s hf_10 rfl)
                  · omega
              · intro b38 b38b
                have e39 : T1 102 k 5 = T 102 k 5 := hf_10 102 k 5 rfl
                rw [e39] at b38 b38b ⊢
                refine iy_i (by omega) (by omega) ?_
                refine sx_nm (fun U40 hU40 => ?_)
                have e41 := up_f hU40
                refine hK 83 [some (vR 106 0), some (vR 102 p), some (vI k), some (vR 102 k), none, none, none] [vR 102 k, vR 102 p] U40 ?_
                refine j_callS (y := yX6_shareClub) (Yc := zX6_shareClub) (rest := []) [vR 102 p, vR 102 k] (ct_X6_shareClub (T := U40)) cl_X6_140 (by decide +kernel) (by decide) rfl (by decide +kernel) (Nat.le_of_ble_eq_true rfl) (by decide) (by decide) rfl ?_
                rintro _ _ ⟨rfl, x42, rfl, hx42⟩
                show J_ zX6_blockDays T (po_X6_blockDays T p) 0 0 86 [some (vR 106 0), some (vR 102 p), some (vI k), some (vR 102 k), none, none, none] [vI x42] U40
                refine j_blk (F := fX6) tb_X6 (by decide) bk_X6_blockDays_86 hz (fun K hK => ?_)
                refine And.intro (fun c43 => ?_) (fun c43 => ?_)
                · refine hK 153 [some (vR 106 0), some (vR 102 p), some (vI k), some (vR 102 k), none, none, none] [] U40 ?_
                  refine j_blk (F := fX6) tb_X6 (by decide) bk_X6_blockDays_153 hz (fun K hK => ?_)
                  refine rg_i (by omega) ?_
                  refine hK 10 [some (vR 106 0), some (vR 102 p), some (vI (k + 1)), some (vR 102 k), none, none, none] [] U40 ?_
                  refine j_drop [some (vR 106 0), some (vR 102 p), some (vI (k + 1)), none, none, none, none] (fun k v hk => ?_) rfl ?_
                  · match k, hk with
                    | 0, hk => exact hk
                    | 1, hk => exact hk
                    | 2, hk => exact hk
                    | 3, hk => cases hk
                    | 4, hk => cases hk
                    | 5, hk => cases hk
                    | 6, hk => cases hk
                    | k + 7, hk => cases hk
                  refine ih_10 _ ?_ (k + 1) U40 (Nat.le_refl _) ?_ ?_
                  · omega
                  · exact fr_u (fr_t (fr_0 _ _) (fr_s hf_10 rfl)) hU40 rfl
                  · omega
                · refine hK 90 [some (vR 106 0), some (vR 102 p), some (vI k), some (vR 102 k), none, none, none] [vR 102 p] U40 ?_
                  refine j_callV (y := yX2_rest) (Yc := zX2_rest) (rest := []) [] (ct_X2_rest (T := U40)) cl_X6_133 (by decide +kernel) (by decide) rfl (by decide +kernel) (Nat.le_of_ble_eq_true rfl) (by decide) (by decide) rfl ?_
                  rintro _ _ ⟨rfl, x44, rfl, hx44⟩
                  show J_ zX6_blockDays T (po_X6_blockDays T p) 0 0 93 [some (vR 106 0), some (vR 102 p), some (vI k), some (vR 102 k), none, none, none] [vI x44] U40
                  refine j_blk (F := fX6) tb_X6 (by decide) bk_X6_blockDays_93 hz (fun K hK => ?_)
                  refine hK 94 [some (vR 106 0), some (vR 102 p), some (vI k), some (vR 102 k), none, none, none] [vR 102 k, vI x44] U40 ?_
                  refine j_callV (y := yX2_rest) (Yc := zX2_rest) (rest := [vI x44]) [] (ct_X2_rest (T := U40)) cl_X6_133 (by decide +kernel) (by decide) rfl (by decide +kernel) (Nat.le_of_ble_eq_true rfl) (by decide) (by decide) rfl ?_
                  rintro _ _ ⟨rfl, x45, rfl, hx45⟩
                  show J_ zX6_blockDays T (po_X6_blockDays T p) 0 0 97 [some (vR 106 0), some (vR 102 p), some (vI k), some (vR 102 k), none, none, none] [vI x45, vI x44] U40
                  obtain ⟨x46, e47, hx46⟩ : ∃ x46 : Int, (if x44 < x45 then x45 else x44) = x46 ∧ ((x46 = x44 ∨ x46 = x45) ∧ x44 ≤ x46 ∧ x45 ≤ x46) := ⟨_, rfl, by split <;> omega⟩
                  refine j_mx (pc := 97) (lw_at 820 (by decide +kernel) rfl : Cond.methodLink RX6 136 Lib.Math.max.name ∈ lw_g) (lw_at 821 (by decide +kernel) rfl : Cond.static Lib.Math.max.name ∈ lw_g) (lw_at 17 (by decide +kernel) rfl : Cond.initialized "java/lang/Math" ∈ lw_g) (lw_at 822 (by decide +kernel) rfl : Cond.code Lib.Math.max.name Lib.Math.max.code 2 (some .int) ∈ lw_g) (by decide +kernel) (by decide) (by decide) (by decide) (Nat.le_of_ble_eq_true rfl) ?_
                  rw [e47]
                  show J_ zX6_blockDays T (po_X6_blockDays T p) 0 0 100 [some (vR 106 0), some (vR 102 p), some (vI k), some (vR 102 k), none, none, none] [vI x46] U40
                  refine j_blk (F := fX6) tb_X6 (by decide) bk_X6_blockDays_100 hz (fun K hK => ?_)
                  refine rg_i (by omega) ?_
                  intro b48 b48b
                  have e49 : U40 102 k 5 = T 102 k 5 := (up_k hU40 (by decide) k 5).trans (hf_10 102 k 5 rfl)
                  rw [e49] at b48 b48b ⊢
                  refine rg_i (by omega) ?_
                  refine hK 114 [some (vR 106 0), some (vR 102 p), some (vI k), some (vR 102 k), some (vI (x46 - 1)), none, none] [vI ((T 102 k 5) + (x46 - 1)), vI 999] U40 ?_
                  obtain ⟨x50, e51, hx50⟩ : ∃ x50 : Int, (if ((T 102 k 5) + (x46 - 1)) < 999 then ((T 102 k 5) + (x46 - 1)) else 999) = x50 ∧ ((x50 = 999 ∨ x50 = (T 102 k 5) + (x46 - 1)) ∧ x50 ≤ 999 ∧ x50 ≤ (T 102 k 5) + (x46 - 1)) := ⟨_, rfl, by split <;> omega⟩
                  refine j_mn (pc := 114) (lw_at 836 (by decide +kernel) rfl : Cond.methodLink RX6 156 Lib.Math.min.name ∈ lw_g) (lw_at 837 (by decide +kernel) rfl : Cond.static Lib.Math.min.name ∈ lw_g) (lw_at 17 (by decide +kernel) rfl : Cond.initialized "java/lang/Math" ∈ lw_g) (lw_at 838 (by decide +kernel) rfl : Cond.code Lib.Math.min.name Lib.Math.min.code 2 (some .int) ∈ lw_g) (by decide +kernel) (by decide) (by decide) (by decide) (Nat.le_of_ble_eq_true rfl) ?_
                  rw [e51]
                  show J_ zX6_blockDays T (po_X6_blockDays T p) 0 0 117 [some (vR 106 0), some (vR 102 p), some (vI k), some (vR 102 k), some (vI (x46 - 1)), none, none] [vI x50] U40
                  refine j_blk (F := fX6) tb_X6 (by decide) bk_X6_blockDays_117 hz (fun K hK => ?_)
                  intro b52 b52b
                  have e53 : U40 102 k 5 = T 102 k 5 := (up_k hU40 (by decide) k 5).trans (hf_10 102 k 5 rfl)
                  rw [e53] at b52 b52b ⊢
                  refine rg_i (by omega) ?_
                  refine hK 127 [some (vR 106 0), some (vR 102 p), some (vI k), some (vR 102 k), some (vI (x46 - 1)), some (vI x50), none] [vI ((T 102 k 5) - (x46 - 1)), vI 0] U40 ?_
                  obtain ⟨x54, e55, hx54⟩ : ∃ x54 : Int, (if 0 < ((T 102 k 5) - (x46 - 1)) then ((T 102 k 5) - (x46 - 1)) else 0) = x54 ∧ ((x54 = 0 ∨ x54 = (T 102 k 5) - (x46 - 1)) ∧ 0 ≤ x54 ∧ (T 102 k 5) - (x46 - 1) ≤ x54) := ⟨_, rfl, by split <;> omega⟩
                  refine j_mx (pc := 127) (lw_at 820 (by decide +kernel) rfl : Cond.methodLink RX6 136 Lib.Math.max.name ∈ lw_g) (lw_at 821 (by decide +kernel) rfl : Cond.static Lib.Math.max.name ∈ lw_g) (lw_at 17 (by decide +kernel) rfl : Cond.initialized "java/lang/Math" ∈ lw_g) (lw_at 822 (by decide +kernel) rfl : Cond.code Lib.Math.max.name Lib.Math.max.code 2 (some .int) ∈ lw_g) (by decide +kernel) (by decide) (by decide) (by decide) (Nat.le_of_ble_eq_true rfl) ?_
                  rw [e55]
                  show J_ zX6_blockDays T (po_X6_blockDays T p) 0 0 130 [some (vR 106 0), some (vR 102 p), some (vI k), some (vR 102 k), some (vI (x46 - 1)), some (vI x50), none] [vI x54] U40
                  refine j_blk (F := fX6) tb_X6 (by decide) bk_X6_blockDays_130 hz (fun K hK => ?_)
                  refine hK 132 [some (vR 106 0), some (vR 102 p), some (vI k), some (vR 102 k), some (vI (x46 - 1)), some (vI x50), some (vI x54)] [] U40 ?_
                  refine j_drop [some (vR 106 0), some (vR 102 p), some (vI k), none, none, some (vI x50), some (vI x54)] (fun k v hk => ?_) rfl ?_
                  · match k, hk with
                    | 0, hk => exact hk
                    | 1, hk => exact hk
                    | 2, hk => exact hk
                    | 3, hk => cases hk
                    | 4, hk => cases hk
                    | 5, hk => exact hk
                    | 6, hk => exact hk
                    | k + 7, hk => cases hk
                  refine c_132 _ x50 x54 U40 (Nat.le_refl _) ?_ ?_
                  · exact fr_u (fr_t (fr_0 _ _) (fr_s hf_10 rfl)) hU40 rfl
                  · omega
            · refine hK 153 [some (vR 106 0), some (vR 102 p), some (vI k), some (vR 102 k), none, none, none] [] T1 ?_
              refine j_blk (F := fX6) tb_X6 (by decide) bk_X6_blockDays_153 hz (fun K hK => ?_)
              refine rg_i (by omega) ?_
              refine hK 10 [some (vR 106 0), some (vR 102 p), some (vI (k + 1)), some (vR 102 k), none, none, none] [] T1 ?_
              refine j_drop [some (vR 106 0), some (vR 102 p), some (vI (k + 1)), none, none, none, none] (fun k v hk => ?_) rfl ?_
              · match k, hk with
                | 0, hk => exact hk
                | 1, hk => exact hk
                | 2, hk => exact hk
                | 3, hk => cases hk
                | 4, hk => cases hk
                | 5, hk => cases hk
                | 6, hk => cases hk
                | k + 7, hk => cases hk
              refine ih_10 _ ?_ (k + 1) T1 (Nat.le_refl _) ?_ ?_
              · omega
              · exact fr_t (fr_0 _ _) (fr_s hf_10 rfl)
              · omega
  refine j_blk (F := fX6) tb_X6 (by decide) bk_X6_blockDays_0 hz (fun K hK => ?_)
  refine hK 5 [some (vR 106 0), some (vR 102 p), none, none, none, none, none] [vI 0, vR 535 0] T ?_
  refine j_callS (y := yJ7_fill_53178) (Yc := zJ7_fill_53178) (rest := []) [vR 535 0, vI 0] (ct_J7_fill_535 (T := T) (by omega)) cl_X6_150 (by decide +kernel) (by decide) rfl (by decide +kernel) (Nat.le_of_ble_eq_true rfl) (by decide) (by decide) rfl ?_
  rintro U56 _ ⟨rfl, fU56, qU56o, qU56⟩
  show J_ zX6_blockDays T (po_X6_blockDays T p) 0 0 8 [some (vR 106 0), some (vR 102 p), none, none, none, none, none] [] U56
  refine j_blk (F := fX6) tb_X6 (by decide) bk_X6_blockDays_8 hz (fun K hK => ?_)
  refine hK 10 [some (vR 106 0), some (vR 102 p), some (vI 0), none, none, none, none] [] U56 ?_
  refine c_10 _ 0 U56 (Nat.le_refl _) ?_ ?_
  · exact fr_t (fr_0 _ _) (fr_s fU56 rfl)
  · omega
abbrev cX6_goBehind : ByteArray := prog_8_method_10_code
def yX6_goBehind : MethodName := ⟨RX6, "goBehind", "(LSportsHouse$Match;II)Z"⟩
def zX6_goBehind : Zm := (RX6, cX6_goBehind, 5, (some .boolean), { frames := 3, cells := 0, slots := 0, locals := 68 })
theorem bk_X6_goBehind_10 : ck_ fX6 (some .boolean) cX6_goBehind 10 [.iload 4, .iconst 999, .if_icmp .gt 52, .aload 0, .tableswitch 0 6 15 #[], .iload 4, .iaload, .ifCond .ne 46, .aload 0, .tableswitch 0 6 14 #[], .iload 3, .aload 1, .tableswitch 0 2 5 #[], .iastore, .aload 1, .iload 4, .tableswitch 1 2 5 #[], .iconst 1, .ireturn] 46 = true := by decide +kernel
theorem bk_X6_goBehind_52 : ck_ fX6 (some .boolean) cX6_goBehind 52 [.iconst 0, .ireturn] 54 = true := by decide +kernel
theorem bk_X6_goBehind_46 : ck_ fX6 (some .boolean) cX6_goBehind 46 [.iinc 4 1, .goto 10] 52 = true := by decide +kernel
theorem bk_X6_goBehind_0 : ck_ fX6 (some .boolean) cX6_goBehind 0 [.aload 0, .aload 1] 2 = true := by decide +kernel
theorem cl_X6_146 : cv_ RX6 146 yX6_blockDays zX6_blockDays 6 1 := ⟨gi_V (lw_at 831 (by decide +kernel) rfl : Cond.methodLink RX6 146 yX6_blockDays ∈ lw_g) (lw_at 833 (by decide +kernel) rfl : Cond.instanceMethod yX6_blockDays ∈ lw_g) (lw_sel 121 rfl : Cond.selects yX6_blockDays.cls yX6_blockDays yX6_blockDays ∈ lw_g) (lw_at 4 (by decide +kernel) rfl : Cond.initialized yX6_blockDays.cls ∈ lw_g) (lw_at 834 (by decide +kernel) rfl : Cond.code yX6_blockDays cX6_blockDays 7 none ∈ lw_g), ⟨by decide, by decide, by decide +kernel⟩, ⟨_, _, rfl⟩⟩
theorem bk_X6_goBehind_5 : ck_ fX6 (some .boolean) cX6_goBehind 5 [.iload 2, .iconst 1, .iadd, .istore 4] 10 = true := by decide +kernel
abbrev po_X6_goBehind (T : Zt) (p : Int) (d k : Int) : Zt → Option Zv → Prop := fun T' r => ∃ x : Int, r = some (vI x) ∧ fr_ [(535, []), (534, []), (102, [5])] T T' ∧ (0 ≤ x ∧ x ≤ 1)
set_option maxHeartbeats 4000000 in
theorem ct_X6_goBehind {T : Zt} {p : Int} {d k : Int} (hka : KA_ T) (hd : 0 ≤ d ∧ d ≤ 999) (hk : 0 ≤ k ∧ k < 400) : Ct_ yX6_goBehind zX6_goBehind T [vR 106 0, vR 102 p, vI d, vI k] (po_X6_goBehind T p d k) := by
  refine ct_of (by decide) rfl rfl (Nat.le_of_ble_eq_true rfl) (fun hT hav => ?_)
  have hr_d : -2147483648 ≤ d ∧ d ≤ 2147483647 := hav (vI d) (by simp)
  have hr_k : -2147483648 ≤ k ∧ k ≤ 2147483647 := hav (vI k) (by simp)
  have hz : zX6_goBehind.2.2.2.1 = some .boolean → ∀ (T' : Zt) (x : Int), po_X6_goBehind T p d k T' (some (vI x)) → 0 ≤ x ∧ x ≤ 1 := fun _ T' x h => by obtain ⟨y, e, -, hy⟩ := h; cases e; omega
  have hb_matchCount : 0 ≤ T 106 0 4 ∧ T 106 0 4 ≤ 400 := bd_f hT 106 4 (by decide +kernel : (tf_ 106)[4]? = some (0, 0, 0, 400)) 0
  show J_ zX6_goBehind T (po_X6_goBehind T p d k) 0 0 0 [some (vR 106 0), some (vR 102 p), some (vI d), some (vI k), none] [] T
  have c_10 : ∀ (nn : Nat) (i : Int) (T1 : Zt), ((1000 - i).toNat) ≤ nn → (fr_ [(535, [])] T T1) → (0 ≤ i) → J_ zX6_goBehind T (po_X6_goBehind T p d k) 0 0 10 [some (vR 106 0), some (vR 102 p), some (vI d), some (vI k), some (vI i)] [] T1 := by
    intro nn
    induction nn using Nat.strongRecOn with
    | _ nn ih_10 =>
      intro i T1 hm_10 hf_10 i1
      refine j_blk (F := fX6) tb_X6 (by decide) bk_X6_goBehind_10 hz (fun K hK => ?_)
      refine And.intro (fun c1 => ?_) (fun c1 => ?_)
      · refine hK 52 [some (vR 106 0), some (vR 102 p), some (vI d), some (vI k), some (vI i)] [] T1 ?_
        refine j_blk (F := fX6) tb_X6 (by decide) bk_X6_goBehind_52 hz (fun K hK => ?_)
        refine (show po_X6_goBehind T p d k T1 (some (vI 0)) from ?_)
        exact ⟨_, rfl, fr_t (fr_0 _ _) (fr_s hf_10 rfl), by omega⟩
      · refine ix_i (by omega) ?_
        intro b2 b2b
        refine And.intro (fun c3 => ?_) (fun c3 => ?_)
        · refine hK 46 [some (vR 106 0), some (vR 102 p), some (vI d), some (vI k), some (vI i)] [] T1 ?_
          refine j_blk (F := fX6) tb_X6 (by decide) bk_X6_goBehind_46 hz (fun K hK => ?_)
          refine rg_i (by omega) ?_
          refine hK 10 [some (vR 106 0), some (vR 102 p), some (vI d), some (vI k), some (vI (i + 1))] [] T1 ?_
          refine ih_10 _ ?_ (i + 1) T1 (Nat.le_refl _) ?_ ?_
          · omega
          · exact fr_t (fr_0 _ _) (fr_s hf_10 rfl)
          · omega
        · intro b4 b4b
          have e5 : T1 102 p 5 = T 102 p 5 := hf_10 102 p 5 rfl
          rw [e5] at b4 b4b ⊢
          refine iy_i (by omega) (by omega) ?_
          refine sx_nm (fun U6 hU6 => ?_)
          have e7 := up_f hU6
          refine bd_i (by omega) ?_
          refine sx_nm (fun U8 hU8 => ?_)
          have e9 := up_f hU8
          refine (show po_X6_goBehind T p d k U8 (some (vI 1)) from ?_)
          exact ⟨_, rfl, fr_u (fr_u (fr_t (fr_0 _ _) (fr_s hf_10 rfl)) hU6 rfl) hU8 rfl, by omega⟩
  refine j_blk (F := fX6) tb_X6 (by decide) bk_X6_goBehind_0 hz (fun K hK => ?_)
  refine hK 2 [some (vR 106 0), some (vR 102 p), some (vI d), some (vI k), none] [vR 102 p, vR 106 0] T ?_
  refine j_callV (y := yX6_blockDays) (Yc := zX6_blockDays) (rest := []) [vR 102 p] (ct_X6_blockDays (T := T) (hka)) cl_X6_146 (by decide +kernel) (by decide) rfl (by decide +kernel) (Nat.le_of_ble_eq_true rfl) (by decide) (by decide) rfl ?_
  rintro U10 _ ⟨rfl, fU10, qU10⟩
  show J_ zX6_goBehind T (po_X6_goBehind T p d k) 0 0 5 [some (vR 106 0), some (vR 102 p), some (vI d), some (vI k), none] [] U10
  refine j_blk (F := fX6) tb_X6 (by decide) bk_X6_goBehind_5 hz (fun K hK => ?_)
  refine rg_i (by omega) ?_
  refine hK 10 [some (vR 106 0), some (vR 102 p), some (vI d), some (vI k), some (vI (d + 1))] [] U10 ?_
  refine c_10 _ (d + 1) U10 (Nat.le_refl _) ?_ ?_
  · exact fr_t (fr_0 _ _) (fr_s fU10 rfl)
  · omega
abbrev cX6_putOff : ByteArray := prog_8_method_6_code
def yX6_putOff : MethodName := ⟨RX6, "putOff", "(LSportsHouse$Match;I)I"⟩
def zX6_putOff : Zm := (RX6, cX6_putOff, 7, (some .int), { frames := 4, cells := 0, slots := 0, locals := 92 })
theorem bk_X6_putOff_71 : ck_ fX6 (some .int) cX6_putOff 71 [.iload 6, .iload 5, .if_icmp .ge 106, .aload 0, .tableswitch 0 6 3 #[], .aload 0, .tableswitch 0 6 13 #[], .iload 6, .iaload, .aaload, .aload 0, .tableswitch 0 6 14 #[], .iload 6, .iaload, .tableswitch 1 2 5 #[], .iinc 6 1, .goto 71] 106 = true := by decide +kernel
theorem bk_X6_putOff_106 : ck_ fX6 (some .int) cX6_putOff 106 [.aload 1, .iload 3, .tableswitch 1 2 5 #[], .iconst (-4), .ireturn] 114 = true := by decide +kernel
theorem bk_X6_putOff_117 : ck_ fX6 (some .int) cX6_putOff 117 [.iload 6, .iload 4, .if_icmp .ge 144, .aload 0, .tableswitch 0 6 11 #[], .iload 6, .aload 0, .tableswitch 0 6 13 #[], .iload 6, .iaload, .iastore, .iinc 6 1, .goto 117] 144 = true := by decide +kernel
theorem bk_X6_putOff_144 : ck_ fX6 (some .int) cX6_putOff 144 [.aload 0, .iload 4, .tableswitch 1 6 12 #[], .iload 4, .ireturn] 153 = true := by decide +kernel
theorem bk_X6_putOff_20 : ck_ fX6 (some .int) cX6_putOff 20 [.iload 5, .iload 4, .if_icmp .ge 55, .aload 0, .aload 0, .tableswitch 0 6 3 #[], .aload 0, .tableswitch 0 6 13 #[], .iload 5, .iaload, .aaload, .iload 2, .iload 5] 43 = true := by decide +kernel
theorem bk_X6_putOff_55 : ck_ fX6 (some .int) cX6_putOff 55 [.iload 4, .iconst (-1), .if_icmp .eq 68, .iload 5, .iload 4, .if_icmp .ge 114, .iconst 0, .istore 6] 71 = true := by decide +kernel
theorem bk_X6_putOff_68 : ck_ fX6 (some .int) cX6_putOff 68 [.iconst 0, .istore 6] 71 = true := by decide +kernel
theorem bk_X6_putOff_114 : ck_ fX6 (some .int) cX6_putOff 114 [.iconst 0, .istore 6] 117 = true := by decide +kernel
theorem cl_X6_102 : cv_ RX6 102 yX6_goBehind zX6_goBehind 6 3 := ⟨gi_V (lw_at 827 (by decide +kernel) rfl : Cond.methodLink RX6 102 yX6_goBehind ∈ lw_g) (lw_at 829 (by decide +kernel) rfl : Cond.instanceMethod yX6_goBehind ∈ lw_g) (lw_sel 122 rfl : Cond.selects yX6_goBehind.cls yX6_goBehind yX6_goBehind ∈ lw_g) (lw_at 4 (by decide +kernel) rfl : Cond.initialized yX6_goBehind.cls ∈ lw_g) (lw_at 830 (by decide +kernel) rfl : Cond.code yX6_goBehind cX6_goBehind 5 (some .boolean) ∈ lw_g), ⟨by decide, by decide, by decide +kernel⟩, ⟨_, _, rfl⟩⟩
theorem bk_X6_putOff_46 : ck_ fX6 (some .int) cX6_putOff 46 [.ifCond .eq 55, .iinc 5 1, .goto 20] 55 = true := by decide +kernel
theorem bk_X6_putOff_0 : ck_ fX6 (some .int) cX6_putOff 0 [.aload 1, .tableswitch 0 2 5 #[], .istore 3, .aload 1, .iload 2, .tableswitch 1 2 5 #[], .aload 0, .aload 1] 12 = true := by decide +kernel
theorem cl_X6_98 : cv_ RX6 98 yX6_listAgainst zX6_listAgainst 6 1 := ⟨gi_V (lw_at 805 (by decide +kernel) rfl : Cond.methodLink RX6 98 yX6_listAgainst ∈ lw_g) (lw_at 807 (by decide +kernel) rfl : Cond.instanceMethod yX6_listAgainst ∈ lw_g) (lw_sel 124 rfl : Cond.selects yX6_listAgainst.cls yX6_listAgainst yX6_listAgainst ∈ lw_g) (lw_at 4 (by decide +kernel) rfl : Cond.initialized yX6_listAgainst.cls ∈ lw_g) (lw_at 808 (by decide +kernel) rfl : Cond.code yX6_listAgainst cX6_listAgainst 5 (some .int) ∈ lw_g), ⟨by decide, by decide, by decide +kernel⟩, ⟨_, _, rfl⟩⟩
theorem bk_X6_putOff_15 : ck_ fX6 (some .int) cX6_putOff 15 [.istore 4, .iconst 0, .istore 5] 20 = true := by decide +kernel
abbrev po_X6_putOff (T : Zt) (p : Int) (d : Int) : Zt → Option Zv → Prop := fun T' r => ∃ x : Int, r = some (vI x) ∧ fr_ [(535, []), (534, []), (102, [5]), (533, []), (531, []), (106, [12])] T T' ∧ (x = x)
set_option maxHeartbeats 4000000 in
theorem ct_X6_putOff {T : Zt} {p : Int} {d : Int} (hka : KA_ T) (hd : 0 ≤ d ∧ d ≤ 999) : Ct_ yX6_putOff zX6_putOff T [vR 106 0, vR 102 p, vI d] (po_X6_putOff T p d) := by
  refine ct_of (by decide) rfl rfl (Nat.le_of_ble_eq_true rfl) (fun hT hav => ?_)
  have hr_d : -2147483648 ≤ d ∧ d ≤ 2147483647 := hav (vI d) (by simp)
  have hz : zX6_putOff.2.2.2.1 = some .boolean → ∀ (T' : Zt) (x : Int), po_X6_putOff T p d T' (some (vI x)) → 0 ≤ x ∧ x ≤ 1 := fun h => by cases h
  have hb_matchCount : 0 ≤ T 106 0 4 ∧ T 106 0 4 ≤ 400 := bd_f hT 106 4 (by decide +kernel : (tf_ 106)[4]? = some (0, 0, 0, 400)) 0
  have hdt : 0 ≤ T 102 p 5 ∧ T 102 p 5 ≤ 999 := bd_f hT 102 5 (by decide +kernel : (tf_ 102)[5]? = some (0, 0, 0, 999)) p
  show J_ zX6_putOff T (po_X6_putOff T p d) 0 0 0 [some (vR 106 0), some (vR 102 p), some (vI d), none, none, none, none] [] T
  have c_71 : ∀ (nn : Nat) (n : Int) (g : Int) (i : Int) (T2 : Zt), ((400 - i).toNat) ≤ nn → (fr_ [(535, []), (534, []), (102, [5]), (533, []), (531, []), (106, [12])] T T2) → (0 ≤ i ∧ g ≤ n + 1 ∧ n ≤ 400 ∧ (g ≤ n ∨ g ≤ 0)) → (∀ j : Int, 0 ≤ j → j < n → 0 ≤ T2 533 0 j ∧ T2 533 0 j < T 106 0 4) → J_ zX6_putOff T (po_X6_putOff T p d) 0 0 71 [some (vR 106 0), some (vR 102 p), some (vI d), some (vI (T 102 p 5)), some (vI n), some (vI g), some (vI i)] [] T2 := by
    intro nn
    induction nn using Nat.strongRecOn with
    | _ nn ih_71 =>
      intro n g i T2 hm_71 hf_71 i2 li2
      refine j_blk (F := fX6) tb_X6 (by decide) bk_X6_putOff_71 hz (fun K hK => ?_)
      refine And.intro (fun c1 => ?_) (fun c1 => ?_)
      · refine hK 106 [some (vR 106 0), some (vR 102 p), some (vI d), some (vI (T 102 p 5)), some (vI n), some (vI g), some (vI i)] [] T2 ?_
        refine j_blk (F := fX6) tb_X6 (by decide) bk_X6_putOff_106 hz (fun K hK => ?_)
        refine bd_i (by omega) ?_
        refine sx_nm (fun U2 hU2 => ?_)
        have e3 := up_f hU2
        refine (show po_X6_putOff T p d U2 (some (vI (-4))) from ?_)
        exact ⟨_, rfl, fr_u (fr_t (fr_0 _ _) (fr_s hf_71 rfl)) hU2 rfl, by rfl⟩
      · refine ix_i (by omega) ?_
        intro b4 b4b
        refine ix_i (by omega) ?_
        have e6 : T2 523 0 (T2 533 0 i) = T 523 0 (T2 533 0 i) := hf_71 523 0 (T2 533 0 i) rfl
        refine And.intro (fun c5 => ?_) (fun c5 => ?_)
        · have y9 := li2 i (by omega) (by omega)
          exact absurd (show T 523 0 (T2 533 0 i) = 0 by omega) (hka.2 _ (by omega) (by omega))
        · refine ix_i (by omega) ?_
          intro b7 b7b
          refine bd_i (by omega) ?_
          refine sx_nm (fun U8 hU8 => ?_)
          have e9 := up_f hU8
          refine rg_i (by omega) ?_
          refine hK 71 [some (vR 106 0), some (vR 102 p), some (vI d), some (vI (T 102 p 5)), some (vI n), some (vI g), some (vI (i + 1))] [] U8 ?_
          refine ih_71 _ ?_ n g (i + 1) U8 (Nat.le_refl _) ?_ ?_ ?_
          · omega
          · exact fr_u (fr_t (fr_0 _ _) (fr_s hf_71 rfl)) hU8 rfl
          · omega
          · intro j a b
            rw [up_k hU8 (by decide) 0 j]
            exact li2 j a (by omega)
  have c_117 : ∀ (nn : Nat) (n : Int) (g : Int) (i : Int) (T3 : Zt), ((400 - i).toNat) ≤ nn → (fr_ [(535, []), (534, []), (102, [5]), (533, []), (531, []), (106, [12])] T T3) → (0 ≤ i ∧ 0 ≤ n ∧ n ≤ 400) → J_ zX6_putOff T (po_X6_putOff T p d) 0 0 117 [some (vR 106 0), some (vR 102 p), some (vI d), some (vI (T 102 p 5)), some (vI n), some (vI g), some (vI i)] [] T3 := by
    intro nn
    induction nn using Nat.strongRecOn with
    | _ nn ih_117 =>
      intro n g i T3 hm_117 hf_117 i3
      refine j_blk (F := fX6) tb_X6 (by decide) bk_X6_putOff_117 hz (fun K hK => ?_)
      refine And.intro (fun c10 => ?_) (fun c10 => ?_)
      · refine hK 144 [some (vR 106 0), some (vR 102 p), some (vI d), some (vI (T 102 p 5)), some (vI n), some (vI g), some (vI i)] [] T3 ?_
        refine j_blk (F := fX6) tb_X6 (by decide) bk_X6_putOff_144 hz (fun K hK => ?_)
        refine bd_i (by omega) ?_
        refine sx_nm (fun U11 hU11 => ?_)
        have e12 := up_f hU11
        refine (show po_X6_putOff T p d U11 (some (vI n)) from ?_)
        exact ⟨_, rfl, fr_u (fr_t (fr_0 _ _) (fr_s hf_117 rfl)) hU11 rfl, by rfl⟩
      · refine ix_i (by omega) ?_
        intro b13 b13b
        refine iy_i (by omega) (by omega) ?_
        refine sx_nm (fun U14 hU14 => ?_)
        have e15 := up_f hU14
        refine rg_i (by omega) ?_
        refine hK 117 [some (vR 106 0), some (vR 102 p), some (vI d), some (vI (T 102 p 5)), some (vI n), some (vI g), some (vI (i + 1))] [] U14 ?_
        refine ih_117 _ ?_ n g (i + 1) U14 (Nat.le_refl _) ?_ ?_
        · omega
        · exact fr_u (fr_t (fr_0 _ _) (fr_s hf_117 rfl)) hU14 rfl
        · omega
  have c_20 : ∀ (nn : Nat) (n : Int) (g : Int) (T1 : Zt), ((400 - g).toNat) ≤ nn → (fr_ [(535, []), (534, []), (102, [5]), (533, []), (531, []), (106, [12])] T T1) → (0 ≤ g ∧ -1 ≤ n ∧ n ≤ 400 ∧ (g ≤ n ∨ g = 0)) → (∀ j : Int, 0 ≤ j → j < n → 0 ≤ T1 533 0 j ∧ T1 533 0 j < T 106 0 4) → J_ zX6_putOff T (po_X6_putOff T p d) 0 0 20 [some (vR 106 0), some (vR 102 p), some (vI d), some (vI (T 102 p 5)), some (vI n), some (vI g), none] [] T1 := by
    intro nn
    induction nn using Nat.strongRecOn with
    | _ nn ih_20 =>
      intro n g T1 hm_20 hf_20 i1 li1
      refine j_blk (F := fX6) tb_X6 (by decide) bk_X6_putOff_20 hz (fun K hK => ?_)
      refine And.intro (fun c16 => ?_) (fun c16 => ?_)
      · refine hK 55 [some (vR 106 0), some (vR 102 p), some (vI d), some (vI (T 102 p 5)), some (vI n), some (vI g), none] [] T1 ?_
        refine j_blk (F := fX6) tb_X6 (by decide) bk_X6_putOff_55 hz (fun K hK => ?_)
        refine And.intro (fun c17 => ?_) (fun c17 => ?_)
        · refine hK 68 [some (vR 106 0), some (vR 102 p), some (vI d), some (vI (T 102 p 5)), some (vI n), some (vI g), none] [] T1 ?_
          refine j_blk (F := fX6) tb_X6 (by decide) bk_X6_putOff_68 hz (fun K hK => ?_)
          refine hK 71 [some (vR 106 0), some (vR 102 p), some (vI d), some (vI (T 102 p 5)), some (vI n), some (vI g), some (vI 0)] [] T1 ?_
          refine c_71 _ n g 0 T1 (Nat.le_refl _) ?_ ?_ ?_
          · exact fr_t (fr_0 _ _) (fr_s hf_20 rfl)
          · omega
          · intro j a b
            exact li1 j a (by omega)
        · refine And.intro (fun c18 => ?_) (fun c18 => ?_)
          · refine hK 114 [some (vR 106 0), some (vR 102 p), some (vI d), some (vI (T 102 p 5)), some (vI n), some (vI g), none] [] T1 ?_
            refine j_blk (F := fX6) tb_X6 (by decide) bk_X6_putOff_114 hz (fun K hK => ?_)
            refine hK 117 [some (vR 106 0), some (vR 102 p), some (vI d), some (vI (T 102 p 5)), some (vI n), some (vI g), some (vI 0)] [] T1 ?_
            refine c_117 _ n g 0 T1 (Nat.le_refl _) ?_ ?_
            · exact fr_t (fr_0 _ _) (fr_s hf_20 rfl)
            · omega
          · refine hK 71 [some (vR 106 0), some (vR 102 p), some (vI d), some (vI (T 102 p 5)), some (vI n), some (vI g), some (vI 0)] [] T1 ?_
            refine c_71 _ n g 0 T1 (Nat.le_refl _) ?_ ?_ ?_
            · exact fr_t (fr_0 _ _) (fr_s hf_20 rfl)
            · omega
            · intro j a b
              exact li1 j a (by omega)
      · refine ix_i (by omega) ?_
        intro b19 b19b
        refine ix_i (by omega) ?_
        have e21 : T1 523 0 (T1 533 0 g) = T 523 0 (T1 533 0 g) := hf_20 523 0 (T1 533 0 g) rfl
        refine And.intro (fun c20 => ?_) (fun c20 => ?_)
        · have y9 := li1 g (by omega) (by omega)
          exact absurd (show T 523 0 (T1 533 0 g) = 0 by omega) (hka.2 _ (by omega) (by omega))
        · refine hK 43 [some (vR 106 0), some (vR 102 p), some (vI d), some (vI (T 102 p 5)), some (vI n), some (vI g), none] [vI g, vI d, vR 102 (T1 533 0 g), vR 106 0] T1 ?_
          refine j_callV (y := yX6_goBehind) (Yc := zX6_goBehind) (rest := []) [vR 102 (T1 533 0 g), vI d, vI g] (ct_X6_goBehind (T := T1) (KA__f (ws := [(535, []), (534, []), (102, [5]), (533, []), (531, []), (106, [12])]) hka (fr_t (fr_0 _ _) (fr_s hf_20 rfl)) ⟨fun _ => rfl, fun _ => rfl, rfl, rfl, trivial⟩) (by omega) (by omega)) cl_X6_102 (by decide +kernel) (by decide) rfl (by decide +kernel) (Nat.le_of_ble_eq_true rfl) (by decide) (by decide) rfl ?_
          rintro U22 _ ⟨x23, rfl, fU22, qU22⟩
          show J_ zX6_putOff T (po_X6_putOff T p d) 0 0 46 [some (vR 106 0), some (vR 102 p), some (vI d), some (vI (T 102 p 5)), some (vI n), some (vI g), none] [vI x23] U22
          refine j_blk (F := fX6) tb_X6 (by decide) bk_X6_putOff_46 hz (fun K hK => ?_)
          refine And.intro (fun c24 => ?_) (fun c24 => ?_)
          · refine hK 55 [some (vR 106 0), some (vR 102 p), some (vI d), some (vI (T 102 p 5)), some (vI n), some (vI g), none] [] U22 ?_
            refine j_blk (F := fX6) tb_X6 (by decide) bk_X6_putOff_55 hz (fun K hK => ?_)
            refine And.intro (fun c25 => ?_) (fun c25 => ?_)
            · refine hK 68 [some (vR 106 0), some (vR 102 p), some (vI d), some (vI (T 102 p 5)), some (vI n), some (vI g), none] [] U22 ?_
              refine j_blk (F := fX6) tb_X6 (by decide) bk_X6_putOff_68 hz (fun K hK => ?_)
              refine hK 71 [some (vR 106 0), some (vR 102 p), some (vI d), some (vI (T 102 p 5)), some (vI n), some (vI g), some (vI 0)] [] U22 ?_
              refine c_71 _ n g 0 U22 (Nat.le_refl _) ?_ ?_ ?_
              · exact fr_t (fr_t (fr_0 _ _) (fr_s hf_20 rfl)) (fr_s fU22 rfl)
              · omega
              · intro j a b
                rw [fU22 533 0 j rfl]
                exact li1 j a (by omega)
            · refine And.intro (fun c26 => ?_) (fun c26 => ?_)
              · refine hK 114 [some (vR 106 0), some (vR 102 p), some (vI d), some (vI (T 102 p 5)), some (vI n), some (vI g), none] [] U22 ?_
                refine j_blk (F := fX6) tb_X6 (by decide) bk_X6_putOff_114 hz (fun K hK => ?_)
                refine hK 117 [some (vR 106 0), some (vR 102 p), some (vI d), some (vI (T 102 p 5)), some (vI n), some (vI g), some (vI 0)] [] U22 ?_
                refine c_117 _ n g 0 U22 (Nat.le_refl _) ?_ ?_
                · exact fr_t (fr_t (fr_0 _ _) (fr_s hf_20 rfl)) (fr_s fU22 rfl)
                · omega
              · refine hK 71 [some (vR 106 0), some (vR 102 p), some (vI d), some (vI (T 102 p 5)), some (vI n), some (vI g), some (vI 0)] [] U22 ?_
                refine c_71 _ n g 0 U22 (Nat.le_refl _) ?_ ?_ ?_
                · exact fr_t (fr_t (fr_0 _ _) (fr_s hf_20 rfl)) (fr_s fU22 rfl)
                · omega
                · intro j a b
                  rw [fU22 533 0 j rfl]
                  exact li1 j a (by omega)
          · refine rg_i (by omega) ?_
            refine hK 20 [some (vR 106 0), some (vR 102 p), some (vI d), some (vI (T 102 p 5)), some (vI n), some (vI (g + 1)), none] [] U22 ?_
            refine ih_20 _ ?_ n (g + 1) U22 (Nat.le_refl _) ?_ ?_ ?_
            · omega
            · exact fr_t (fr_t (fr_0 _ _) (fr_s hf_20 rfl)) (fr_s fU22 rfl)
            · omega
            · intro j a b
              rw [fU22 533 0 j rfl]
              exact li1 j a (by omega)
  refine j_blk (F := fX6) tb_X6 (by decide) bk_X6_putOff_0 hz (fun K hK => ?_)
  intro b27 b27b
  refine bd_i (by omega) ?_
  refine sx_nm (fun U28 hU28 => ?_)
  have e29 := up_f hU28
  refine hK 12 [some (vR 106 0), some (vR 102 p), some (vI d), some (vI (T 102 p 5)), none, none, none] [vR 102 p, vR 106 0] U28 ?_
  refine j_callV (y := yX6_listAgainst) (Yc := zX6_listAgainst) (rest := []) [vR 102 p] (ct_X6_listAgainst (T := U28) (KA__f (ws := [(102, [5])]) hka (fr_u (fr_0 _ _) hU28 rfl) ⟨fun _ => rfl, fun _ => rfl, rfl, rfl, trivial⟩)) cl_X6_98 (by decide +kernel) (by decide) rfl (by decide +kernel) (Nat.le_of_ble_eq_true rfl) (by decide) (by decide) rfl ?_
  rintro U30 _ ⟨x31, rfl, fU30, qU30⟩
  show J_ zX6_putOff T (po_X6_putOff T p d) 0 0 15 [some (vR 106 0), some (vR 102 p), some (vI d), some (vI (T 102 p 5)), none, none, none] [vI x31] U30
  refine j_blk (F := fX6) tb_X6 (by decide) bk_X6_putOff_15 hz (fun K hK => ?_)
  refine hK 20 [some (vR 106 0), some (vR 102 p), some (vI d), some (vI (T 102 p 5)), some (vI x31), some (vI 0), none] [] U30 ?_
  refine c_20 _ x31 0 U30 (Nat.le_refl _) ?_ ?_ ?_
  · exact fr_t (fr_u (fr_0 _ _) hU28 rfl) (fr_s fU30 rfl)
  · omega
  · intro j a b
    have e9 : U28 106 0 4 = T 106 0 4 := up_k hU28 (by decide) 0 4
    have y9 := qU30.2 j a (by omega)
    omega
abbrev cX10_postpone : ByteArray := prog_1_method_16_code
def yX10_postpone : MethodName := ⟨RX10, "postpone", "(II)I"⟩
def zX10_postpone : Zm := (RX10, cX10_postpone, 4, (some .int), { frames := 5, cells := 0, slots := 0, locals := 118 })
theorem bk_X10_postpone_0 : ck_ fX10 (some .int) cX10_postpone 0 [.aload 0, .iload 1] 2 = true := by decide +kernel
theorem bk_X10_postpone_5 : ck_ fX10 (some .int) cX10_postpone 5 [.ifCond .ne 11, .iconst (-2), .ireturn] 11 = true := by decide +kernel
theorem bk_X10_postpone_11 : ck_ fX10 (some .int) cX10_postpone 11 [.iload 2] 12 = true := by decide +kernel
theorem bk_X10_postpone_15 : ck_ fX10 (some .int) cX10_postpone 15 [.ifCond .eq 29, .iload 2, .aload 0, .tableswitch 0 10 1 #[], .tableswitch 0 8 13 #[], .if_icmp .gt 32, .iconst (-3), .ireturn] 32 = true := by decide +kernel
theorem bk_X10_postpone_29 : ck_ fX10 (some .int) cX10_postpone 29 [.iconst (-3), .ireturn] 32 = true := by decide +kernel
theorem bk_X10_postpone_32 : ck_ fX10 (some .int) cX10_postpone 32 [.aload 0, .tableswitch 0 10 2 #[], .tableswitch 0 6 3 #[], .iload 1, .aaload, .astore 3, .aload 3] 43 = true := by decide +kernel
theorem bk_X10_postpone_46 : ck_ fX10 (some .int) cX10_postpone 46 [.ifCond .ne 57, .aload 3, .tableswitch 0 2 5 #[], .iload 2, .if_icmp .ne 60, .iconst (-4), .ireturn] 60 = true := by decide +kernel
theorem bk_X10_postpone_57 : ck_ fX10 (some .int) cX10_postpone 57 [.iconst (-4), .ireturn] 60 = true := by decide +kernel
theorem bk_X10_postpone_60 : ck_ fX10 (some .int) cX10_postpone 60 [.aload 0, .tableswitch 0 10 2 #[], .aload 3, .iload 2] 66 = true := by decide +kernel
theorem cl_X10_234 : cv_ RX10 234 yX6_putOff zX6_putOff 6 2 := ⟨gi_V (lw_at 801 (by decide +kernel) rfl : Cond.methodLink RX10 234 yX6_putOff ∈ lw_g) (lw_at 802 (by decide +kernel) rfl : Cond.instanceMethod yX6_putOff ∈ lw_g) (lw_at 803 (by decide +kernel) rfl : Cond.selects yX6_putOff.cls yX6_putOff yX6_putOff ∈ lw_g) (lw_at 4 (by decide +kernel) rfl : Cond.initialized yX6_putOff.cls ∈ lw_g) (lw_at 804 (by decide +kernel) rfl : Cond.code yX6_putOff cX6_putOff 7 (some .int) ∈ lw_g), ⟨by decide, by decide, by decide +kernel⟩, ⟨_, _, rfl⟩⟩
theorem bk_X10_postpone_69 : ck_ fX10 (some .int) cX10_postpone 69 [.ireturn] 70 = true := by decide +kernel
abbrev po_X10_postpone (T : Zt) (m d : Int) : Zt → Option Zv → Prop := fun T' r => ∃ x : Int, r = some (vI x) ∧ fr_ [(535, []), (534, []), (102, [5]), (533, []), (531, []), (106, [12])] T T' ∧ (x = x)
set_option maxHeartbeats 4000000 in
theorem ct_X10_postpone {T : Zt} {m d : Int} (hka : KA_ T) : Ct_ yX10_postpone zX10_postpone T [vR 110 0, vI m, vI d] (po_X10_postpone T m d) := by
  refine ct_of (by decide) rfl rfl (Nat.le_of_ble_eq_true rfl) (fun hT hav => ?_)
  have hr_m : -2147483648 ≤ m ∧ m ≤ 2147483647 := hav (vI m) (by simp)
  have hr_d : -2147483648 ≤ d ∧ d ≤ 2147483647 := hav (vI d) (by simp)
  have hz : zX10_postpone.2.2.2.1 = some .boolean → ∀ (T' : Zt) (x : Int), po_X10_postpone T m d T' (some (vI x)) → 0 ≤ x ∧ x ≤ 1 := fun h => by cases h
  have hb_matchCount : 0 ≤ T 106 0 4 ∧ T 106 0 4 ≤ 400 := bd_f hT 106 4 (by decide +kernel : (tf_ 106)[4]? = some (0, 0, 0, 400)) 0
  show J_ zX10_postpone T (po_X10_postpone T m d) 0 0 0 [some (vR 110 0), some (vI m), some (vI d), none] [] T
  refine j_blk (F := fX10) tb_X10 (by decide) bk_X10_postpone_0 hz (fun K hK => ?_)
  refine hK 2 [some (vR 110 0), some (vI m), some (vI d), none] [vI m, vR 110 0] T ?_
  refine j_callV (y := yX10_isMatch) (Yc := zX10_isMatch) (rest := []) [vI m] (ct_X10_isMatch (T := T)) cl_X10_195 (by decide +kernel) (by decide) rfl (by decide +kernel) (Nat.le_of_ble_eq_true rfl) (by decide) (by decide) rfl ?_
  rintro _ _ ⟨rfl, x1, rfl, hx1⟩
  show J_ zX10_postpone T (po_X10_postpone T m d) 0 0 5 [some (vR 110 0), some (vI m), some (vI d), none] [vI x1] T
  refine j_blk (F := fX10) tb_X10 (by decide) bk_X10_postpone_5 hz (fun K hK => ?_)
  refine And.intro (fun c2 => ?_) (fun c2 => ?_)
  · refine hK 11 [some (vR 110 0), some (vI m), some (vI d), none] [] T ?_
    refine j_blk (F := fX10) tb_X10 (by decide) bk_X10_postpone_11 hz (fun K hK => ?_)
    refine hK 12 [some (vR 110 0), some (vI m), some (vI d), none] [vI d] T ?_
    refine j_callS (y := yX10_isDay) (Yc := zX10_isDay) (rest := []) [vI d] (ct_X10_isDay (T := T)) cl_X10_140 (by decide +kernel) (by decide) rfl (by decide +kernel) (Nat.le_of_ble_eq_true rfl) (by decide) (by decide) rfl ?_
    rintro _ _ ⟨rfl, x3, rfl, hx3⟩
    show J_ zX10_postpone T (po_X10_postpone T m d) 0 0 15 [some (vR 110 0), some (vI m), some (vI d), none] [vI x3] T
    refine j_blk (F := fX10) tb_X10 (by decide) bk_X10_postpone_15 hz (fun K hK => ?_)
    refine And.intro (fun c4 => ?_) (fun c4 => ?_)
    · refine hK 29 [some (vR 110 0), some (vI m), some (vI d), none] [] T ?_
      refine j_blk (F := fX10) tb_X10 (by decide) bk_X10_postpone_29 hz (fun K hK => ?_)
      refine (show po_X10_postpone T m d T (some (vI (-3))) from ?_)
      exact ⟨_, rfl, fr_0 _ _, by rfl⟩
    · intro b5 b5b
      refine And.intro (fun c6 => ?_) (fun c6 => ?_)
      · refine hK 32 [some (vR 110 0), some (vI m), some (vI d), none] [] T ?_
        refine j_blk (F := fX10) tb_X10 (by decide) bk_X10_postpone_32 hz (fun K hK => ?_)
        refine ix_i (by omega) ?_
        refine And.intro (fun c7 => ?_) (fun c7 => ?_)
        · exact absurd (show T 523 0 (m) = 0 by omega) (hka.2 _ (by omega) (by omega))
        · refine hK 43 [some (vR 110 0), some (vI m), some (vI d), some (vR 102 m)] [vR 102 m] T ?_
          refine j_callV (y := yX2_phaseOfLife) (Yc := zX2_phaseOfLife) (rest := []) [] (ct_X2_phaseOfLife (T := T)) cl_X10_223 (by decide +kernel) (by decide) rfl (by decide +kernel) (Nat.le_of_ble_eq_true rfl) (by decide) (by decide) rfl ?_
          rintro _ _ ⟨rfl, x8, rfl, hx8⟩
          show J_ zX10_postpone T (po_X10_postpone T m d) 0 0 46 [some (vR 110 0), some (vI m), some (vI d), some (vR 102 m)] [vI x8] T
          refine j_blk (F := fX10) tb_X10 (by decide) bk_X10_postpone_46 hz (fun K hK => ?_)
          refine And.intro (fun c9 => ?_) (fun c9 => ?_)
          · refine hK 57 [some (vR 110 0), some (vI m), some (vI d), some (vR 102 m)] [] T ?_
            refine j_blk (F := fX10) tb_X10 (by decide) bk_X10_postpone_57 hz (fun K hK => ?_)
            refine (show po_X10_postpone T m d T (some (vI (-4))) from ?_)
            exact ⟨_, rfl, fr_0 _ _, by rfl⟩
          · intro b10 b10b
            refine And.intro (fun c11 => ?_) (fun c11 => ?_)
            · refine hK 60 [some (vR 110 0), some (vI m), some (vI d), some (vR 102 m)] [] T ?_
              refine j_blk (F := fX10) tb_X10 (by decide) bk_X10_postpone_60 hz (fun K hK => ?_)
              refine hK 66 [some (vR 110 0), some (vI m), some (vI d), some (vR 102 m)] [vI d, vR 102 m, vR 106 0] T ?_
              refine j_callV (y := yX6_putOff) (Yc := zX6_putOff) (rest := []) [vR 102 m, vI d] (ct_X6_putOff (T := T) (hka) (by omega)) cl_X10_234 (by decide +kernel) (by decide) rfl (by decide +kernel) (Nat.le_of_ble_eq_true rfl) (by decide) (by decide) rfl ?_
              rintro U12 _ ⟨x13, rfl, fU12, _⟩
              show J_ zX10_postpone T (po_X10_postpone T m d) 0 0 69 [some (vR 110 0), some (vI m), some (vI d), some (vR 102 m)] [vI x13] U12
              refine j_blk (F := fX10) tb_X10 (by decide) bk_X10_postpone_69 hz (fun K hK => ?_)
              refine (show po_X10_postpone T m d U12 (some (vI x13)) from ?_)
              exact ⟨_, rfl, fr_t (fr_0 _ _) (fr_s fU12 rfl), by rfl⟩
            · refine (show po_X10_postpone T m d T (some (vI (-4))) from ?_)
              exact ⟨_, rfl, fr_0 _ _, by rfl⟩
      · refine (show po_X10_postpone T m d T (some (vI (-3))) from ?_)
        exact ⟨_, rfl, fr_0 _ _, by rfl⟩
  · refine (show po_X10_postpone T m d T (some (vI (-2))) from ?_)
    exact ⟨_, rfl, fr_0 _ _, by rfl⟩
