abbrev cX4_firstBest : ByteArray := prog_6_method_6_code
def yX4_firstBest : MethodName := ⟨RX4, "firstBest", "(LSportsHouse$Match;III)I"⟩
def zX4_firstBest : Zm := (RX4, cX4_firstBest, 8, (some .int), { frames := 2, cells := 0, slots := 0, locals := 45 })
theorem bk_X4_firstBest_11 : ck_ fX4 (some .int) cX4_firstBest 11 [.iload 6, .aload 0, .tableswitch 0 4 1 #[], .tableswitch 0 8 12 #[], .if_icmp .ge 79, .aload 0, .aload 1, .iload 6, .iload 3] 28 = true := qck_r (nn_ _) (by decide +kernel)
theorem bs_X4_firstBest_11 {P : Zt → Option Zv → Prop} (K : Int → Zl → List Zv → Zt → Prop) : sx_ K P [.iload 6, .aload 0, .tableswitch 0 4 1 #[], .tableswitch 0 8 12 #[], .if_icmp .ge 79, .aload 0, .aload 1, .iload 6, .iload 3] 28 = x_iload 6 (x_aload 0 (x_g1 104 108 (x_g0 108 12 0 8 (x_if_icmp .ge 79 K (x_aload 0 (x_aload 1 (x_iload 6 (x_iload 3 (K 28))))))))) := ((xe_iload 6).trans (congrArg (x_iload 6) ((xe_aload 0).trans (congrArg (x_aload 0) ((xe_g1 (kk := 104) rfl tl_4_1).trans (congrArg (x_g1 104 108) ((xe_g0 (kk := 108) rfl tl_8_12).trans (congrArg (x_g0 108 12 0 8) ((xe_if_icmp .ge 79).trans (congrArg (x_if_icmp .ge 79 K) ((xe_aload 0).trans (congrArg (x_aload 0) ((xe_aload 1).trans (congrArg (x_aload 1) ((xe_iload 6).trans (congrArg (x_iload 6) ((xe_iload 3).trans (congrArg (x_iload 3) xe_nil))))))))))))))))))
theorem bk_X4_firstBest_79 : ck_ fX4 (some .int) cX4_firstBest 79 [.iconst (-1), .ireturn] 81 = true := qck_r (nn_ _) (by decide +kernel)
theorem bs_X4_firstBest_79 {P : Zt → Option Zv → Prop} (K : Int → Zl → List Zv → Zt → Prop) : sx_ K P [.iconst (-1), .ireturn] 81 = x_iconst (-1) (x_ireturn P) := ((xe_iconst (-1)).trans (congrArg (x_iconst (-1)) (xe_ireturn)))
theorem bk_X4_firstBest_31 : ck_ fX4 (some .int) cX4_firstBest 31 [.istore 7, .iload 7, .iconst (-1), .if_icmp .eq 73, .iload 7, .aload 0, .tableswitch 0 4 4 #[], .iload 5, .iload 3, .iconst 1, .iload 6, .ishl, .ior, .iadd, .iaload, .fadd, .aload 0, .tableswitch 0 4 4 #[], .iload 2, .iload 4, .imul, .iload 3, .iadd, .iaload, .if_icmp .ne 73, .iload 6, .ireturn] 73 = true := qck_r (nn_ _) (by decide +kernel)
theorem bs_X4_firstBest_31 {P : Zt → Option Zv → Prop} (K : Int → Zl → List Zv → Zt → Prop) : sx_ K P [.istore 7, .iload 7, .iconst (-1), .if_icmp .eq 73, .iload 7, .aload 0, .tableswitch 0 4 4 #[], .iload 5, .iload 3, .iconst 1, .iload 6, .ishl, .ior, .iadd, .iaload, .fadd, .aload 0, .tableswitch 0 4 4 #[], .iload 2, .iload 4, .imul, .iload 3, .iadd, .iaload, .if_icmp .ne 73, .iload 6, .ireturn] 73 = x_istore 7 (x_iload 7 (x_iconst (-1) (x_if_icmp .eq 73 K (x_iload 7 (x_aload 0 (x_g3 104 190 4 (x_iload 5 (x_iload 3 (x_iconst 1 (x_iload 6 (x_ishl (x_ior (x_iadd (x_iaload (x_fadd (x_aload 0 (x_g3 104 190 4 (x_iload 2 (x_iload 4 (x_imul (x_iload 3 (x_iadd (x_iaload (x_if_icmp .ne 73 K (x_iload 6 (x_ireturn P)))))))))))))))))))))))))) := ((xe_istore 7).trans (congrArg (x_istore 7) ((xe_iload 7).trans (congrArg (x_iload 7) ((xe_iconst (-1)).trans (congrArg (x_iconst (-1)) ((xe_if_icmp .eq 73).trans (congrArg (x_if_icmp .eq 73 K) ((xe_iload 7).trans (congrArg (x_iload 7) ((xe_aload 0).trans (congrArg (x_aload 0) ((xe_g3 (kk := 104) rfl tl_4_4).trans (congrArg (x_g3 104 190 4) ((xe_iload 5).trans (congrArg (x_iload 5) ((xe_iload 3).trans (congrArg (x_iload 3) ((xe_iconst 1).trans (congrArg (x_iconst 1) ((xe_iload 6).trans (congrArg (x_iload 6) ((xe_ishl).trans (congrArg (x_ishl) ((xe_ior).trans (congrArg (x_ior) ((xe_iadd).trans (congrArg (x_iadd) ((xe_iaload).trans (congrArg (x_iaload) ((xe_fadd).trans (congrArg (x_fadd) ((xe_aload 0).trans (congrArg (x_aload 0) ((xe_g3 (kk := 104) rfl tl_4_4).trans (congrArg (x_g3 104 190 4) ((xe_iload 2).trans (congrArg (x_iload 2) ((xe_iload 4).trans (congrArg (x_iload 4) ((xe_imul).trans (congrArg (x_imul) ((xe_iload 3).trans (congrArg (x_iload 3) ((xe_iadd).trans (congrArg (x_iadd) ((xe_iaload).trans (congrArg (x_iaload) ((xe_if_icmp .ne 73).trans (congrArg (x_if_icmp .ne 73 K) ((xe_iload 6).trans (congrArg (x_iload 6) (xe_ireturn)))))))))))))))))))))))))))))))))))))))))))))))))))))
theorem bk_X4_firstBest_73 : ck_ fX4 (some .int) cX4_firstBest 73 [.iinc 6 1, .goto 11] 79 = true := qck_r (nn_ _) (by decide +kernel)
theorem bs_X4_firstBest_73 {P : Zt → Option Zv → Prop} (K : Int → Zl → List Zv → Zt → Prop) : sx_ K P [.iinc 6 1, .goto 11] 79 = x_iinc 6 1 (x_goto 11 K) := ((xe_iinc 6 1).trans (congrArg (x_iinc 6 1) (xe_goto 11)))
theorem bk_X4_firstBest_0 : ck_ fX4 (some .int) cX4_firstBest 0 [.iload 2, .iconst 1, .iadd, .iload 4, .imul, .istore 5, .iconst 0, .istore 6] 11 = true := qck_r (nn_ _) (by decide +kernel)
theorem bs_X4_firstBest_0 {P : Zt → Option Zv → Prop} (K : Int → Zl → List Zv → Zt → Prop) : sx_ K P [.iload 2, .iconst 1, .iadd, .iload 4, .imul, .istore 5, .iconst 0, .istore 6] 11 = x_iload 2 (x_iconst 1 (x_iadd (x_iload 4 (x_imul (x_istore 5 (x_iconst 0 (x_istore 6 (K 11)))))))) := ((xe_iload 2).trans (congrArg (x_iload 2) ((xe_iconst 1).trans (congrArg (x_iconst 1) ((xe_iadd).trans (congrArg (x_iadd) ((xe_iload 4).trans (congrArg (x_iload 4) ((xe_imul).trans (congrArg (x_imul) ((xe_istore 5).trans (congrArg (x_istore 5) ((xe_iconst 0).trans (congrArg (x_iconst 0) ((xe_istore 6).trans (congrArg (x_istore 6) xe_nil))))))))))))))))
abbrev po_X4_firstBest (T : Zt) (p : Int) (k a e : Int) : Zt → Option Zv → Prop := fun T' r => T = T' ∧ ∃ x : Int, r = some (vI x) ∧ (x = -1 ∨ (0 ≤ x ∧ x < T 108 0 12))
set_option maxHeartbeats 4000000 in
theorem ct_X4_firstBest {T : Zt} {p : Int} {k a e : Int} (hk : 0 ≤ k ∧ k < 48) (ha : 0 ≤ a ∧ a < e) (hO : OS_ (T 108 0 12) e) (hL : (k + 2) * e ≤ T 190 (T 104 0 4) (-2)) : Ct_ yX4_firstBest zX4_firstBest T [vR 104 0, vR 102 p, vI k, vI a, vI e] (po_X4_firstBest T p k a e) := by
  refine ct_of pn_4 rfl rfl (Nat.le_of_ble_eq_true rfl) (fun hT hav => ?_)
  have hr_k : -2147483648 ≤ k ∧ k ≤ 2147483647 := hav (vI k) (List.mem_cons_of_mem _ (List.mem_cons_of_mem _ List.mem_cons_self))
  have hr_a : -2147483648 ≤ a ∧ a ≤ 2147483647 := hav (vI a) (List.mem_cons_of_mem _ (List.mem_cons_of_mem _ (List.mem_cons_of_mem _ List.mem_cons_self)))
  have hr_e : -2147483648 ≤ e ∧ e ≤ 2147483647 := hav (vI e) (List.mem_cons_of_mem _ (List.mem_cons_of_mem _ (List.mem_cons_of_mem _ (List.mem_cons_of_mem _ List.mem_cons_self))))
  have hz : zX4_firstBest.2.2.2.1 = some .boolean → ∀ (T' : Zt) (x : Int), po_X4_firstBest T p k a e T' (some (vI x)) → 0 ≤ x ∧ x ≤ 1 := fun h => by cases h
  have hb_officials : 0 ≤ T 108 0 12 ∧ T 108 0 12 ≤ 8 := bd_f hT 108 12 tl_8_12 0
  have hE := hO.1
  have hm := mlb (a := k + 2) (b := e) (A := 50) (B := 256) (by omega) (by omega)
  have x1 := k1e k e
  have x2 := k2e k e
  have hm0 := mlb (a := k) (b := e) (A := 48) (B := 256) (by omega) (by omega)
  show J_ zX4_firstBest T (po_X4_firstBest T p k a e) 0 0 0 [some (vR 104 0), some (vR 102 p), some (vI k), some (vI a), some (vI e), none, none, none] [] T
  have c_11 : ∀ (nn : Nat) (j : Int), ((T 108 0 12 - j).toNat) ≤ nn → (0 ≤ j) → J_ zX4_firstBest T (po_X4_firstBest T p k a e) 0 0 11 [some (vR 104 0), some (vR 102 p), some (vI k), some (vI a), some (vI e), some (vI ((k + 1) * e)), some (vI j), none] [] T := by
    intro nn
    induction nn using Nat.strongRecOn with
    | _ nn ih_11 =>
      intro j hm_11 i1
      replace hm_11 := fun (_ : Unit) => hm_11
      refine j_blx (F := fX4) tb_X4 (nn_ _) bk_X4_firstBest_11 bs_X4_firstBest_11 hz (fun K hK => ?_)
      intro b1 b1b
      refine And.intro (fun c2 => ?_) (fun c2 => ?_)
      · refine hK 79 _ [] T ?_
        refine j_blx (F := fX4) tb_X4 (nn_ _) bk_X4_firstBest_79 bs_X4_firstBest_79 hz (fun K hK => ?_)
        refine (show po_X4_firstBest T p k a e T (some (vI (-1))) from ?_)
        exact ⟨rfl, _, rfl, by omega⟩
      · refine hK 28 _ [vI a, vI j, vR 102 p, vR 104 0] T ?_
        refine j_callV (y := yX4_gainOf) (Yc := zX4_gainOf) (rest := []) [vR 102 p, vI j, vI a] (ct_X4_gainOf (T := T) (by omega)) cl_X4_70 (qd_c (by decide +kernel)) (nn_ _) rfl (rf_of rfl) (Nat.le_of_ble_eq_true rfl) (Nat.le_of_ble_eq_true rfl) (Nat.le_of_ble_eq_true rfl) rfl ?_
        rintro _ _ ⟨rfl, x3, rfl, hx3⟩
        show J_ zX4_firstBest T (po_X4_firstBest T p k a e) 0 0 31 _ [vI x3] T
        refine j_blx (F := fX4) tb_X4 (nn_ _) bk_X4_firstBest_31 bs_X4_firstBest_31 hz (fun K hK => ?_)
        refine And.intro (fun c4 => ?_) (fun c4 => ?_)
        · refine hK 73 [some (vR 104 0), some (vR 102 p), some (vI k), some (vI a), some (vI e), some (vI ((k + 1) * e)), some (vI j), some (vI x3)] [] T ?_
          refine j_blx (F := fX4) tb_X4 (nn_ _) bk_X4_firstBest_73 bs_X4_firstBest_73 hz (fun K hK => ?_)
          refine rg_i (by omega) ?_
          refine hK 11 [some (vR 104 0), some (vR 102 p), some (vI k), some (vI a), some (vI e), some (vI ((k + 1) * e)), some (vI (j + 1)), some (vI x3)] [] T ?_
          refine j_drop [some (vR 104 0), some (vR 102 p), some (vI k), some (vI a), some (vI e), some (vI ((k + 1) * e)), some (vI (j + 1)), none] (fun k v hk => ?_) rfl ?_
          · match k, hk with
            | 0, hk => exact hk
            | 1, hk => exact hk
            | 2, hk => exact hk
            | 3, hk => exact hk
            | 4, hk => exact hk
            | 5, hk => exact hk
            | 6, hk => exact hk
            | 7, hk => cases hk
            | k + 8, hk => cases hk
          refine ih_11 _ ?_ (j + 1) (Nat.le_refl _) ?_
          · have hm_11 := hm_11 (); omega
          · omega
        · intro w6 w6b
          intro w7 w7b
          have y8 := hO.2 a j (by omega) (by omega) (by omega) (by omega)
          refine rg_i (by omega) ?_
          refine ix_i (by omega) ?_
          intro b9 b9b
          intro w10 w10b
          refine rg_i (by omega) ?_
          refine rg_i (by omega) ?_
          refine ix_i (by omega) ?_
          intro b12 b12b
          refine And.intro (fun c13 => ?_) (fun c13 => ?_)
          · refine hK 73 [some (vR 104 0), some (vR 102 p), some (vI k), some (vI a), some (vI e), some (vI ((k + 1) * e)), some (vI j), some (vI x3)] [] T ?_
            refine j_blx (F := fX4) tb_X4 (nn_ _) bk_X4_firstBest_73 bs_X4_firstBest_73 hz (fun K hK => ?_)
            refine rg_i (by omega) ?_
            refine hK 11 [some (vR 104 0), some (vR 102 p), some (vI k), some (vI a), some (vI e), some (vI ((k + 1) * e)), some (vI (j + 1)), some (vI x3)] [] T ?_
            refine j_drop [some (vR 104 0), some (vR 102 p), some (vI k), some (vI a), some (vI e), some (vI ((k + 1) * e)), some (vI (j + 1)), none] (fun k v hk => ?_) rfl ?_
            · match k, hk with
              | 0, hk => exact hk
              | 1, hk => exact hk
              | 2, hk => exact hk
              | 3, hk => exact hk
              | 4, hk => exact hk
              | 5, hk => exact hk
              | 6, hk => exact hk
              | 7, hk => cases hk
              | k + 8, hk => cases hk
            refine ih_11 _ ?_ (j + 1) (Nat.le_refl _) ?_
            · have hm_11 := hm_11 (); omega
            · omega
          · refine (show po_X4_firstBest T p k a e T (some (vI j)) from ?_)
            exact ⟨rfl, _, rfl, by omega⟩
  refine j_blx (F := fX4) tb_X4 (nn_ _) bk_X4_firstBest_0 bs_X4_firstBest_0 hz (fun K hK => ?_)
  refine rg_i (by omega) ?_
  refine rg_i (by omega) ?_
  refine hK 11 [some (vR 104 0), some (vR 102 p), some (vI k), some (vI a), some (vI e), some (vI ((k + 1) * e)), some (vI 0), none] [] T ?_
  refine c_11 _ 0 (Nat.le_refl _) ?_
  · omega
