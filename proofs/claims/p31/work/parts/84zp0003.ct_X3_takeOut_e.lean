theorem bk_X3_isSameRow_e_0 : ck_ fX3 (some .boolean) cX3_isSameRow 0 [.aload 0, .tableswitch 0 3 14 #[], .iload 1, .iconst 4, .imul, .iaload, .iload 2, .if_icmp .ne 60, .aload 0, .tableswitch 0 3 14 #[], .iload 1, .iconst 4, .imul, .iconst 1, .iadd, .iaload, .iload 3, .if_icmp .ne 60, .aload 0, .tableswitch 0 3 14 #[], .iload 1, .iconst 4, .imul, .iconst 2, .iadd, .iaload, .iload 4, .if_icmp .ne 60, .aload 0, .tableswitch 0 3 14 #[], .iload 1, .iconst 4, .imul, .iconst 3, .iadd, .iaload, .iload 5, .if_icmp .ne 60, .iconst 1, .goto 61] 60 = true := qck_r (nn_ _) (by decide +kernel)
theorem bs_X3_isSameRow_e_0 {P : Zt → Option Zv → Prop} (K : Int → Zl → List Zv → Zt → Prop) : sx_ K P [.aload 0, .tableswitch 0 3 14 #[], .iload 1, .iconst 4, .imul, .iaload, .iload 2, .if_icmp .ne 60, .aload 0, .tableswitch 0 3 14 #[], .iload 1, .iconst 4, .imul, .iconst 1, .iadd, .iaload, .iload 3, .if_icmp .ne 60, .aload 0, .tableswitch 0 3 14 #[], .iload 1, .iconst 4, .imul, .iconst 2, .iadd, .iaload, .iload 4, .if_icmp .ne 60, .aload 0, .tableswitch 0 3 14 #[], .iload 1, .iconst 4, .imul, .iconst 3, .iadd, .iaload, .iload 5, .if_icmp .ne 60, .iconst 1, .goto 61] 60 = x_aload 0 (x_g3 103 190 14 (x_iload 1 (x_iconst 4 (x_imul (x_iaload (x_iload 2 (x_if_icmp .ne 60 K (x_aload 0 (x_g3 103 190 14 (x_iload 1 (x_iconst 4 (x_imul (x_iconst 1 (x_iadd (x_iaload (x_iload 3 (x_if_icmp .ne 60 K (x_aload 0 (x_g3 103 190 14 (x_iload 1 (x_iconst 4 (x_imul (x_iconst 2 (x_iadd (x_iaload (x_iload 4 (x_if_icmp .ne 60 K (x_aload 0 (x_g3 103 190 14 (x_iload 1 (x_iconst 4 (x_imul (x_iconst 3 (x_iadd (x_iaload (x_iload 5 (x_if_icmp .ne 60 K (x_iconst 1 (x_goto 61 K))))))))))))))))))))))))))))))))))))))) := ((xe_aload 0).trans (congrArg (x_aload 0) ((xe_g3 (kk := 103) rfl tl_3_14).trans (congrArg (x_g3 103 190 14) ((xe_iload 1).trans (congrArg (x_iload 1) ((xe_iconst 4).trans (congrArg (x_iconst 4) ((xe_imul).trans (congrArg (x_imul) ((xe_iaload).trans (congrArg (x_iaload) ((xe_iload 2).trans (congrArg (x_iload 2) ((xe_if_icmp .ne 60).trans (congrArg (x_if_icmp .ne 60 K) ((xe_aload 0).trans (congrArg (x_aload 0) ((xe_g3 (kk := 103) rfl tl_3_14).trans (congrArg (x_g3 103 190 14) ((xe_iload 1).trans (congrArg (x_iload 1) ((xe_iconst 4).trans (congrArg (x_iconst 4) ((xe_imul).trans (congrArg (x_imul) ((xe_iconst 1).trans (congrArg (x_iconst 1) ((xe_iadd).trans (congrArg (x_iadd) ((xe_iaload).trans (congrArg (x_iaload) ((xe_iload 3).trans (congrArg (x_iload 3) ((xe_if_icmp .ne 60).trans (congrArg (x_if_icmp .ne 60 K) ((xe_aload 0).trans (congrArg (x_aload 0) ((xe_g3 (kk := 103) rfl tl_3_14).trans (congrArg (x_g3 103 190 14) ((xe_iload 1).trans (congrArg (x_iload 1) ((xe_iconst 4).trans (congrArg (x_iconst 4) ((xe_imul).trans (congrArg (x_imul) ((xe_iconst 2).trans (congrArg (x_iconst 2) ((xe_iadd).trans (congrArg (x_iadd) ((xe_iaload).trans (congrArg (x_iaload) ((xe_iload 4).trans (congrArg (x_iload 4) ((xe_if_icmp .ne 60).trans (congrArg (x_if_icmp .ne 60 K) ((xe_aload 0).trans (congrArg (x_aload 0) ((xe_g3 (kk := 103) rfl tl_3_14).trans (congrArg (x_g3 103 190 14) ((xe_iload 1).trans (congrArg (x_iload 1) ((xe_iconst 4).trans (congrArg (x_iconst 4) ((xe_imul).trans (congrArg (x_imul) ((xe_iconst 3).trans (congrArg (x_iconst 3) ((xe_iadd).trans (congrArg (x_iadd) ((xe_iaload).trans (congrArg (x_iaload) ((xe_iload 5).trans (congrArg (x_iload 5) ((xe_if_icmp .ne 60).trans (congrArg (x_if_icmp .ne 60 K) ((xe_iconst 1).trans (congrArg (x_iconst 1) (xe_goto 61)))))))))))))))))))))))))))))))))))))))))))))))))))))))))))))))))))))))))))))))
theorem bk_X3_isSameRow_e_60 : ck_ fX3 (some .boolean) cX3_isSameRow 60 [.iconst 0, .ireturn] 62 = true := qck_r (nn_ _) (by decide +kernel)
theorem bs_X3_isSameRow_e_60 {P : Zt → Option Zv → Prop} (K : Int → Zl → List Zv → Zt → Prop) : sx_ K P [.iconst 0, .ireturn] 62 = x_iconst 0 (x_ireturn P) := ((xe_iconst 0).trans (congrArg (x_iconst 0) (xe_ireturn)))
theorem bk_X3_isSameRow_e_61 : ck_ fX3 (some .boolean) cX3_isSameRow 61 [.ireturn] 62 = true := qck_r (nn_ _) (by decide +kernel)
theorem bs_X3_isSameRow_e_61 {P : Zt → Option Zv → Prop} (K : Int → Zl → List Zv → Zt → Prop) : sx_ K P [.ireturn] 62 = x_ireturn P := (xe_ireturn)
abbrev po_X3_isSameRow_e (T : Zt) (p : Int) (i k s v w : Int) : Zt → Option Zv → Prop := fun T' r => T = T' ∧ ∃ x : Int, r = some (vI x) ∧ ((x = 1 ∧ (T 190 (T 103 p 14) (i * 4) = k ∧ T 190 (T 103 p 14) (i * 4 + 1) = s ∧ T 190 (T 103 p 14) (i * 4 + 2) = v ∧ T 190 (T 103 p 14) (i * 4 + 3) = w)) ∨ (x = 0 ∧ ¬ (T 190 (T 103 p 14) (i * 4) = k ∧ T 190 (T 103 p 14) (i * 4 + 1) = s ∧ T 190 (T 103 p 14) (i * 4 + 2) = v ∧ T 190 (T 103 p 14) (i * 4 + 3) = w)))
set_option maxHeartbeats 4000000 in
theorem ct_X3_isSameRow_e {T : Zt} {p : Int} {i k s v w : Int} (h1 : 0 ≤ i ∧ i ≤ 1000 ∧ i * 4 + 3 < T 190 (T 103 p 14) (-2)) : Ct_ yX3_isSameRow zX3_isSameRow T [vR 103 p, vI i, vI k, vI s, vI v, vI w] (po_X3_isSameRow_e T p i k s v w) := by
  refine ct_of pn_3 rfl rfl (Nat.le_of_ble_eq_true rfl) (fun hT hav => ?_)
  have hr_i : -2147483648 ≤ i ∧ i ≤ 2147483647 := hav (vI i) (List.mem_cons_of_mem _ List.mem_cons_self)
  have hr_k : -2147483648 ≤ k ∧ k ≤ 2147483647 := hav (vI k) (List.mem_cons_of_mem _ (List.mem_cons_of_mem _ List.mem_cons_self))
  have hr_s : -2147483648 ≤ s ∧ s ≤ 2147483647 := hav (vI s) (List.mem_cons_of_mem _ (List.mem_cons_of_mem _ (List.mem_cons_of_mem _ List.mem_cons_self)))
  have hr_v : -2147483648 ≤ v ∧ v ≤ 2147483647 := hav (vI v) (List.mem_cons_of_mem _ (List.mem_cons_of_mem _ (List.mem_cons_of_mem _ (List.mem_cons_of_mem _ List.mem_cons_self))))
  have hr_w : -2147483648 ≤ w ∧ w ≤ 2147483647 := hav (vI w) (List.mem_cons_of_mem _ (List.mem_cons_of_mem _ (List.mem_cons_of_mem _ (List.mem_cons_of_mem _ (List.mem_cons_of_mem _ List.mem_cons_self)))))
  have hz : zX3_isSameRow.2.2.2.1 = some .boolean → ∀ (T' : Zt) (x : Int), po_X3_isSameRow_e T p i k s v w T' (some (vI x)) → 0 ≤ x ∧ x ≤ 1 := fun _ T' x h => by obtain ⟨-, y, e, hy⟩ := h; cases e; omega
  show J_ zX3_isSameRow T (po_X3_isSameRow_e T p i k s v w) 0 0 0 [some (vR 103 p), some (vI i), some (vI k), some (vI s), some (vI v), some (vI w)] [] T
  refine j_blx (F := fX3) tb_X3 (nn_ _) bk_X3_isSameRow_e_0 bs_X3_isSameRow_e_0 hz (fun K hK => ?_)
  refine rg_i (by omega) ?_
  refine ix_i (by omega) ?_
  intro b2 b2b
  refine And.intro (fun c3 => ?_) (fun c3 => ?_)
  · refine hK 60 _ [] T ?_
    refine j_blx (F := fX3) tb_X3 (nn_ _) bk_X3_isSameRow_e_60 bs_X3_isSameRow_e_60 hz (fun K hK => ?_)
    refine (show po_X3_isSameRow_e T p i k s v w T (some (vI 0)) from ?_)
    exact ⟨rfl, _, rfl, Or.inr ⟨rfl, by omega⟩⟩
  · refine rg_i (by omega) ?_
    refine rg_i (by omega) ?_
    refine ix_i (by omega) ?_
    intro b5 b5b
    refine And.intro (fun c6 => ?_) (fun c6 => ?_)
    · refine hK 60 _ [] T ?_
      refine j_blx (F := fX3) tb_X3 (nn_ _) bk_X3_isSameRow_e_60 bs_X3_isSameRow_e_60 hz (fun K hK => ?_)
      refine (show po_X3_isSameRow_e T p i k s v w T (some (vI 0)) from ?_)
      exact ⟨rfl, _, rfl, Or.inr ⟨rfl, by omega⟩⟩
    · refine rg_i (by omega) ?_
      refine rg_i (by omega) ?_
      refine ix_i (by omega) ?_
      intro b8 b8b
      refine And.intro (fun c9 => ?_) (fun c9 => ?_)
      · refine hK 60 _ [] T ?_
        refine j_blx (F := fX3) tb_X3 (nn_ _) bk_X3_isSameRow_e_60 bs_X3_isSameRow_e_60 hz (fun K hK => ?_)
        refine (show po_X3_isSameRow_e T p i k s v w T (some (vI 0)) from ?_)
        exact ⟨rfl, _, rfl, Or.inr ⟨rfl, by omega⟩⟩
      · refine rg_i (by omega) ?_
        refine rg_i (by omega) ?_
        refine ix_i (by omega) ?_
        intro b11 b11b
        refine And.intro (fun c12 => ?_) (fun c12 => ?_)
        · refine hK 60 _ [] T ?_
          refine j_blx (F := fX3) tb_X3 (nn_ _) bk_X3_isSameRow_e_60 bs_X3_isSameRow_e_60 hz (fun K hK => ?_)
          refine (show po_X3_isSameRow_e T p i k s v w T (some (vI 0)) from ?_)
          exact ⟨rfl, _, rfl, Or.inr ⟨rfl, by omega⟩⟩
        · refine hK 61 _ [vI 1] T ?_
          refine j_blx (F := fX3) tb_X3 (nn_ _) bk_X3_isSameRow_e_61 bs_X3_isSameRow_e_61 hz (fun K hK => ?_)
          refine (show po_X3_isSameRow_e T p i k s v w T (some (vI 1)) from ?_)
          exact ⟨rfl, _, rfl, Or.inl ⟨rfl, by omega⟩⟩
theorem bk_X3_takeOut_e_6 : ck_ fX3 none cX3_takeOut 6 [.iload 2, .aload 0, .tableswitch 0 3 15 #[], .iconst 4, .imul, .if_icmp .ge 36, .aload 0, .tableswitch 0 3 14 #[], .iload 2, .iconst 4, .isub, .aload 0, .tableswitch 0 3 14 #[], .iload 2, .iaload, .iastore, .iinc 2 1, .goto 6] 36 = true := qck_r (nn_ _) (by decide +kernel)
theorem bs_X3_takeOut_e_6 {P : Zt → Option Zv → Prop} (K : Int → Zl → List Zv → Zt → Prop) : sx_ K P [.iload 2, .aload 0, .tableswitch 0 3 15 #[], .iconst 4, .imul, .if_icmp .ge 36, .aload 0, .tableswitch 0 3 14 #[], .iload 2, .iconst 4, .isub, .aload 0, .tableswitch 0 3 14 #[], .iload 2, .iaload, .iastore, .iinc 2 1, .goto 6] 36 = x_iload 2 (x_aload 0 (x_g0 103 15 0 3000 (x_iconst 4 (x_imul (x_if_icmp .ge 36 K (x_aload 0 (x_g3 103 190 14 (x_iload 2 (x_iconst 4 (x_isub (x_aload 0 (x_g3 103 190 14 (x_iload 2 (x_iaload (x_iastore (x_iinc 2 1 (x_goto 6 K))))))))))))))))) := ((xe_iload 2).trans (congrArg (x_iload 2) ((xe_aload 0).trans (congrArg (x_aload 0) ((xe_g0 (kk := 103) rfl tl_3_15).trans (congrArg (x_g0 103 15 0 3000) ((xe_iconst 4).trans (congrArg (x_iconst 4) ((xe_imul).trans (congrArg (x_imul) ((xe_if_icmp .ge 36).trans (congrArg (x_if_icmp .ge 36 K) ((xe_aload 0).trans (congrArg (x_aload 0) ((xe_g3 (kk := 103) rfl tl_3_14).trans (congrArg (x_g3 103 190 14) ((xe_iload 2).trans (congrArg (x_iload 2) ((xe_iconst 4).trans (congrArg (x_iconst 4) ((xe_isub).trans (congrArg (x_isub) ((xe_aload 0).trans (congrArg (x_aload 0) ((xe_g3 (kk := 103) rfl tl_3_14).trans (congrArg (x_g3 103 190 14) ((xe_iload 2).trans (congrArg (x_iload 2) ((xe_iaload).trans (congrArg (x_iaload) ((xe_iastore).trans (congrArg (x_iastore) ((xe_iinc 2 1).trans (congrArg (x_iinc 2 1) (xe_goto 6)))))))))))))))))))))))))))))))))))
theorem bk_X3_takeOut_e_36 : ck_ fX3 none cX3_takeOut 36 [.aload 0, .dup, .tableswitch 0 3 15 #[], .iconst 1, .isub, .tableswitch 1 3 15 #[], .return_] 47 = true := qck_r (nn_ _) (by decide +kernel)
theorem bs_X3_takeOut_e_36 {P : Zt → Option Zv → Prop} (K : Int → Zl → List Zv → Zt → Prop) : sx_ K P [.aload 0, .dup, .tableswitch 0 3 15 #[], .iconst 1, .isub, .tableswitch 1 3 15 #[], .return_] 47 = x_aload 0 (x_dup (x_g0 103 15 0 3000 (x_iconst 1 (x_isub (x_p 103 15 0 3000 (x_return_ P)))))) := ((xe_aload 0).trans (congrArg (x_aload 0) ((xe_dup).trans (congrArg (x_dup) ((xe_g0 (kk := 103) rfl tl_3_15).trans (congrArg (x_g0 103 15 0 3000) ((xe_iconst 1).trans (congrArg (x_iconst 1) ((xe_isub).trans (congrArg (x_isub) ((xe_p (kk := 103) rfl tl_3_15).trans (congrArg (x_p 103 15 0 3000) (xe_return_)))))))))))))
theorem bk_X3_takeOut_e_0 : ck_ fX3 none cX3_takeOut 0 [.iload 1, .iconst 4, .imul, .iconst 4, .iadd, .istore 2] 6 = true := qck_r (nn_ _) (by decide +kernel)
theorem bs_X3_takeOut_e_0 {P : Zt → Option Zv → Prop} (K : Int → Zl → List Zv → Zt → Prop) : sx_ K P [.iload 1, .iconst 4, .imul, .iconst 4, .iadd, .istore 2] 6 = x_iload 1 (x_iconst 4 (x_imul (x_iconst 4 (x_iadd (x_istore 2 (K 6)))))) := ((xe_iload 1).trans (congrArg (x_iload 1) ((xe_iconst 4).trans (congrArg (x_iconst 4) ((xe_imul).trans (congrArg (x_imul) ((xe_iconst 4).trans (congrArg (x_iconst 4) ((xe_iadd).trans (congrArg (x_iadd) ((xe_istore 2).trans (congrArg (x_istore 2) xe_nil))))))))))))
abbrev po_X3_takeOut_e (T : Zt) (p : Int) (i : Int) : Zt → Option Zv → Prop := fun T' r => r = none ∧ fr_ [(103, [15]), (190, [])] T T' ∧ (oq_ T T' p ∧ T' 103 p 15 = T 103 p 15 - 1 ∧ (∀ x, T' 190 x (-2) = T 190 x (-2)) ∧ (∀ x j, x ≠ T 103 p 14 → T' 190 x j = T 190 x j) ∧ hr9_ T' (T 103 p 14) (T' 103 p 15).toNat = (hr9_ T (T 103 p 14) (T 103 p 15).toNat).eraseIdx i.toNat)
set_option maxHeartbeats 4000000 in
theorem ct_X3_takeOut_e {T : Zt} {p : Int} {i : Int} (h1 : 0 ≤ i ∧ i < T 103 p 15 ∧ T 103 p 15 ≤ 1000 ∧ 4 * T 103 p 15 ≤ T 190 (T 103 p 14) (-2)) : Ct_ yX3_takeOut zX3_takeOut T [vR 103 p, vI i] (po_X3_takeOut_e T p i) := by
  refine ct_of pn_3 rfl rfl (Nat.le_of_ble_eq_true rfl) (fun hT hav => ?_)
  have hr_i : -2147483648 ≤ i ∧ i ≤ 2147483647 := hav (vI i) (List.mem_cons_of_mem _ List.mem_cons_self)
  have hz : zX3_takeOut.2.2.2.1 = some .boolean → ∀ (T' : Zt) (x : Int), po_X3_takeOut_e T p i T' (some (vI x)) → 0 ≤ x ∧ x ≤ 1 := fun h => by cases h
  show J_ zX3_takeOut T (po_X3_takeOut_e T p i) 0 0 0 [some (vR 103 p), some (vI i), none] [] T
  have c_6 : ∀ (nn : Nat) (j : Int) (T1 : Zt), ((4 * T 103 p 15 - j).toNat) ≤ nn → (fr_ [(190, [])] T T1) → (∀ x, T1 190 x (-2) = T 190 x (-2)) → (oq_ T T1 p) → (∀ x j, x ≠ T 103 p 14 → T1 190 x j = T 190 x j) → (i * 4 + 4 ≤ j ∧ j ≤ 4 * T 103 p 15) → (∀ x, x < i * 4 → T1 190 (T 103 p 14) x = T 190 (T 103 p 14) x) → (∀ x, i * 4 ≤ x → x < j - 4 → T1 190 (T 103 p 14) x = T 190 (T 103 p 14) (x + 4)) → (∀ x, j ≤ x → T1 190 (T 103 p 14) x = T 190 (T 103 p 14) x) → J_ zX3_takeOut T (po_X3_takeOut_e T p i) 0 0 6 [some (vR 103 p), some (vI i), some (vI j)] [] T1 := by
    intro nn
    induction nn using Nat.strongRecOn with
    | _ nn ih_6 =>
      intro j T1 hm_6 hf_6 lT1 oT1 xT1 i1 t1 t2 t3
      replace hm_6 := fun (_ : Unit) => hm_6
      refine j_blx (F := fX3) tb_X3 (nn_ _) bk_X3_takeOut_e_6 bs_X3_takeOut_e_6 hz (fun K hK => ?_)
      intro b1 b1b
      have e2 : T1 103 p 15 = T 103 p 15 := hf_6 103 p 15 rfl
      rw [e2] at b1 b1b ⊢
      refine rg_i (by omega) ?_
      refine And.intro (fun c3 => ?_) (fun c3 => ?_)
      · refine hK 36 _ [] T1 ?_
        refine j_blx (F := fX3) tb_X3 (nn_ _) bk_X3_takeOut_e_36 bs_X3_takeOut_e_36 hz (fun K hK => ?_)
        intro b4 b4b
        have e5 : T1 103 p 15 = T 103 p 15 := hf_6 103 p 15 rfl
        rw [e5] at b4 b4b ⊢
        refine rg_i (by omega) ?_
        refine bd_i (by omega) ?_
        refine x_nm (fun U6 hU6 => ?_)
        have e7 := up_f hU6
        refine (show po_X3_takeOut_e T p i U6 (none) from ?_)
        have e8 : U6 103 p 15 = (T 103 p 15) - 1 := up_f hU6
        have e9 : U6 103 p 15 = (T 103 p 15) - 1 := up_f hU6
        have b2 : hr9_ U6 (T 103 p 14) (U6 103 p 15).toNat = (hr9_ T (T 103 p 14) (T 103 p 15).toNat).eraseIdx i.toNat := by
          rw [show U6 103 p 15 = T 103 p 15 - 1 by omega]
          exact hrw_d (by omega) (by omega) (fun j h => (up_k hU6 (by exact Nat.ne_of_beq_eq_false rfl) _ _).trans (t1 j h)) (fun j a b => (up_k hU6 (by exact Nat.ne_of_beq_eq_false rfl) _ _).trans (t2 j a (by omega)))
        exact ⟨rfl, fr_u (fr_t (fr_0 _ _) (fr_s hf_6 rfl)) hU6 rfl, oq_u (oT1) hU6, by omega, fun x => (up_k hU6 (by exact Nat.ne_of_beq_eq_false rfl) _ (-2)).trans (lT1 x), fun x j hx => (up_k hU6 (by exact Nat.ne_of_beq_eq_false rfl) _ _).trans (xT1 x j hx), b2⟩
      · have e11 : T1 103 p 14 = T 103 p 14 := hf_6 103 p 14 rfl
        refine rg_i (by omega) ?_
        have e13 : T1 103 p 14 = T 103 p 14 := hf_6 103 p 14 rfl
        have y14 : T1 190 (T1 103 p 14) (-2) = T 190 (T 103 p 14) (-2) := by rw [e13]; exact lT1 _
        refine ix_i (by omega) ?_
        intro b15 b15b
        have e16 : T1 190 (T1 103 p 14) j = T1 190 (T 103 p 14) j := by rw [e13]
        rw [e16] at b15 b15b ⊢
        have y17 : T1 190 (T1 103 p 14) (-2) = T 190 (T 103 p 14) (-2) := by rw [e13]; exact lT1 _
        refine iy_i (by omega) (by omega) ?_
        refine x_nm (fun U18 hU18 => ?_)
        have e19 := up_f hU18
        refine rg_i (by omega) ?_
        refine hK 6 [some (vR 103 p), some (vI i), some (vI (j + 1))] [] U18 ?_
        refine ih_6 _ ?_ (j + 1) U18 (Nat.le_refl _) ?_ ?_ ?_ ?_ ?_ ?_ ?_ ?_
        · have hm_6 := hm_6 (); omega
        · exact fr_u (fr_t (fr_0 _ _) (fr_s hf_6 rfl)) hU18 rfl
        · exact fun x => (up_g hU18 (fun z => by omega)).trans (lT1 x)
        · exact oq_w (oT1) hU18
        · exact fun x j hx => (up_g hU18 (fun z => by omega)).trans (xT1 x j hx)
        · omega
        · exact fun x hx => (up_g hU18 (fun z => by omega)).trans (t1 x hx)
        · intro x a b
          by_cases z : x = j - 4
          · rw [z]
            rw [show j - 4 + 4 = j by omega]
            exact (congrArg (fun i9 => U18 190 i9 (j - 4)) e13.symm).trans ((up_x hU18 (by omega)).trans (t3 j (by omega)))
          · rw [up_g hU18 (fun y => by omega)]
            exact t2 x a (by omega)
        · exact fun x hx => (up_g hU18 (fun z => by omega)).trans (t3 x (by omega))
  refine j_blx (F := fX3) tb_X3 (nn_ _) bk_X3_takeOut_e_0 bs_X3_takeOut_e_0 hz (fun K hK => ?_)
  refine rg_i (by omega) ?_
  refine rg_i (by omega) ?_
  refine hK 6 [some (vR 103 p), some (vI i), some (vI ((i * 4) + 4))] [] T ?_
  refine c_6 _ ((i * 4) + 4) T (Nat.le_refl _) ?_ ?_ ?_ ?_ ?_ ?_ ?_ ?_
  · exact fr_0 _ _
  · exact fun x => rfl
  · exact oq_r
  · exact fun x j _ => rfl
  · omega
  · exact fun x _ => rfl
  · intro x a b; omega
  · exact fun x _ => rfl
