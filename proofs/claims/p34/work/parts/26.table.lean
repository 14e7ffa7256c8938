theorem an_nn (x : Int) : 0 ≤ an_ x 2147483647 := by
  have h : ((Int32.ofInt x).toBitVec &&& (Int32.ofInt 2147483647).toBitVec).msb = false := by
    rw [BitVec.msb_and, show (Int32.ofInt 2147483647).toBitVec.msb = false by decide, Bool.and_false]
  show 0 ≤ ((Int32.ofInt x).toBitVec &&& (Int32.ofInt 2147483647).toBitVec).toInt
  rw [BitVec.toInt_eq_msb_cond, h]
  simp
abbrev cX11_lot : ByteArray := prog_13_method_85_code
def yX11_lot : MethodName := ⟨RX11, "lot", "(III)I"⟩
def zX11_lot : Zm := (RX11, cX11_lot, 5, (some .int), { frames := 0, cells := 0, slots := 0, locals := 0 })
theorem bk_X11_lot_16 : ck_ fX11 (some .int) cX11_lot 16 [.iload 4, .iconst 3, .if_icmp .ge 51, .iload 3, .iload 3, .iconst 16, .iushr, .ixor, .istore 3, .iload 4, .iconst 2, .if_icmp .ge 43, .iload 3, .iconst 73244475, .fmul, .goto 44] 43 = true := qck_r (nn_ _) (by decide +kernel)
theorem bs_X11_lot_16 {P : Zt → Option Zv → Prop} (K : Int → Zl → List Zv → Zt → Prop) : sx_ K P [.iload 4, .iconst 3, .if_icmp .ge 51, .iload 3, .iload 3, .iconst 16, .iushr, .ixor, .istore 3, .iload 4, .iconst 2, .if_icmp .ge 43, .iload 3, .iconst 73244475, .fmul, .goto 44] 43 = x_iload 4 (x_iconst 3 (x_if_icmp .ge 51 K (x_iload 3 (x_iload 3 (x_iconst 16 (x_iushr (x_ixor (x_istore 3 (x_iload 4 (x_iconst 2 (x_if_icmp .ge 43 K (x_iload 3 (x_iconst 73244475 (x_fmul (x_goto 44 K))))))))))))))) := ((xe_iload 4).trans (congrArg (x_iload 4) ((xe_iconst 3).trans (congrArg (x_iconst 3) ((xe_if_icmp .ge 51).trans (congrArg (x_if_icmp .ge 51 K) ((xe_iload 3).trans (congrArg (x_iload 3) ((xe_iload 3).trans (congrArg (x_iload 3) ((xe_iconst 16).trans (congrArg (x_iconst 16) ((xe_iushr).trans (congrArg (x_iushr) ((xe_ixor).trans (congrArg (x_ixor) ((xe_istore 3).trans (congrArg (x_istore 3) ((xe_iload 4).trans (congrArg (x_iload 4) ((xe_iconst 2).trans (congrArg (x_iconst 2) ((xe_if_icmp .ge 43).trans (congrArg (x_if_icmp .ge 43 K) ((xe_iload 3).trans (congrArg (x_iload 3) ((xe_iconst 73244475).trans (congrArg (x_iconst 73244475) ((xe_fmul).trans (congrArg (x_fmul) (xe_goto 44)))))))))))))))))))))))))))))))
theorem bk_X11_lot_51 : ck_ fX11 (some .int) cX11_lot 51 [.iload 3, .iconst 2147483647, .iand, .ireturn] 57 = true := qck_r (nn_ _) (by decide +kernel)
theorem bs_X11_lot_51 {P : Zt → Option Zv → Prop} (K : Int → Zl → List Zv → Zt → Prop) : sx_ K P [.iload 3, .iconst 2147483647, .iand, .ireturn] 57 = x_iload 3 (x_iconst 2147483647 (x_iand (x_ireturn P))) := ((xe_iload 3).trans (congrArg (x_iload 3) ((xe_iconst 2147483647).trans (congrArg (x_iconst 2147483647) ((xe_iand).trans (congrArg (x_iand) (xe_ireturn)))))))
theorem bk_X11_lot_43 : ck_ fX11 (some .int) cX11_lot 43 [.iload 3, .istore 3, .iinc 4 1, .goto 16] 51 = true := qck_r (nn_ _) (by decide +kernel)
theorem bs_X11_lot_43 {P : Zt → Option Zv → Prop} (K : Int → Zl → List Zv → Zt → Prop) : sx_ K P [.iload 3, .istore 3, .iinc 4 1, .goto 16] 51 = x_iload 3 (x_istore 3 (x_iinc 4 1 (x_goto 16 K))) := ((xe_iload 3).trans (congrArg (x_iload 3) ((xe_istore 3).trans (congrArg (x_istore 3) ((xe_iinc 4 1).trans (congrArg (x_iinc 4 1) (xe_goto 16)))))))
theorem bk_X11_lot_44 : ck_ fX11 (some .int) cX11_lot 44 [.istore 3, .iinc 4 1, .goto 16] 51 = true := qck_r (nn_ _) (by decide +kernel)
theorem bs_X11_lot_44 {P : Zt → Option Zv → Prop} (K : Int → Zl → List Zv → Zt → Prop) : sx_ K P [.istore 3, .iinc 4 1, .goto 16] 51 = x_istore 3 (x_iinc 4 1 (x_goto 16 K)) := ((xe_istore 3).trans (congrArg (x_istore 3) ((xe_iinc 4 1).trans (congrArg (x_iinc 4 1) (xe_goto 16)))))
theorem bk_X11_lot_0 : ck_ fX11 (some .int) cX11_lot 0 [.iload 0, .iconst 1000003, .fmul, .iload 1, .fadd, .iconst 31, .fmul, .iload 2, .fadd, .istore 3, .iconst 0, .istore 4] 16 = true := qck_r (nn_ _) (by decide +kernel)
theorem bs_X11_lot_0 {P : Zt → Option Zv → Prop} (K : Int → Zl → List Zv → Zt → Prop) : sx_ K P [.iload 0, .iconst 1000003, .fmul, .iload 1, .fadd, .iconst 31, .fmul, .iload 2, .fadd, .istore 3, .iconst 0, .istore 4] 16 = x_iload 0 (x_iconst 1000003 (x_fmul (x_iload 1 (x_fadd (x_iconst 31 (x_fmul (x_iload 2 (x_fadd (x_istore 3 (x_iconst 0 (x_istore 4 (K 16)))))))))))) := ((xe_iload 0).trans (congrArg (x_iload 0) ((xe_iconst 1000003).trans (congrArg (x_iconst 1000003) ((xe_fmul).trans (congrArg (x_fmul) ((xe_iload 1).trans (congrArg (x_iload 1) ((xe_fadd).trans (congrArg (x_fadd) ((xe_iconst 31).trans (congrArg (x_iconst 31) ((xe_fmul).trans (congrArg (x_fmul) ((xe_iload 2).trans (congrArg (x_iload 2) ((xe_fadd).trans (congrArg (x_fadd) ((xe_istore 3).trans (congrArg (x_istore 3) ((xe_iconst 0).trans (congrArg (x_iconst 0) ((xe_istore 4).trans (congrArg (x_istore 4) xe_nil))))))))))))))))))))))))
abbrev po_X11_lot (T : Zt) (a b c : Int) : Zt → Option Zv → Prop := fun T' r => T = T' ∧ ∃ x : Int, r = some (vI x) ∧ (0 ≤ x ∧ x ≤ 2147483647)
set_option maxHeartbeats 4000000 in
theorem ct_X11_lot {T : Zt} {a b c : Int} : Ct_ yX11_lot zX11_lot T [vI a, vI b, vI c] (po_X11_lot T a b c) := by
  refine ct_of pn_11 rfl rfl (Nat.le_of_ble_eq_true rfl) (fun hT hav => ?_)
  have hr_a : -2147483648 ≤ a ∧ a ≤ 2147483647 := hav (vI a) List.mem_cons_self
  have hr_b : -2147483648 ≤ b ∧ b ≤ 2147483647 := hav (vI b) (List.mem_cons_of_mem _ List.mem_cons_self)
  have hr_c : -2147483648 ≤ c ∧ c ≤ 2147483647 := hav (vI c) (List.mem_cons_of_mem _ (List.mem_cons_of_mem _ List.mem_cons_self))
  have hz : zX11_lot.2.2.2.1 = some .boolean → ∀ (T' : Zt) (x : Int), po_X11_lot T a b c T' (some (vI x)) → 0 ≤ x ∧ x ≤ 1 := fun h => by cases h
  show J_ zX11_lot T (po_X11_lot T a b c) 0 0 0 [some (vI a), some (vI b), some (vI c), none, none] [] T
  have c_16 : ∀ (nn : Nat) (v : Int) (i : Int), ((3 - i).toNat) ≤ nn → (0 ≤ i ∧ i ≤ 3) → J_ zX11_lot T (po_X11_lot T a b c) 0 0 16 [some (vI a), some (vI b), some (vI c), some (vI v), some (vI i)] [] T := by
    intro nn
    induction nn using Nat.strongRecOn with
    | _ nn ih_16 =>
      intro v i hm_16 i1
      replace hm_16 := fun (_ : Unit) => hm_16
      refine j_blx (F := fX11) tb_X11 (nn_ _) bk_X11_lot_16 bs_X11_lot_16 hz (fun K hK => ?_)
      refine And.intro (fun c1 => ?_) (fun c1 => ?_)
      · refine hK 51 _ [] T ?_
        refine j_blx (F := fX11) tb_X11 (nn_ _) bk_X11_lot_51 bs_X11_lot_51 hz (fun K hK => ?_)
        intro w2 w2b
        refine (show po_X11_lot T a b c T (some (vI (an_ v 2147483647))) from ?_)
        exact ⟨rfl, _, rfl, an_nn _, by omega⟩
      · intro w3 w3b
        intro w4 w4b
        refine And.intro (fun c5 => ?_) (fun c5 => ?_)
        · refine hK 43 [some (vI a), some (vI b), some (vI c), some (vI (xo_ v (us_ v 16))), some (vI i)] [] T ?_
          refine j_blx (F := fX11) tb_X11 (nn_ _) bk_X11_lot_43 bs_X11_lot_43 hz (fun K hK => ?_)
          refine rg_i (by omega) ?_
          refine hK 16 [some (vI a), some (vI b), some (vI c), some (vI (xo_ v (us_ v 16))), some (vI (i + 1))] [] T ?_
          refine ih_16 _ ?_ (xo_ v (us_ v 16)) (i + 1) (Nat.le_refl _) ?_
          · have hm_16 := hm_16 (); omega
          · omega
        · intro w6 w6b
          refine hK 44 [some (vI a), some (vI b), some (vI c), some (vI (xo_ v (us_ v 16))), some (vI i)] [vI (wr_ ((xo_ v (us_ v 16)) * 73244475))] T ?_
          refine j_blx (F := fX11) tb_X11 (nn_ _) bk_X11_lot_44 bs_X11_lot_44 hz (fun K hK => ?_)
          refine rg_i (by omega) ?_
          refine hK 16 [some (vI a), some (vI b), some (vI c), some (vI (wr_ ((xo_ v (us_ v 16)) * 73244475))), some (vI (i + 1))] [] T ?_
          refine ih_16 _ ?_ (wr_ ((xo_ v (us_ v 16)) * 73244475)) (i + 1) (Nat.le_refl _) ?_
          · have hm_16 := hm_16 (); omega
          · omega
  refine j_blx (F := fX11) tb_X11 (nn_ _) bk_X11_lot_0 bs_X11_lot_0 hz (fun K hK => ?_)
  intro w7 w7b
  intro w8 w8b
  intro w9 w9b
  intro w10 w10b
  refine hK 16 [some (vI a), some (vI b), some (vI c), some (vI (wr_ ((wr_ ((wr_ ((wr_ (a * 1000003)) + b)) * 31)) + c))), some (vI 0)] [] T ?_
  refine c_16 _ (wr_ ((wr_ ((wr_ ((wr_ (a * 1000003)) + b)) * 31)) + c)) 0 (Nat.le_refl _) ?_
  · omega
/-- two clubs are told alike, up to i -/
def EQ_ (T : Zt) (a b i : Int) : Prop := ∀ j, 0 ≤ j → j < i → T 284 0 (3 * a + j) = T 284 0 (3 * b + j)
theorem EQ_t {T : Zt} {a b c i : Int} (h : EQ_ T a b i) (g : EQ_ T b c i) : EQ_ T a c i := fun j p q => (h j p q).trans (g j p q)
def SB_ (T : Zt) : Prop := ∀ a b i : Int, 0 ≤ a → a < 12 → 0 ≤ b → b < 12 → 0 ≤ i → i < 3 → -2147483648 ≤ T 284 0 (3 * a + i) - T 284 0 (3 * b + i) ∧ T 284 0 (3 * a + i) - T 284 0 (3 * b + i) ≤ 2147483647
theorem SB__f {ws : List (Nat × List Int)} {T T' : Zt} (h : SB_ T) (f : fr_ ws T T') (w : (∀ j, fw_ ws 284 j = false) ∧ True) : SB_ T' := by
  have e0 : ∀ i j, T' 284 i j = T 284 i j := fun i j => f 284 i j (w.1 j)
  simp only [SB_, e0] at h ⊢
  exact h
abbrev cX11_compareClubs : ByteArray := prog_13_method_88_code
def yX11_compareClubs : MethodName := ⟨RX11, "compareClubs", "(II)I"⟩
def zX11_compareClubs : Zm := (RX11, cX11_compareClubs, 5, (some .int), { frames := 0, cells := 0, slots := 0, locals := 0 })
theorem bk_X11_compareClubs_75 : ck_ fX11 (some .int) cX11_compareClubs 75 [.istore 3, .iinc 4 1, .goto 5] 82 = true := qck_r (nn_ _) (by decide +kernel)
theorem bs_X11_compareClubs_75 {P : Zt → Option Zv → Prop} (K : Int → Zl → List Zv → Zt → Prop) : sx_ K P [.istore 3, .iinc 4 1, .goto 5] 82 = x_istore 3 (x_iinc 4 1 (x_goto 5 K)) := ((xe_istore 3).trans (congrArg (x_istore 3) ((xe_iinc 4 1).trans (congrArg (x_iinc 4 1) (xe_goto 5)))))
theorem bk_X11_compareClubs_5 : ck_ fX11 (some .int) cX11_compareClubs 5 [.iload 4, .iconst 3, .if_icmp .ge 82, .iload 3, .ifCond .ne 82, .aload 0, .tableswitch 0 11 84 #[], .iconst 3, .iload 1, .imul, .iload 4, .iadd, .iaload, .aload 0, .tableswitch 0 11 84 #[], .iconst 3, .iload 2, .imul, .iload 4, .iadd, .iaload, .isub, .ifCond .le 45, .iconst 1, .goto 75] 45 = true := qck_r (nn_ _) (by decide +kernel)
theorem bs_X11_compareClubs_5 {P : Zt → Option Zv → Prop} (K : Int → Zl → List Zv → Zt → Prop) : sx_ K P [.iload 4, .iconst 3, .if_icmp .ge 82, .iload 3, .ifCond .ne 82, .aload 0, .tableswitch 0 11 84 #[], .iconst 3, .iload 1, .imul, .iload 4, .iadd, .iaload, .aload 0, .tableswitch 0 11 84 #[], .iconst 3, .iload 2, .imul, .iload 4, .iadd, .iaload, .isub, .ifCond .le 45, .iconst 1, .goto 75] 45 = x_iload 4 (x_iconst 3 (x_if_icmp .ge 82 K (x_iload 3 (x_ifCond .ne 82 K (x_aload 0 (x_g1 111 284 (x_iconst 3 (x_iload 1 (x_imul (x_iload 4 (x_iadd (x_iaload (x_aload 0 (x_g1 111 284 (x_iconst 3 (x_iload 2 (x_imul (x_iload 4 (x_iadd (x_iaload (x_isub (x_ifCond .le 45 K (x_iconst 1 (x_goto 75 K)))))))))))))))))))))))) := ((xe_iload 4).trans (congrArg (x_iload 4) ((xe_iconst 3).trans (congrArg (x_iconst 3) ((xe_if_icmp .ge 82).trans (congrArg (x_if_icmp .ge 82 K) ((xe_iload 3).trans (congrArg (x_iload 3) ((xe_ifCond .ne 82).trans (congrArg (x_ifCond .ne 82 K) ((xe_aload 0).trans (congrArg (x_aload 0) ((xe_g1 (kk := 111) rfl tl_11_84).trans (congrArg (x_g1 111 284) ((xe_iconst 3).trans (congrArg (x_iconst 3) ((xe_iload 1).trans (congrArg (x_iload 1) ((xe_imul).trans (congrArg (x_imul) ((xe_iload 4).trans (congrArg (x_iload 4) ((xe_iadd).trans (congrArg (x_iadd) ((xe_iaload).trans (congrArg (x_iaload) ((xe_aload 0).trans (congrArg (x_aload 0) ((xe_g1 (kk := 111) rfl tl_11_84).trans (congrArg (x_g1 111 284) ((xe_iconst 3).trans (congrArg (x_iconst 3) ((xe_iload 2).trans (congrArg (x_iload 2) ((xe_imul).trans (congrArg (x_imul) ((xe_iload 4).trans (congrArg (x_iload 4) ((xe_iadd).trans (congrArg (x_iadd) ((xe_iaload).trans (congrArg (x_iaload) ((xe_isub).trans (congrArg (x_isub) ((xe_ifCond .le 45).trans (congrArg (x_ifCond .le 45 K) ((xe_iconst 1).trans (congrArg (x_iconst 1) (xe_goto 75)))))))))))))))))))))))))))))))))))))))))))))))))
theorem bk_X11_compareClubs_82 : ck_ fX11 (some .int) cX11_compareClubs 82 [.iload 3, .ireturn] 84 = true := qck_r (nn_ _) (by decide +kernel)
theorem bs_X11_compareClubs_82 {P : Zt → Option Zv → Prop} (K : Int → Zl → List Zv → Zt → Prop) : sx_ K P [.iload 3, .ireturn] 84 = x_iload 3 (x_ireturn P) := ((xe_iload 3).trans (congrArg (x_iload 3) (xe_ireturn)))
theorem bk_X11_compareClubs_45 : ck_ fX11 (some .int) cX11_compareClubs 45 [.aload 0, .tableswitch 0 11 84 #[], .iconst 3, .iload 1, .imul, .iload 4, .iadd, .iaload, .aload 0, .tableswitch 0 11 84 #[], .iconst 3, .iload 2, .imul, .iload 4, .iadd, .iaload, .if_icmp .ge 74, .iconst (-1), .goto 75] 74 = true := qck_r (nn_ _) (by decide +kernel)
theorem bs_X11_compareClubs_45 {P : Zt → Option Zv → Prop} (K : Int → Zl → List Zv → Zt → Prop) : sx_ K P [.aload 0, .tableswitch 0 11 84 #[], .iconst 3, .iload 1, .imul, .iload 4, .iadd, .iaload, .aload 0, .tableswitch 0 11 84 #[], .iconst 3, .iload 2, .imul, .iload 4, .iadd, .iaload, .if_icmp .ge 74, .iconst (-1), .goto 75] 74 = x_aload 0 (x_g1 111 284 (x_iconst 3 (x_iload 1 (x_imul (x_iload 4 (x_iadd (x_iaload (x_aload 0 (x_g1 111 284 (x_iconst 3 (x_iload 2 (x_imul (x_iload 4 (x_iadd (x_iaload (x_if_icmp .ge 74 K (x_iconst (-1) (x_goto 75 K)))))))))))))))))) := ((xe_aload 0).trans (congrArg (x_aload 0) ((xe_g1 (kk := 111) rfl tl_11_84).trans (congrArg (x_g1 111 284) ((xe_iconst 3).trans (congrArg (x_iconst 3) ((xe_iload 1).trans (congrArg (x_iload 1) ((xe_imul).trans (congrArg (x_imul) ((xe_iload 4).trans (congrArg (x_iload 4) ((xe_iadd).trans (congrArg (x_iadd) ((xe_iaload).trans (congrArg (x_iaload) ((xe_aload 0).trans (congrArg (x_aload 0) ((xe_g1 (kk := 111) rfl tl_11_84).trans (congrArg (x_g1 111 284) ((xe_iconst 3).trans (congrArg (x_iconst 3) ((xe_iload 2).trans (congrArg (x_iload 2) ((xe_imul).trans (congrArg (x_imul) ((xe_iload 4).trans (congrArg (x_iload 4) ((xe_iadd).trans (congrArg (x_iadd) ((xe_iaload).trans (congrArg (x_iaload) ((xe_if_icmp .ge 74).trans (congrArg (x_if_icmp .ge 74 K) ((xe_iconst (-1)).trans (congrArg (x_iconst (-1)) (xe_goto 75)))))))))))))))))))))))))))))))))))))
theorem bk_X11_compareClubs_74 : ck_ fX11 (some .int) cX11_compareClubs 74 [.iconst 0] 75 = true := qck_r (nn_ _) (by decide +kernel)
theorem bs_X11_compareClubs_74 {P : Zt → Option Zv → Prop} (K : Int → Zl → List Zv → Zt → Prop) : sx_ K P [.iconst 0] 75 = x_iconst 0 (K 75) := ((xe_iconst 0).trans (congrArg (x_iconst 0) xe_nil))
theorem bk_X11_compareClubs_0 : ck_ fX11 (some .int) cX11_compareClubs 0 [.iconst 0, .istore 3, .iconst 0, .istore 4] 5 = true := qck_r (nn_ _) (by decide +kernel)
theorem bs_X11_compareClubs_0 {P : Zt → Option Zv → Prop} (K : Int → Zl → List Zv → Zt → Prop) : sx_ K P [.iconst 0, .istore 3, .iconst 0, .istore 4] 5 = x_iconst 0 (x_istore 3 (x_iconst 0 (x_istore 4 (K 5)))) := ((xe_iconst 0).trans (congrArg (x_iconst 0) ((xe_istore 3).trans (congrArg (x_istore 3) ((xe_iconst 0).trans (congrArg (x_iconst 0) ((xe_istore 4).trans (congrArg (x_istore 4) xe_nil))))))))
abbrev po_X11_compareClubs (T : Zt) (a b : Int) : Zt → Option Zv → Prop := fun T' r => T = T' ∧ ∃ x : Int, r = some (vI x) ∧ ((-1 ≤ x ∧ x ≤ 1) ∧ ((x = 0 ∧ EQ_ T a b 3) ∨ (x ≠ 0 ∧ ¬ EQ_ T a b 3)))
set_option maxHeartbeats 4000000 in
theorem ct_X11_compareClubs {T : Zt} {a b : Int} (h1 : 0 ≤ a ∧ a < 12) (h2 : 0 ≤ b ∧ b < 12) (hsb : SB_ T) : Ct_ yX11_compareClubs zX11_compareClubs T [vR 111 0, vI a, vI b] (po_X11_compareClubs T a b) := by
  refine ct_of pn_11 rfl rfl (Nat.le_of_ble_eq_true rfl) (fun hT hav => ?_)
  have hr_a : -2147483648 ≤ a ∧ a ≤ 2147483647 := hav (vI a) (List.mem_cons_of_mem _ List.mem_cons_self)
  have hr_b : -2147483648 ≤ b ∧ b ≤ 2147483647 := hav (vI b) (List.mem_cons_of_mem _ (List.mem_cons_of_mem _ List.mem_cons_self))
  have hz : zX11_compareClubs.2.2.2.1 = some .boolean → ∀ (T' : Zt) (x : Int), po_X11_compareClubs T a b T' (some (vI x)) → 0 ≤ x ∧ x ≤ 1 := fun h => by cases h
  show J_ zX11_compareClubs T (po_X11_compareClubs T a b) 0 0 0 [some (vR 111 0), some (vI a), some (vI b), none, none] [] T
  have c_5 : ∀ (nn : Nat) (u : Int) (i : Int), ((3 - i).toNat) ≤ nn → (0 ≤ i ∧ i ≤ 3 ∧ -1 ≤ u ∧ u ≤ 1) → ((u = 0 ∧ EQ_ T a b i) ∨ (u ≠ 0 ∧ ¬ EQ_ T a b 3)) → J_ zX11_compareClubs T (po_X11_compareClubs T a b) 0 0 5 [some (vR 111 0), some (vI a), some (vI b), some (vI u), some (vI i)] [] T := by
    intro nn
    induction nn using Nat.strongRecOn with
    | _ nn ih_5 =>
      intro u i hm_5 i1 k2
      replace hm_5 := fun (_ : Unit) => hm_5
      have c_75 : ∀ (v : Int), (-1 ≤ v ∧ v ≤ 1 ∧ i < 3 ∧ u = 0) → ((v = 0 ∧ EQ_ T a b (i + 1)) ∨ (v ≠ 0 ∧ ¬ EQ_ T a b 3)) → J_ zX11_compareClubs T (po_X11_compareClubs T a b) 0 0 75 [some (vR 111 0), some (vI a), some (vI b), some (vI u), some (vI i)] [vI v] T := by
        intro v v1 v2
        refine j_blx (F := fX11) tb_X11 (nn_ _) bk_X11_compareClubs_75 bs_X11_compareClubs_75 hz (fun K hK => ?_)
        refine rg_i (by omega) ?_
        refine hK 5 [some (vR 111 0), some (vI a), some (vI b), some (vI v), some (vI (i + 1))] [] T ?_
        refine ih_5 _ ?_ v (i + 1) (Nat.le_refl _) ?_ ?_
        · have hm_5 := hm_5 (); omega
        · omega
        · exact v2
      refine j_blx (F := fX11) tb_X11 (nn_ _) bk_X11_compareClubs_5 bs_X11_compareClubs_5 hz (fun K hK => ?_)
      refine And.intro (fun c1 => ?_) (fun c1 => ?_)
      · refine hK 82 _ [] T ?_
        refine j_blx (F := fX11) tb_X11 (nn_ _) bk_X11_compareClubs_82 bs_X11_compareClubs_82 hz (fun K hK => ?_)
        refine (show po_X11_compareClubs T a b T (some (vI u)) from ?_)
        refine ⟨rfl, _, rfl, by omega, ?_⟩
        rcases k2 with z | z
        · exact Or.inl ⟨z.1, by rw [show (3 : Int) = i by omega]; exact z.2⟩
        · exact Or.inr z
      · refine And.intro (fun c2 => ?_) (fun c2 => ?_)
        · refine hK 82 _ [] T ?_
          refine j_blx (F := fX11) tb_X11 (nn_ _) bk_X11_compareClubs_82 bs_X11_compareClubs_82 hz (fun K hK => ?_)
          refine (show po_X11_compareClubs T a b T (some (vI u)) from ?_)
          refine ⟨rfl, _, rfl, by omega, ?_⟩
          rcases k2 with z | z
          · exact Or.inl ⟨z.1, by rw [show (3 : Int) = i by omega]; exact z.2⟩
          · exact Or.inr z
        · have ba := hsb a b i (by omega) (by omega) (by omega) (by omega) (by omega) (by omega)
          refine rg_i (by omega) ?_
          refine rg_i (by omega) ?_
          refine ix_i (by omega) ?_
          intro b3 b3b
          refine rg_i (by omega) ?_
          refine rg_i (by omega) ?_
          refine ix_i (by omega) ?_
          intro b4 b4b
          refine rg_i (by omega) ?_
          refine And.intro (fun c5 => ?_) (fun c5 => ?_)
          · refine hK 45 _ [] T ?_
            refine j_blx (F := fX11) tb_X11 (nn_ _) bk_X11_compareClubs_45 bs_X11_compareClubs_45 hz (fun K hK => ?_)
            refine rg_i (by omega) ?_
            refine rg_i (by omega) ?_
            refine ix_i (by omega) ?_
            intro b6 b6b
            refine rg_i (by omega) ?_
            refine rg_i (by omega) ?_
            refine ix_i (by omega) ?_
            intro b7 b7b
            refine And.intro (fun c8 => ?_) (fun c8 => ?_)
            · refine hK 74 _ [] T ?_
              refine j_blx (F := fX11) tb_X11 (nn_ _) bk_X11_compareClubs_74 bs_X11_compareClubs_74 hz (fun K hK => ?_)
              refine hK 75 _ [vI 0] T ?_
              refine c_75 0 ?_ ?_
              · omega
              · refine Or.inl ⟨rfl, fun j p q => ?_⟩
                rcases k2 with z | z
                · by_cases e9 : j = i
                  · rw [e9]; omega
                  · exact z.2 j p (by omega)
                · exact absurd (by omega) z.1
            · refine hK 75 _ [vI (-1)] T ?_
              refine c_75 (-1) ?_ ?_
              · omega
              · exact Or.inr ⟨by decide, fun h9 => by have := h9 i (by omega) (by omega); omega⟩
          · refine hK 75 _ [vI 1] T ?_
            refine c_75 1 ?_ ?_
            · omega
            · exact Or.inr ⟨by decide, fun h9 => by have := h9 i (by omega) (by omega); omega⟩
  refine j_blx (F := fX11) tb_X11 (nn_ _) bk_X11_compareClubs_0 bs_X11_compareClubs_0 hz (fun K hK => ?_)
  refine hK 5 [some (vR 111 0), some (vI a), some (vI b), some (vI 0), some (vI 0)] [] T ?_
  refine c_5 _ 0 0 (Nat.le_refl _) ?_ ?_
  · omega
  · exact Or.inl ⟨rfl, fun j p q => by omega⟩
abbrev cX11_lay : ByteArray := prog_13_method_89_code
def yX11_lay : MethodName := ⟨RX11, "lay", "(III)V"⟩
def zX11_lay : Zm := (RX11, cX11_lay, 4, none, { frames := 0, cells := 0, slots := 0, locals := 0 })
theorem bk_X11_lay_0 : ck_ fX11 none cX11_lay 0 [.aload 0, .tableswitch 0 11 86 #[], .aload 0, .tableswitch 0 11 87 #[], .iload 1, .iastore, .aload 0, .tableswitch 0 11 86 #[], .aload 0, .tableswitch 0 11 87 #[], .iconst 1, .iadd, .iload 2, .iastore, .aload 0, .tableswitch 0 11 86 #[], .aload 0, .tableswitch 0 11 87 #[], .iconst 2, .iadd, .iload 3, .iastore, .aload 0, .dup, .tableswitch 0 11 87 #[], .iconst 3, .iadd, .tableswitch 1 11 87 #[], .return_] 45 = true := qck_r (nn_ _) (by decide +kernel)
theorem bs_X11_lay_0 {P : Zt → Option Zv → Prop} (K : Int → Zl → List Zv → Zt → Prop) : sx_ K P [.aload 0, .tableswitch 0 11 86 #[], .aload 0, .tableswitch 0 11 87 #[], .iload 1, .iastore, .aload 0, .tableswitch 0 11 86 #[], .aload 0, .tableswitch 0 11 87 #[], .iconst 1, .iadd, .iload 2, .iastore, .aload 0, .tableswitch 0 11 86 #[], .aload 0, .tableswitch 0 11 87 #[], .iconst 2, .iadd, .iload 3, .iastore, .aload 0, .dup, .tableswitch 0 11 87 #[], .iconst 3, .iadd, .tableswitch 1 11 87 #[], .return_] 45 = x_aload 0 (x_g1 111 286 (x_aload 0 (x_g0 111 87 0 120 (x_iload 1 (x_iastore (x_aload 0 (x_g1 111 286 (x_aload 0 (x_g0 111 87 0 120 (x_iconst 1 (x_iadd (x_iload 2 (x_iastore (x_aload 0 (x_g1 111 286 (x_aload 0 (x_g0 111 87 0 120 (x_iconst 2 (x_iadd (x_iload 3 (x_iastore (x_aload 0 (x_dup (x_g0 111 87 0 120 (x_iconst 3 (x_iadd (x_p 111 87 0 120 (x_return_ P)))))))))))))))))))))))))))) := ((xe_aload 0).trans (congrArg (x_aload 0) ((xe_g1 (kk := 111) rfl tl_11_86).trans (congrArg (x_g1 111 286) ((xe_aload 0).trans (congrArg (x_aload 0) ((xe_g0 (kk := 111) rfl tl_11_87).trans (congrArg (x_g0 111 87 0 120) ((xe_iload 1).trans (congrArg (x_iload 1) ((xe_iastore).trans (congrArg (x_iastore) ((xe_aload 0).trans (congrArg (x_aload 0) ((xe_g1 (kk := 111) rfl tl_11_86).trans (congrArg (x_g1 111 286) ((xe_aload 0).trans (congrArg (x_aload 0) ((xe_g0 (kk := 111) rfl tl_11_87).trans (congrArg (x_g0 111 87 0 120) ((xe_iconst 1).trans (congrArg (x_iconst 1) ((xe_iadd).trans (congrArg (x_iadd) ((xe_iload 2).trans (congrArg (x_iload 2) ((xe_iastore).trans (congrArg (x_iastore) ((xe_aload 0).trans (congrArg (x_aload 0) ((xe_g1 (kk := 111) rfl tl_11_86).trans (congrArg (x_g1 111 286) ((xe_aload 0).trans (congrArg (x_aload 0) ((xe_g0 (kk := 111) rfl tl_11_87).trans (congrArg (x_g0 111 87 0 120) ((xe_iconst 2).trans (congrArg (x_iconst 2) ((xe_iadd).trans (congrArg (x_iadd) ((xe_iload 3).trans (congrArg (x_iload 3) ((xe_iastore).trans (congrArg (x_iastore) ((xe_aload 0).trans (congrArg (x_aload 0) ((xe_dup).trans (congrArg (x_dup) ((xe_g0 (kk := 111) rfl tl_11_87).trans (congrArg (x_g0 111 87 0 120) ((xe_iconst 3).trans (congrArg (x_iconst 3) ((xe_iadd).trans (congrArg (x_iadd) ((xe_p (kk := 111) rfl tl_11_87).trans (congrArg (x_p 111 87 0 120) (xe_return_)))))))))))))))))))))))))))))))))))))))))))))))))))))))))
abbrev po_X11_lay (T : Zt) (a b c : Int) : Zt → Option Zv → Prop := fun T' r => r = none ∧ fr_ [(286, []), (111, [87])] T T' ∧ (T' 111 0 87 = T 111 0 87 + 3 ∧ T' 286 0 (T 111 0 87) = a ∧ T' 286 0 (T 111 0 87 + 1) = b ∧ T' 286 0 (T 111 0 87 + 2) = c ∧ ∀ j, j < T 111 0 87 → T' 286 0 j = T 286 0 j)
set_option maxHeartbeats 4000000 in
theorem ct_X11_lay {T : Zt} {a b c : Int} (h1 : T 111 0 87 + 3 ≤ 120) (h2 : 0 ≤ a ∧ a ≤ 12) (h3 : 0 ≤ b ∧ b ≤ 12) (h4 : 0 ≤ c ∧ c ≤ 12) : Ct_ yX11_lay zX11_lay T [vR 111 0, vI a, vI b, vI c] (po_X11_lay T a b c) := by
  refine ct_of pn_11 rfl rfl (Nat.le_of_ble_eq_true rfl) (fun hT hav => ?_)
  have hr_a : -2147483648 ≤ a ∧ a ≤ 2147483647 := hav (vI a) (List.mem_cons_of_mem _ List.mem_cons_self)
  have hr_b : -2147483648 ≤ b ∧ b ≤ 2147483647 := hav (vI b) (List.mem_cons_of_mem _ (List.mem_cons_of_mem _ List.mem_cons_self))
  have hr_c : -2147483648 ≤ c ∧ c ≤ 2147483647 := hav (vI c) (List.mem_cons_of_mem _ (List.mem_cons_of_mem _ (List.mem_cons_of_mem _ List.mem_cons_self)))
  have hz : zX11_lay.2.2.2.1 = some .boolean → ∀ (T' : Zt) (x : Int), po_X11_lay T a b c T' (some (vI x)) → 0 ≤ x ∧ x ≤ 1 := fun h => by cases h
  have hb_87 : 0 ≤ T 111 0 87 ∧ T 111 0 87 ≤ 120 := bd_f hT 111 87 tl_11_87 0
  show J_ zX11_lay T (po_X11_lay T a b c) 0 0 0 [some (vR 111 0), some (vI a), some (vI b), some (vI c)] [] T
  refine j_blx (F := fX11) tb_X11 (nn_ _) bk_X11_lay_0 bs_X11_lay_0 hz (fun K hK => ?_)
  intro b1 b1b
  refine iy_i (by omega) (by omega) ?_
  refine x_nm (fun U2 hU2 => ?_)
  have e3 := up_f hU2
  intro b4 b4b
  have e5 : U2 111 0 87 = T 111 0 87 := up_k hU2 (by exact Nat.ne_of_beq_eq_false rfl) 0 87
  rw [e5] at b4 b4b ⊢
  refine rg_i (by omega) ?_
  refine iy_i (by omega) (by omega) ?_
  refine x_nm (fun U6 hU6 => ?_)
  have e7 := up_f hU6
  intro b8 b8b
  have e9 : U6 111 0 87 = T 111 0 87 := (up_k hU6 (by exact Nat.ne_of_beq_eq_false rfl) 0 87).trans (up_k hU2 (by exact Nat.ne_of_beq_eq_false rfl) 0 87)
  rw [e9] at b8 b8b ⊢
  refine rg_i (by omega) ?_
  refine iy_i (by omega) (by omega) ?_
  refine x_nm (fun U10 hU10 => ?_)
  have e11 := up_f hU10
  intro b12 b12b
  have e13 : U10 111 0 87 = T 111 0 87 := (up_k hU10 (by exact Nat.ne_of_beq_eq_false rfl) 0 87).trans ((up_k hU6 (by exact Nat.ne_of_beq_eq_false rfl) 0 87).trans (up_k hU2 (by exact Nat.ne_of_beq_eq_false rfl) 0 87))
  rw [e13] at b12 b12b ⊢
  refine rg_i (by omega) ?_
  refine bd_i (by omega) ?_
  refine x_nm (fun U14 hU14 => ?_)
  have e15 := up_f hU14
  refine (show po_X11_lay T a b c U14 (none) from ?_)
  have e16 : U14 111 0 87 = (T 111 0 87) + 3 := up_f hU14
  exact ⟨rfl, fr_u (fr_u (fr_u (fr_u (fr_0 _ _) hU2 rfl) hU6 rfl) hU10 rfl) hU14 rfl, by omega, ((up_k hU14 (by exact Nat.ne_of_beq_eq_false rfl) 0 (T 111 0 87)).trans ((up_g hU10 (by omega)).trans (up_g hU6 (by omega)))).trans (up_f hU2), ((up_k hU14 (by exact Nat.ne_of_beq_eq_false rfl) 0 (T 111 0 87 + 1)).trans (up_g hU10 (by omega))).trans (up_f hU6), (up_k hU14 (by exact Nat.ne_of_beq_eq_false rfl) 0 (T 111 0 87 + 2)).trans (up_f hU10), fun j hj => (up_k hU14 (by exact Nat.ne_of_beq_eq_false rfl) 0 j).trans ((up_g hU10 (by omega)).trans ((up_g hU6 (by omega)).trans (up_g hU2 (by omega))))⟩
/-- a club is somewhere in the standing -/
def OC_ (T : Zt) (n v : Int) : Prop := ∃ j, 0 ≤ j ∧ j < n ∧ T 277 0 j = v
def OH_ (T : Zt) (n v h w : Int) : Prop := v = w ∨ ∃ j, 0 ≤ j ∧ j < n ∧ j ≠ h ∧ T 277 0 j = v
theorem oc_lt {T : Zt} {n i v : Int} (h : OC_ T n v) (k : ∀ j, 0 ≤ j → j < i → T 277 0 j ≠ v) : i < n := by
  obtain ⟨j, a, b, c⟩ := h
  exact Int.lt_of_le_of_lt (Int.not_lt.mp (fun q => k j a q c)) b
theorem oc_0 {T : Zt} {n v i : Int} (h : OC_ T n v) : OH_ T n v i (T 277 0 i) := by
  obtain ⟨j, a, b, c⟩ := h
  by_cases z : j = i
  · exact Or.inl (by rw [← c, z])
  · exact Or.inr ⟨j, a, b, z, c⟩
theorem oc_1 {T T1 : Zt} {n v i w : Int} (h : OH_ T n v i w) (hi : 0 < i ∧ i < n) (e : T1 = up_ T 277 0 i (T 277 0 (i - 1))) : OH_ T1 n v (i - 1) w := by
  rcases h with h | ⟨j, a, b, z, c⟩
  · exact Or.inl h
  · by_cases y : j = i - 1
    · exact Or.inr ⟨i, by omega, by omega, by omega, by rw [up_f e, ← y]; exact c⟩
    · exact Or.inr ⟨j, a, b, y, by rw [up_g e (fun q => z q.2.2)]; exact c⟩
theorem oc_2 {T T1 : Zt} {n v i w : Int} (h : OH_ T n v i w) (hi : 0 ≤ i ∧ i < n) (e : T1 = up_ T 277 0 i w) : OC_ T1 n v := by
  rcases h with h | ⟨j, a, b, z, c⟩
  · exact ⟨i, hi.1, hi.2, by rw [up_f e, h]⟩
  · exact ⟨j, a, b, by rw [up_g e (fun q => z q.2.2)]; exact c⟩
abbrev cX11_sortPart : ByteArray := prog_13_method_90_code
def yX11_sortPart : MethodName := ⟨RX11, "sortPart", "(II)V"⟩
def zX11_sortPart : Zm := (RX11, cX11_sortPart, 6, none, { frames := 1, cells := 0, slots := 0, locals := 24 })
theorem bk_X11_sortPart_66 : ck_ fX11 none cX11_sortPart 66 [.aload 0, .tableswitch 0 11 77 #[], .iload 5, .iload 4, .iastore, .iinc 3 1, .goto 4] 81 = true := qck_r (nn_ _) (by decide +kernel)
theorem bs_X11_sortPart_66 {P : Zt → Option Zv → Prop} (K : Int → Zl → List Zv → Zt → Prop) : sx_ K P [.aload 0, .tableswitch 0 11 77 #[], .iload 5, .iload 4, .iastore, .iinc 3 1, .goto 4] 81 = x_aload 0 (x_g1 111 277 (x_iload 5 (x_iload 4 (x_iastore (x_iinc 3 1 (x_goto 4 K)))))) := ((xe_aload 0).trans (congrArg (x_aload 0) ((xe_g1 (kk := 111) rfl tl_11_77).trans (congrArg (x_g1 111 277) ((xe_iload 5).trans (congrArg (x_iload 5) ((xe_iload 4).trans (congrArg (x_iload 4) ((xe_iastore).trans (congrArg (x_iastore) ((xe_iinc 3 1).trans (congrArg (x_iinc 3 1) (xe_goto 4)))))))))))))
theorem bk_X11_sortPart_20 : ck_ fX11 none cX11_sortPart 20 [.iload 5, .iload 1, .if_icmp .le 66, .aload 0, .iload 4, .aload 0, .tableswitch 0 11 77 #[], .iload 5, .iconst 1, .isub, .iaload] 38 = true := qck_r (nn_ _) (by decide +kernel)
theorem bs_X11_sortPart_20 {P : Zt → Option Zv → Prop} (K : Int → Zl → List Zv → Zt → Prop) : sx_ K P [.iload 5, .iload 1, .if_icmp .le 66, .aload 0, .iload 4, .aload 0, .tableswitch 0 11 77 #[], .iload 5, .iconst 1, .isub, .iaload] 38 = x_iload 5 (x_iload 1 (x_if_icmp .le 66 K (x_aload 0 (x_iload 4 (x_aload 0 (x_g1 111 277 (x_iload 5 (x_iconst 1 (x_isub (x_iaload (K 38))))))))))) := ((xe_iload 5).trans (congrArg (x_iload 5) ((xe_iload 1).trans (congrArg (x_iload 1) ((xe_if_icmp .le 66).trans (congrArg (x_if_icmp .le 66 K) ((xe_aload 0).trans (congrArg (x_aload 0) ((xe_iload 4).trans (congrArg (x_iload 4) ((xe_aload 0).trans (congrArg (x_aload 0) ((xe_g1 (kk := 111) rfl tl_11_77).trans (congrArg (x_g1 111 277) ((xe_iload 5).trans (congrArg (x_iload 5) ((xe_iconst 1).trans (congrArg (x_iconst 1) ((xe_isub).trans (congrArg (x_isub) ((xe_iaload).trans (congrArg (x_iaload) xe_nil))))))))))))))))))))))
set_option maxRecDepth 100000 in
theorem cl_X11_511 : cv_ RX11 511 yX11_compareClubs zX11_compareClubs 11 2 := ⟨gi_V (lwq_9 (dqc_m (dqc_m (dqc_m (dqc_m (dqc_m (dqc_m (dqa_m (dqa_m (List.mem_of_getElem? (i := 0) rfl))))))))) rfl : Cond.methodLink RX11 511 yX11_compareClubs ∈ lw_g) (lwq_9 (dqc_m (dqc_m (dqc_m (dqc_m (dqc_m (dqc_m (dqa_m (dqa_m (List.mem_of_getElem? (i := 2) rfl))))))))) rfl : Cond.instanceMethod yX11_compareClubs ∈ lw_g) (lw_sel 12 rfl : Cond.selects yX11_compareClubs.cls yX11_compareClubs yX11_compareClubs ∈ lw_g) (lwq_1 (dqa_m (List.mem_of_getElem? (i := 2) rfl)) rfl : Cond.initialized yX11_compareClubs.cls ∈ lw_g) (lwq_9 (dqc_m (dqc_m (dqc_m (dqc_m (dqc_m (dqc_m (dqa_m (dqa_m (List.mem_of_getElem? (i := 3) rfl))))))))) rfl : Cond.code yX11_compareClubs cX11_compareClubs 5 (some .int) ∈ lw_g), ⟨nmh_1.1, nmh_1.2, pdq_4⟩, ⟨_, _, rfl⟩⟩
theorem bk_X11_sortPart_41 : ck_ fX11 none cX11_sortPart 41 [.ifCond .le 66, .aload 0, .tableswitch 0 11 77 #[], .iload 5, .aload 0, .tableswitch 0 11 77 #[], .iload 5, .iconst 1, .isub, .iaload, .iastore, .iinc 5 (-1), .goto 20] 66 = true := qck_r (nn_ _) (by decide +kernel)
theorem bs_X11_sortPart_41 {P : Zt → Option Zv → Prop} (K : Int → Zl → List Zv → Zt → Prop) : sx_ K P [.ifCond .le 66, .aload 0, .tableswitch 0 11 77 #[], .iload 5, .aload 0, .tableswitch 0 11 77 #[], .iload 5, .iconst 1, .isub, .iaload, .iastore, .iinc 5 (-1), .goto 20] 66 = x_ifCond .le 66 K (x_aload 0 (x_g1 111 277 (x_iload 5 (x_aload 0 (x_g1 111 277 (x_iload 5 (x_iconst 1 (x_isub (x_iaload (x_iastore (x_iinc 5 (-1) (x_goto 20 K)))))))))))) := ((xe_ifCond .le 66).trans (congrArg (x_ifCond .le 66 K) ((xe_aload 0).trans (congrArg (x_aload 0) ((xe_g1 (kk := 111) rfl tl_11_77).trans (congrArg (x_g1 111 277) ((xe_iload 5).trans (congrArg (x_iload 5) ((xe_aload 0).trans (congrArg (x_aload 0) ((xe_g1 (kk := 111) rfl tl_11_77).trans (congrArg (x_g1 111 277) ((xe_iload 5).trans (congrArg (x_iload 5) ((xe_iconst 1).trans (congrArg (x_iconst 1) ((xe_isub).trans (congrArg (x_isub) ((xe_iaload).trans (congrArg (x_iaload) ((xe_iastore).trans (congrArg (x_iastore) ((xe_iinc 5 (-1)).trans (congrArg (x_iinc 5 (-1)) (xe_goto 20)))))))))))))))))))))))))
theorem bk_X11_sortPart_4 : ck_ fX11 none cX11_sortPart 4 [.iload 3, .iload 2, .if_icmp .ge 81, .aload 0, .tableswitch 0 11 77 #[], .iload 3, .iaload, .istore 4, .iload 3, .istore 5] 20 = true := qck_r (nn_ _) (by decide +kernel)
theorem bs_X11_sortPart_4 {P : Zt → Option Zv → Prop} (K : Int → Zl → List Zv → Zt → Prop) : sx_ K P [.iload 3, .iload 2, .if_icmp .ge 81, .aload 0, .tableswitch 0 11 77 #[], .iload 3, .iaload, .istore 4, .iload 3, .istore 5] 20 = x_iload 3 (x_iload 2 (x_if_icmp .ge 81 K (x_aload 0 (x_g1 111 277 (x_iload 3 (x_iaload (x_istore 4 (x_iload 3 (x_istore 5 (K 20)))))))))) := ((xe_iload 3).trans (congrArg (x_iload 3) ((xe_iload 2).trans (congrArg (x_iload 2) ((xe_if_icmp .ge 81).trans (congrArg (x_if_icmp .ge 81 K) ((xe_aload 0).trans (congrArg (x_aload 0) ((xe_g1 (kk := 111) rfl tl_11_77).trans (congrArg (x_g1 111 277) ((xe_iload 3).trans (congrArg (x_iload 3) ((xe_iaload).trans (congrArg (x_iaload) ((xe_istore 4).trans (congrArg (x_istore 4) ((xe_iload 3).trans (congrArg (x_iload 3) ((xe_istore 5).trans (congrArg (x_istore 5) xe_nil))))))))))))))))))))
theorem bk_X11_sortPart_81 : ck_ fX11 none cX11_sortPart 81 [.return_] 82 = true := qck_r (nn_ _) (by decide +kernel)
theorem bs_X11_sortPart_81 {P : Zt → Option Zv → Prop} (K : Int → Zl → List Zv → Zt → Prop) : sx_ K P [.return_] 82 = x_return_ P := (xe_return_)
theorem bk_X11_sortPart_0 : ck_ fX11 none cX11_sortPart 0 [.iload 1, .iconst 1, .iadd, .istore 3] 4 = true := qck_r (nn_ _) (by decide +kernel)
theorem bs_X11_sortPart_0 {P : Zt → Option Zv → Prop} (K : Int → Zl → List Zv → Zt → Prop) : sx_ K P [.iload 1, .iconst 1, .iadd, .istore 3] 4 = x_iload 1 (x_iconst 1 (x_iadd (x_istore 3 (K 4)))) := ((xe_iload 1).trans (congrArg (x_iload 1) ((xe_iconst 1).trans (congrArg (x_iconst 1) ((xe_iadd).trans (congrArg (x_iadd) ((xe_istore 3).trans (congrArg (x_istore 3) xe_nil))))))))
abbrev po_X11_sortPart (T : Zt) (n : Int) (a b : Int) : Zt → Option Zv → Prop := fun T' r => r = none ∧ fr_ [(277, [])] T T' ∧ (∀ v, OC_ T n v → OC_ T' n v)
set_option maxHeartbeats 4000000 in
theorem ct_X11_sortPart {T : Zt} {n : Int} {a b : Int} (h1 : 0 ≤ a ∧ a < b ∧ b ≤ n ∧ n ≤ 12) (hsb : SB_ T) : Ct_ yX11_sortPart zX11_sortPart T [vR 111 0, vI a, vI b] (po_X11_sortPart T n a b) := by
  refine ct_of pn_11 rfl rfl (Nat.le_of_ble_eq_true rfl) (fun hT hav => ?_)
  have hr_a : -2147483648 ≤ a ∧ a ≤ 2147483647 := hav (vI a) (List.mem_cons_of_mem _ List.mem_cons_self)
  have hr_b : -2147483648 ≤ b ∧ b ≤ 2147483647 := hav (vI b) (List.mem_cons_of_mem _ (List.mem_cons_of_mem _ List.mem_cons_self))
  have hz : zX11_sortPart.2.2.2.1 = some .boolean → ∀ (T' : Zt) (x : Int), po_X11_sortPart T n a b T' (some (vI x)) → 0 ≤ x ∧ x ≤ 1 := fun h => by cases h
  show J_ zX11_sortPart T (po_X11_sortPart T n a b) 0 0 0 [some (vR 111 0), some (vI a), some (vI b), none, none, none] [] T
  have c_4 : ∀ (nn : Nat) (i : Int) (T1 : Zt), ((12 - i).toNat) ≤ nn → (fr_ [(277, [])] T T1) → (a < i ∧ i ≤ b) → (∀ v, OC_ T n v → OC_ T1 n v) → J_ zX11_sortPart T (po_X11_sortPart T n a b) 0 0 4 [some (vR 111 0), some (vI a), some (vI b), some (vI i), none, none] [] T1 := by
    intro nn
    induction nn using Nat.strongRecOn with
    | _ nn ih_4 =>
      intro i T1 hm_4 hf_4 i1 i2
      replace hm_4 := fun (_ : Unit) => hm_4
      have c_66 : ∀ (w : Int) (j : Int) (T3 : Zt), (fr_ [(277, [])] T T3) → (a ≤ j ∧ j ≤ i ∧ i < b ∧ 0 ≤ w ∧ w < 12) → (∀ v, OC_ T n v → OH_ T3 n v j w) → J_ zX11_sortPart T (po_X11_sortPart T n a b) 0 0 66 [some (vR 111 0), some (vI a), some (vI b), some (vI i), some (vI w), some (vI j)] [] T3 := by
        intro w j T3 hf_66 k1 k2
        refine j_blx (F := fX11) tb_X11 (nn_ _) bk_X11_sortPart_66 bs_X11_sortPart_66 hz (fun K hK => ?_)
        refine iy_i (by omega) (by omega) ?_
        refine x_nm (fun U1 hU1 => ?_)
        have e2 := up_f hU1
        refine rg_i (by omega) ?_
        refine hK 4 [some (vR 111 0), some (vI a), some (vI b), some (vI (i + 1)), some (vI w), some (vI j)] [] U1 ?_
        refine j_drq [some (vR 111 0), some (vI a), some (vI b), some (vI (i + 1)), none, none] (drq_s (drq_s (drq_s (drq_s (drq_n (drq_n drq_0)))))) ?_
        refine ih_4 _ ?_ (i + 1) U1 (Nat.le_refl _) ?_ ?_ ?_
        · have hm_4 := hm_4 (); omega
        · exact fr_u (fr_t (fr_0 _ _) (fr_s hf_66 rfl)) hU1 rfl
        · omega
        · exact fun v h => oc_2 (k2 v h) (by omega) hU1
      have c_20 : ∀ (nn : Nat) (w : Int) (j : Int) (T2 : Zt), (j.toNat) ≤ nn → (fr_ [(277, [])] T T2) → (a ≤ j ∧ j ≤ i ∧ i < b ∧ 0 ≤ w ∧ w < 12) → (∀ v, OC_ T n v → OH_ T2 n v j w) → J_ zX11_sortPart T (po_X11_sortPart T n a b) 0 0 20 [some (vR 111 0), some (vI a), some (vI b), some (vI i), some (vI w), some (vI j)] [] T2 := by
        intro nn
        induction nn using Nat.strongRecOn with
        | _ nn ih_20 =>
          intro w j T2 hm_20 hf_20 k1 k2
          replace hm_20 := fun (_ : Unit) => hm_20
          refine j_blx (F := fX11) tb_X11 (nn_ _) bk_X11_sortPart_20 bs_X11_sortPart_20 hz (fun K hK => ?_)
          refine And.intro (fun c3 => ?_) (fun c3 => ?_)
          · refine hK 66 _ [] T2 ?_
            refine c_66 w j T2 ?_ ?_ ?_
            · exact fr_t (fr_0 _ _) (fr_s hf_20 rfl)
            · omega
            · exact k2
          · refine rg_i (by omega) ?_
            refine ix_i (by omega) ?_
            intro b4 b4b
            refine hK 38 _ [vI (T2 277 0 (j - 1)), vI w, vR 111 0] T2 ?_
            refine j_callV (y := yX11_compareClubs) (Yc := zX11_compareClubs) (rest := []) [vI w, vI (T2 277 0 (j - 1))] (ct_X11_compareClubs (T := T2) (by omega) (by omega) (SB__f (ws := [(277, [])]) hsb (fr_t (fr_0 _ _) (fr_s hf_20 rfl)) ⟨fun _ => rfl, trivial⟩)) cl_X11_511 (qd_c (by decide +kernel)) (nn_ _) rfl (rf_of rfl) (Nat.le_of_ble_eq_true rfl) (Nat.le_of_ble_eq_true rfl) (Nat.le_of_ble_eq_true rfl) rfl ?_
            rintro _ _ ⟨rfl, x5, rfl, hx5⟩
            show J_ zX11_sortPart T (po_X11_sortPart T n a b) 0 0 41 _ [vI x5] T2
            refine j_blx (F := fX11) tb_X11 (nn_ _) bk_X11_sortPart_41 bs_X11_sortPart_41 hz (fun K hK => ?_)
            refine And.intro (fun c6 => ?_) (fun c6 => ?_)
            · refine hK 66 _ [] T2 ?_
              refine c_66 w j T2 ?_ ?_ ?_
              · exact fr_t (fr_0 _ _) (fr_s hf_20 rfl)
              · omega
              · exact k2
            · refine rg_i (by omega) ?_
              refine ix_i (by omega) ?_
              intro b7 b7b
              refine iy_i (by omega) (by omega) ?_
              refine x_nm (fun U8 hU8 => ?_)
              have e9 := up_f hU8
              refine rg_i (by omega) ?_
              refine hK 20 [some (vR 111 0), some (vI a), some (vI b), some (vI i), some (vI w), some (vI (j + (-1)))] [] U8 ?_
              refine ih_20 _ ?_ w (j + (-1)) U8 (Nat.le_refl _) ?_ ?_ ?_
              · have hm_20 := hm_20 (); omega
              · exact fr_u (fr_t (fr_0 _ _) (fr_s hf_20 rfl)) hU8 rfl
              · omega
              · exact fun v h => oc_1 (k2 v h) (by omega) hU8
      refine j_blx (F := fX11) tb_X11 (nn_ _) bk_X11_sortPart_4 bs_X11_sortPart_4 hz (fun K hK => ?_)
      refine And.intro (fun c10 => ?_) (fun c10 => ?_)
      · refine hK 81 _ [] T1 ?_
        refine j_blx (F := fX11) tb_X11 (nn_ _) bk_X11_sortPart_81 bs_X11_sortPart_81 hz (fun K hK => ?_)
        refine (show po_X11_sortPart T n a b T1 (none) from ?_)
        exact ⟨rfl, fr_t (fr_0 _ _) (fr_s hf_4 rfl), i2⟩
      · refine ix_i (by omega) ?_
        intro b11 b11b
        refine hK 20 [some (vR 111 0), some (vI a), some (vI b), some (vI i), some (vI (T1 277 0 i)), some (vI i)] [] T1 ?_
        refine c_20 _ (T1 277 0 i) i T1 (Nat.le_refl _) ?_ ?_ ?_
        · exact fr_t (fr_0 _ _) (fr_s hf_4 rfl)
        · omega
        · exact fun v h => oc_0 (i2 v h)
  refine j_blx (F := fX11) tb_X11 (nn_ _) bk_X11_sortPart_0 bs_X11_sortPart_0 hz (fun K hK => ?_)
  refine rg_i (by omega) ?_
  refine hK 4 [some (vR 111 0), some (vI a), some (vI b), some (vI (a + 1)), none, none] [] T ?_
  refine c_4 _ (a + 1) T (Nat.le_refl _) ?_ ?_ ?_
  · exact fr_0 _ _
  · omega
  · exact fun _ h => h
abbrev cX11_placeOf : ByteArray := prog_13_method_93_code
def yX11_placeOf : MethodName := ⟨RX11, "placeOf", "(I)I"⟩
def zX11_placeOf : Zm := (RX11, cX11_placeOf, 3, (some .int), { frames := 0, cells := 0, slots := 0, locals := 0 })
theorem bk_X11_placeOf_18 : ck_ fX11 (some .int) cX11_placeOf 18 [.iload 2, .ifCond .le 40, .aload 0, .tableswitch 0 11 78 #[], .iload 2, .iconst 1, .isub, .iaload, .iconst (-1), .if_icmp .ne 40, .iinc 2 (-1), .goto 18] 40 = true := qck_r (nn_ _) (by decide +kernel)
theorem bs_X11_placeOf_18 {P : Zt → Option Zv → Prop} (K : Int → Zl → List Zv → Zt → Prop) : sx_ K P [.iload 2, .ifCond .le 40, .aload 0, .tableswitch 0 11 78 #[], .iload 2, .iconst 1, .isub, .iaload, .iconst (-1), .if_icmp .ne 40, .iinc 2 (-1), .goto 18] 40 = x_iload 2 (x_ifCond .le 40 K (x_aload 0 (x_g1 111 278 (x_iload 2 (x_iconst 1 (x_isub (x_iaload (x_iconst (-1) (x_if_icmp .ne 40 K (x_iinc 2 (-1) (x_goto 18 K))))))))))) := ((xe_iload 2).trans (congrArg (x_iload 2) ((xe_ifCond .le 40).trans (congrArg (x_ifCond .le 40 K) ((xe_aload 0).trans (congrArg (x_aload 0) ((xe_g1 (kk := 111) rfl tl_11_78).trans (congrArg (x_g1 111 278) ((xe_iload 2).trans (congrArg (x_iload 2) ((xe_iconst 1).trans (congrArg (x_iconst 1) ((xe_isub).trans (congrArg (x_isub) ((xe_iaload).trans (congrArg (x_iaload) ((xe_iconst (-1)).trans (congrArg (x_iconst (-1)) ((xe_if_icmp .ne 40).trans (congrArg (x_if_icmp .ne 40 K) ((xe_iinc 2 (-1)).trans (congrArg (x_iinc 2 (-1)) (xe_goto 18)))))))))))))))))))))))
theorem bk_X11_placeOf_40 : ck_ fX11 (some .int) cX11_placeOf 40 [.iload 2, .iconst 1, .iadd, .ireturn] 44 = true := qck_r (nn_ _) (by decide +kernel)
theorem bs_X11_placeOf_40 {P : Zt → Option Zv → Prop} (K : Int → Zl → List Zv → Zt → Prop) : sx_ K P [.iload 2, .iconst 1, .iadd, .ireturn] 44 = x_iload 2 (x_iconst 1 (x_iadd (x_ireturn P))) := ((xe_iload 2).trans (congrArg (x_iload 2) ((xe_iconst 1).trans (congrArg (x_iconst 1) ((xe_iadd).trans (congrArg (x_iadd) (xe_ireturn)))))))
theorem bk_X11_placeOf_2 : ck_ fX11 (some .int) cX11_placeOf 2 [.aload 0, .tableswitch 0 11 77 #[], .iload 2, .iaload, .iload 1, .if_icmp .eq 18, .iinc 2 1, .goto 2] 18 = true := qck_r (nn_ _) (by decide +kernel)
theorem bs_X11_placeOf_2 {P : Zt → Option Zv → Prop} (K : Int → Zl → List Zv → Zt → Prop) : sx_ K P [.aload 0, .tableswitch 0 11 77 #[], .iload 2, .iaload, .iload 1, .if_icmp .eq 18, .iinc 2 1, .goto 2] 18 = x_aload 0 (x_g1 111 277 (x_iload 2 (x_iaload (x_iload 1 (x_if_icmp .eq 18 K (x_iinc 2 1 (x_goto 2 K))))))) := ((xe_aload 0).trans (congrArg (x_aload 0) ((xe_g1 (kk := 111) rfl tl_11_77).trans (congrArg (x_g1 111 277) ((xe_iload 2).trans (congrArg (x_iload 2) ((xe_iaload).trans (congrArg (x_iaload) ((xe_iload 1).trans (congrArg (x_iload 1) ((xe_if_icmp .eq 18).trans (congrArg (x_if_icmp .eq 18 K) ((xe_iinc 2 1).trans (congrArg (x_iinc 2 1) (xe_goto 2)))))))))))))))
theorem bk_X11_placeOf_0 : ck_ fX11 (some .int) cX11_placeOf 0 [.iconst 0, .istore 2] 2 = true := qck_r (nn_ _) (by decide +kernel)
theorem bs_X11_placeOf_0 {P : Zt → Option Zv → Prop} (K : Int → Zl → List Zv → Zt → Prop) : sx_ K P [.iconst 0, .istore 2] 2 = x_iconst 0 (x_istore 2 (K 2)) := ((xe_iconst 0).trans (congrArg (x_iconst 0) ((xe_istore 2).trans (congrArg (x_istore 2) xe_nil))))
abbrev po_X11_placeOf (T : Zt) (cl : Int) : Zt → Option Zv → Prop := fun T' r => T = T' ∧ ∃ x : Int, r = some (vI x) ∧ (0 = (0 : Int))
set_option maxHeartbeats 4000000 in
theorem ct_X11_placeOf {T : Zt} {cl : Int} (hoc : OC_ T 12 cl) : Ct_ yX11_placeOf zX11_placeOf T [vR 111 0, vI cl] (po_X11_placeOf T cl) := by
  refine ct_of pn_11 rfl rfl (Nat.le_of_ble_eq_true rfl) (fun hT hav => ?_)
  have hr_cl : -2147483648 ≤ cl ∧ cl ≤ 2147483647 := hav (vI cl) (List.mem_cons_of_mem _ List.mem_cons_self)
  have hz : zX11_placeOf.2.2.2.1 = some .boolean → ∀ (T' : Zt) (x : Int), po_X11_placeOf T cl T' (some (vI x)) → 0 ≤ x ∧ x ≤ 1 := fun h => by cases h
  show J_ zX11_placeOf T (po_X11_placeOf T cl) 0 0 0 [some (vR 111 0), some (vI cl), none] [] T
  have c_18 : ∀ (nn : Nat) (i : Int), (i.toNat) ≤ nn → (0 ≤ i ∧ i < 12) → J_ zX11_placeOf T (po_X11_placeOf T cl) 0 0 18 [some (vR 111 0), some (vI cl), some (vI i)] [] T := by
    intro nn
    induction nn using Nat.strongRecOn with
    | _ nn ih_18 =>
      intro i hm_18 j1
      replace hm_18 := fun (_ : Unit) => hm_18
      refine j_blx (F := fX11) tb_X11 (nn_ _) bk_X11_placeOf_18 bs_X11_placeOf_18 hz (fun K hK => ?_)
      refine And.intro (fun c1 => ?_) (fun c1 => ?_)
      · refine hK 40 _ [] T ?_
        refine j_blx (F := fX11) tb_X11 (nn_ _) bk_X11_placeOf_40 bs_X11_placeOf_40 hz (fun K hK => ?_)
        refine rg_i (by omega) ?_
        refine (show po_X11_placeOf T cl T (some (vI (i + 1))) from ?_)
        exact ⟨rfl, _, rfl, by rfl⟩
      · refine rg_i (by omega) ?_
        refine ix_i (by omega) ?_
        intro b2 b2b
        refine And.intro (fun c3 => ?_) (fun c3 => ?_)
        · refine hK 40 _ [] T ?_
          refine j_blx (F := fX11) tb_X11 (nn_ _) bk_X11_placeOf_40 bs_X11_placeOf_40 hz (fun K hK => ?_)
          refine rg_i (by omega) ?_
          refine (show po_X11_placeOf T cl T (some (vI (i + 1))) from ?_)
          exact ⟨rfl, _, rfl, by rfl⟩
        · refine rg_i (by omega) ?_
          refine hK 18 [some (vR 111 0), some (vI cl), some (vI (i + (-1)))] [] T ?_
          refine ih_18 _ ?_ (i + (-1)) (Nat.le_refl _) ?_
          · have hm_18 := hm_18 (); omega
          · omega
  have c_2 : ∀ (nn : Nat) (i : Int), ((12 - i).toNat) ≤ nn → (0 ≤ i) → (∀ j, 0 ≤ j → j < i → T 277 0 j ≠ cl) → J_ zX11_placeOf T (po_X11_placeOf T cl) 0 0 2 [some (vR 111 0), some (vI cl), some (vI i)] [] T := by
    intro nn
    induction nn using Nat.strongRecOn with
    | _ nn ih_2 =>
      intro i hm_2 i1 i2
      replace hm_2 := fun (_ : Unit) => hm_2
      have hi := oc_lt hoc i2
      refine j_blx (F := fX11) tb_X11 (nn_ _) bk_X11_placeOf_2 bs_X11_placeOf_2 hz (fun K hK => ?_)
      refine ix_i (by omega) ?_
      intro b4 b4b
      refine And.intro (fun c5 => ?_) (fun c5 => ?_)
      · refine hK 18 _ [] T ?_
        refine c_18 _ i (Nat.le_refl _) ?_
        · omega
      · refine rg_i (by omega) ?_
        refine hK 2 [some (vR 111 0), some (vI cl), some (vI (i + 1))] [] T ?_
        refine ih_2 _ ?_ (i + 1) (Nat.le_refl _) ?_ ?_
        · have hm_2 := hm_2 (); omega
        · omega
        · intro j p q
          by_cases e9 : j = i
          · rw [e9]; omega
          · exact i2 j p (by omega)
  refine j_blx (F := fX11) tb_X11 (nn_ _) bk_X11_placeOf_0 bs_X11_placeOf_0 hz (fun K hK => ?_)
  refine hK 2 [some (vR 111 0), some (vI cl), some (vI 0)] [] T ?_
  refine c_2 _ 0 (Nat.le_refl _) ?_ ?_
  · omega
  · intro j p q; omega
def SC_ (T : Zt) : Prop := ∀ m : Int, 0 ≤ m → m < 400 → (0 ≤ T 236 0 m ∧ T 236 0 m ≤ 20000) ∧ (0 ≤ T 237 0 m ∧ T 237 0 m ≤ 20000)
theorem SC__f {ws : List (Nat × List Int)} {T T' : Zt} (h : SC_ T) (f : fr_ ws T T') (w : (∀ j, fw_ ws 236 j = false) ∧ (∀ j, fw_ ws 237 j = false) ∧ True) : SC_ T' := by
  have e0 : ∀ i j, T' 236 i j = T 236 i j := fun i j => f 236 i j (w.1 j)
  have e1 : ∀ i j, T' 237 i j = T 237 i j := fun i j => f 237 i j (w.2.1 j)
  simp only [SC_, e0, e1] at h ⊢
  exact h
def YB_ (T : Zt) : Prop := ∀ j : Int, 0 ≤ j → j < 8000 → 0 ≤ T 242 0 j ∧ T 242 0 j ≤ 3010
theorem YB__f {ws : List (Nat × List Int)} {T T' : Zt} (h : YB_ T) (f : fr_ ws T T') (w : (∀ j, fw_ ws 242 j = false) ∧ True) : YB_ T' := by
  have e0 : ∀ i j, T' 242 i j = T 242 i j := fun i j => f 242 i j (w.1 j)
  simp only [YB_, e0] at h ⊢
  exact h
theorem sc_g {T : Zt} (h : GX_ T (-1)) (r : ∀ m, 0 ≤ m → m < 400 → T 254 0 m ≤ 3000) : SC_ T := fun m a b => by
  have k := h m a b (by omega)
  have q := r m a b
  have k1 := k.1
  have k2 := k.2.1
  omega
theorem yb_g {T : Zt} (h : GX_ T (-1)) (r : ∀ m, 0 ≤ m → m < 400 → T 254 0 m ≤ 3000) : YB_ T := fun j a b => by
  have k := (h (j / 20) (by omega) (by omega) (by omega)).2.2 j (by omega) (by omega)
  have q := r (j / 20) (by omega) (by omega)
  omega
def TB_ (T : Zt) (b : Int) : Prop := ∀ j, 0 ≤ j → j < 108 → -b ≤ T 276 0 j ∧ T 276 0 j ≤ b ∧ (j % 9 = 6 → -b ≤ 20 * T 276 0 j ∧ 20 * T 276 0 j ≤ b)
theorem tb_u {T T1 : Zt} {b i v d : Int} (h : TB_ T b) (e : T1 = up_ T 276 0 i v) (hd : 0 ≤ d) (hv : -(b + d) ≤ v ∧ v ≤ b + d ∧ (i % 9 = 6 → -(b + d) ≤ 20 * v ∧ 20 * v ≤ b + d)) : TB_ T1 (b + d) := fun j a c => by
  by_cases z : j = i
  · rw [z, up_f e]; exact hv
  · rw [up_g e (fun q => z q.2.2)]
    have := h j a c
    omega
theorem tb_f {T T1 : Zt} {b : Int} (h : TB_ T b) (e : ∀ j, T1 276 0 j = T 276 0 j) : TB_ T1 b := fun j a c => by rw [e]; exact h j a c
theorem tb_m {T : Zt} {b d : Int} (h : TB_ T b) (e : b ≤ d) : TB_ T d := fun j a c => by
  have := h j a c
  omega
def SA_ (T : Zt) (b : Int) : Prop := ∀ j, 0 ≤ j → j < 36 → -b ≤ T 284 0 j ∧ T 284 0 j ≤ b
theorem sa_u {T T1 : Zt} {b i v d : Int} (h : SA_ T b) (e : T1 = up_ T 284 0 i v) (hd : 0 ≤ d) (hv : -(b + d) ≤ v ∧ v ≤ b + d) : SA_ T1 (b + d) := fun j a c => by
  by_cases z : j = i
  · rw [z, up_f e]; exact hv
  · rw [up_g e (fun q => z q.2.2)]
    have := h j a c
    omega
theorem sa_f {T T1 : Zt} {b : Int} (h : SA_ T b) (e : ∀ j, T1 284 0 j = T 284 0 j) : SA_ T1 b := fun j a c => by rw [e]; exact h j a c
theorem sa_m {T : Zt} {b d : Int} (h : SA_ T b) (e : b ≤ d) : SA_ T d := fun j a c => by
  have := h j a c
  omega
abbrev cX11_counts : ByteArray := prog_13_method_81_code
def yX11_counts : MethodName := ⟨RX11, "counts", "(II)Z"⟩
def zX11_counts : Zm := (RX11, cX11_counts, 3, (some .boolean), { frames := 0, cells := 0, slots := 0, locals := 0 })
theorem bk_X11_counts_0 : ck_ fX11 (some .boolean) cX11_counts 0 [.aload 0, .tableswitch 0 11 35 #[], .iload 1, .iaload, .iconst 2, .if_icmp .eq 20, .aload 0, .tableswitch 0 11 35 #[], .iload 1, .iaload, .iconst 3, .if_icmp .ne 56, .aload 0, .aload 0, .tableswitch 0 11 36 #[], .iload 1, .iaload, .tableswitch 1 11 82 #[], .aload 0, .aload 0, .tableswitch 0 11 37 #[], .iload 1, .iaload, .tableswitch 1 11 83 #[], .aload 0, .tableswitch 0 11 34 #[], .iload 1, .iaload, .iload 2, .if_icmp .gt 54, .iconst 1, .goto 55] 54 = true := qck_r (nn_ _) (by decide +kernel)
theorem bs_X11_counts_0 {P : Zt → Option Zv → Prop} (K : Int → Zl → List Zv → Zt → Prop) : sx_ K P [.aload 0, .tableswitch 0 11 35 #[], .iload 1, .iaload, .iconst 2, .if_icmp .eq 20, .aload 0, .tableswitch 0 11 35 #[], .iload 1, .iaload, .iconst 3, .if_icmp .ne 56, .aload 0, .aload 0, .tableswitch 0 11 36 #[], .iload 1, .iaload, .tableswitch 1 11 82 #[], .aload 0, .aload 0, .tableswitch 0 11 37 #[], .iload 1, .iaload, .tableswitch 1 11 83 #[], .aload 0, .tableswitch 0 11 34 #[], .iload 1, .iaload, .iload 2, .if_icmp .gt 54, .iconst 1, .goto 55] 54 = x_aload 0 (x_g1 111 235 (x_iload 1 (x_iaload (x_iconst 2 (x_if_icmp .eq 20 K (x_aload 0 (x_g1 111 235 (x_iload 1 (x_iaload (x_iconst 3 (x_if_icmp .ne 56 K (x_aload 0 (x_aload 0 (x_g1 111 236 (x_iload 1 (x_iaload (x_p 111 82 (-2147483648) 2147483647 (x_aload 0 (x_aload 0 (x_g1 111 237 (x_iload 1 (x_iaload (x_p 111 83 (-2147483648) 2147483647 (x_aload 0 (x_g1 111 234 (x_iload 1 (x_iaload (x_iload 2 (x_if_icmp .gt 54 K (x_iconst 1 (x_goto 55 K))))))))))))))))))))))))))))))) := ((xe_aload 0).trans (congrArg (x_aload 0) ((xe_g1 (kk := 111) rfl tl_11_35).trans (congrArg (x_g1 111 235) ((xe_iload 1).trans (congrArg (x_iload 1) ((xe_iaload).trans (congrArg (x_iaload) ((xe_iconst 2).trans (congrArg (x_iconst 2) ((xe_if_icmp .eq 20).trans (congrArg (x_if_icmp .eq 20 K) ((xe_aload 0).trans (congrArg (x_aload 0) ((xe_g1 (kk := 111) rfl tl_11_35).trans (congrArg (x_g1 111 235) ((xe_iload 1).trans (congrArg (x_iload 1) ((xe_iaload).trans (congrArg (x_iaload) ((xe_iconst 3).trans (congrArg (x_iconst 3) ((xe_if_icmp .ne 56).trans (congrArg (x_if_icmp .ne 56 K) ((xe_aload 0).trans (congrArg (x_aload 0) ((xe_aload 0).trans (congrArg (x_aload 0) ((xe_g1 (kk := 111) rfl tl_11_36).trans (congrArg (x_g1 111 236) ((xe_iload 1).trans (congrArg (x_iload 1) ((xe_iaload).trans (congrArg (x_iaload) ((xe_p (kk := 111) rfl tl_11_82).trans (congrArg (x_p 111 82 (-2147483648) 2147483647) ((xe_aload 0).trans (congrArg (x_aload 0) ((xe_aload 0).trans (congrArg (x_aload 0) ((xe_g1 (kk := 111) rfl tl_11_37).trans (congrArg (x_g1 111 237) ((xe_iload 1).trans (congrArg (x_iload 1) ((xe_iaload).trans (congrArg (x_iaload) ((xe_p (kk := 111) rfl tl_11_83).trans (congrArg (x_p 111 83 (-2147483648) 2147483647) ((xe_aload 0).trans (congrArg (x_aload 0) ((xe_g1 (kk := 111) rfl tl_11_34).trans (congrArg (x_g1 111 234) ((xe_iload 1).trans (congrArg (x_iload 1) ((xe_iaload).trans (congrArg (x_iaload) ((xe_iload 2).trans (congrArg (x_iload 2) ((xe_if_icmp .gt 54).trans (congrArg (x_if_icmp .gt 54 K) ((xe_iconst 1).trans (congrArg (x_iconst 1) (xe_goto 55)))))))))))))))))))))))))))))))))))))))))))))))))))))))))))))))
theorem bk_X11_counts_20 : ck_ fX11 (some .boolean) cX11_counts 20 [.aload 0, .aload 0, .tableswitch 0 11 36 #[], .iload 1, .iaload, .tableswitch 1 11 82 #[], .aload 0, .aload 0, .tableswitch 0 11 37 #[], .iload 1, .iaload, .tableswitch 1 11 83 #[], .aload 0, .tableswitch 0 11 34 #[], .iload 1, .iaload, .iload 2, .if_icmp .gt 54, .iconst 1, .goto 55] 54 = true := qck_r (nn_ _) (by decide +kernel)
theorem bs_X11_counts_20 {P : Zt → Option Zv → Prop} (K : Int → Zl → List Zv → Zt → Prop) : sx_ K P [.aload 0, .aload 0, .tableswitch 0 11 36 #[], .iload 1, .iaload, .tableswitch 1 11 82 #[], .aload 0, .aload 0, .tableswitch 0 11 37 #[], .iload 1, .iaload, .tableswitch 1 11 83 #[], .aload 0, .tableswitch 0 11 34 #[], .iload 1, .iaload, .iload 2, .if_icmp .gt 54, .iconst 1, .goto 55] 54 = x_aload 0 (x_aload 0 (x_g1 111 236 (x_iload 1 (x_iaload (x_p 111 82 (-2147483648) 2147483647 (x_aload 0 (x_aload 0 (x_g1 111 237 (x_iload 1 (x_iaload (x_p 111 83 (-2147483648) 2147483647 (x_aload 0 (x_g1 111 234 (x_iload 1 (x_iaload (x_iload 2 (x_if_icmp .gt 54 K (x_iconst 1 (x_goto 55 K))))))))))))))))))) := ((xe_aload 0).trans (congrArg (x_aload 0) ((xe_aload 0).trans (congrArg (x_aload 0) ((xe_g1 (kk := 111) rfl tl_11_36).trans (congrArg (x_g1 111 236) ((xe_iload 1).trans (congrArg (x_iload 1) ((xe_iaload).trans (congrArg (x_iaload) ((xe_p (kk := 111) rfl tl_11_82).trans (congrArg (x_p 111 82 (-2147483648) 2147483647) ((xe_aload 0).trans (congrArg (x_aload 0) ((xe_aload 0).trans (congrArg (x_aload 0) ((xe_g1 (kk := 111) rfl tl_11_37).trans (congrArg (x_g1 111 237) ((xe_iload 1).trans (congrArg (x_iload 1) ((xe_iaload).trans (congrArg (x_iaload) ((xe_p (kk := 111) rfl tl_11_83).trans (congrArg (x_p 111 83 (-2147483648) 2147483647) ((xe_aload 0).trans (congrArg (x_aload 0) ((xe_g1 (kk := 111) rfl tl_11_34).trans (congrArg (x_g1 111 234) ((xe_iload 1).trans (congrArg (x_iload 1) ((xe_iaload).trans (congrArg (x_iaload) ((xe_iload 2).trans (congrArg (x_iload 2) ((xe_if_icmp .gt 54).trans (congrArg (x_if_icmp .gt 54 K) ((xe_iconst 1).trans (congrArg (x_iconst 1) (xe_goto 55)))))))))))))))))))))))))))))))))))))))
theorem bk_X11_counts_54 : ck_ fX11 (some .boolean) cX11_counts 54 [.iconst 0, .ireturn] 56 = true := qck_r (nn_ _) (by decide +kernel)
theorem bs_X11_counts_54 {P : Zt → Option Zv → Prop} (K : Int → Zl → List Zv → Zt → Prop) : sx_ K P [.iconst 0, .ireturn] 56 = x_iconst 0 (x_ireturn P) := ((xe_iconst 0).trans (congrArg (x_iconst 0) (xe_ireturn)))
theorem bk_X11_counts_55 : ck_ fX11 (some .boolean) cX11_counts 55 [.ireturn] 56 = true := qck_r (nn_ _) (by decide +kernel)
theorem bs_X11_counts_55 {P : Zt → Option Zv → Prop} (K : Int → Zl → List Zv → Zt → Prop) : sx_ K P [.ireturn] 56 = x_ireturn P := (xe_ireturn)
theorem bk_X11_counts_56 : ck_ fX11 (some .boolean) cX11_counts 56 [.aload 0, .tableswitch 0 11 80 #[], .ifCond .eq 102, .aload 0, .aload 0, .tableswitch 0 11 81 #[], .iload 1, .iaload, .ifCond .ne 77, .iconst 1, .goto 78] 77 = true := qck_r (nn_ _) (by decide +kernel)
theorem bs_X11_counts_56 {P : Zt → Option Zv → Prop} (K : Int → Zl → List Zv → Zt → Prop) : sx_ K P [.aload 0, .tableswitch 0 11 80 #[], .ifCond .eq 102, .aload 0, .aload 0, .tableswitch 0 11 81 #[], .iload 1, .iaload, .ifCond .ne 77, .iconst 1, .goto 78] 77 = x_aload 0 (x_g0 111 80 0 1 (x_ifCond .eq 102 K (x_aload 0 (x_aload 0 (x_g1 111 281 (x_iload 1 (x_iaload (x_ifCond .ne 77 K (x_iconst 1 (x_goto 78 K)))))))))) := ((xe_aload 0).trans (congrArg (x_aload 0) ((xe_g0 (kk := 111) rfl tl_11_80).trans (congrArg (x_g0 111 80 0 1) ((xe_ifCond .eq 102).trans (congrArg (x_ifCond .eq 102 K) ((xe_aload 0).trans (congrArg (x_aload 0) ((xe_aload 0).trans (congrArg (x_aload 0) ((xe_g1 (kk := 111) rfl tl_11_81).trans (congrArg (x_g1 111 281) ((xe_iload 1).trans (congrArg (x_iload 1) ((xe_iaload).trans (congrArg (x_iaload) ((xe_ifCond .ne 77).trans (congrArg (x_ifCond .ne 77 K) ((xe_iconst 1).trans (congrArg (x_iconst 1) (xe_goto 78)))))))))))))))))))))
theorem bk_X11_counts_102 : ck_ fX11 (some .boolean) cX11_counts 102 [.iconst 0, .ireturn] 104 = true := qck_r (nn_ _) (by decide +kernel)
theorem bs_X11_counts_102 {P : Zt → Option Zv → Prop} (K : Int → Zl → List Zv → Zt → Prop) : sx_ K P [.iconst 0, .ireturn] 104 = x_iconst 0 (x_ireturn P) := ((xe_iconst 0).trans (congrArg (x_iconst 0) (xe_ireturn)))
theorem bk_X11_counts_77 : ck_ fX11 (some .boolean) cX11_counts 77 [.iconst 0, .tableswitch 1 11 82 #[], .aload 0, .aload 0, .tableswitch 0 11 81 #[], .iload 1, .iaload, .iconst 2, .if_icmp .ne 96, .iconst 1, .goto 97] 96 = true := qck_r (nn_ _) (by decide +kernel)
theorem bs_X11_counts_77 {P : Zt → Option Zv → Prop} (K : Int → Zl → List Zv → Zt → Prop) : sx_ K P [.iconst 0, .tableswitch 1 11 82 #[], .aload 0, .aload 0, .tableswitch 0 11 81 #[], .iload 1, .iaload, .iconst 2, .if_icmp .ne 96, .iconst 1, .goto 97] 96 = x_iconst 0 (x_p 111 82 (-2147483648) 2147483647 (x_aload 0 (x_aload 0 (x_g1 111 281 (x_iload 1 (x_iaload (x_iconst 2 (x_if_icmp .ne 96 K (x_iconst 1 (x_goto 97 K)))))))))) := ((xe_iconst 0).trans (congrArg (x_iconst 0) ((xe_p (kk := 111) rfl tl_11_82).trans (congrArg (x_p 111 82 (-2147483648) 2147483647) ((xe_aload 0).trans (congrArg (x_aload 0) ((xe_aload 0).trans (congrArg (x_aload 0) ((xe_g1 (kk := 111) rfl tl_11_81).trans (congrArg (x_g1 111 281) ((xe_iload 1).trans (congrArg (x_iload 1) ((xe_iaload).trans (congrArg (x_iaload) ((xe_iconst 2).trans (congrArg (x_iconst 2) ((xe_if_icmp .ne 96).trans (congrArg (x_if_icmp .ne 96 K) ((xe_iconst 1).trans (congrArg (x_iconst 1) (xe_goto 97)))))))))))))))))))))
theorem bk_X11_counts_96 : ck_ fX11 (some .boolean) cX11_counts 96 [.iconst 0, .tableswitch 1 11 83 #[], .iconst 1, .ireturn] 102 = true := qck_r (nn_ _) (by decide +kernel)
theorem bs_X11_counts_96 {P : Zt → Option Zv → Prop} (K : Int → Zl → List Zv → Zt → Prop) : sx_ K P [.iconst 0, .tableswitch 1 11 83 #[], .iconst 1, .ireturn] 102 = x_iconst 0 (x_p 111 83 (-2147483648) 2147483647 (x_iconst 1 (x_ireturn P))) := ((xe_iconst 0).trans (congrArg (x_iconst 0) ((xe_p (kk := 111) rfl tl_11_83).trans (congrArg (x_p 111 83 (-2147483648) 2147483647) ((xe_iconst 1).trans (congrArg (x_iconst 1) (xe_ireturn)))))))
theorem bk_X11_counts_97 : ck_ fX11 (some .boolean) cX11_counts 97 [.tableswitch 1 11 83 #[], .iconst 1, .ireturn] 102 = true := qck_r (nn_ _) (by decide +kernel)
theorem bs_X11_counts_97 {P : Zt → Option Zv → Prop} (K : Int → Zl → List Zv → Zt → Prop) : sx_ K P [.tableswitch 1 11 83 #[], .iconst 1, .ireturn] 102 = x_p 111 83 (-2147483648) 2147483647 (x_iconst 1 (x_ireturn P)) := ((xe_p (kk := 111) rfl tl_11_83).trans (congrArg (x_p 111 83 (-2147483648) 2147483647) ((xe_iconst 1).trans (congrArg (x_iconst 1) (xe_ireturn)))))
theorem bk_X11_counts_78 : ck_ fX11 (some .boolean) cX11_counts 78 [.tableswitch 1 11 82 #[], .aload 0, .aload 0, .tableswitch 0 11 81 #[], .iload 1, .iaload, .iconst 2, .if_icmp .ne 96, .iconst 1, .goto 97] 96 = true := qck_r (nn_ _) (by decide +kernel)
theorem bs_X11_counts_78 {P : Zt → Option Zv → Prop} (K : Int → Zl → List Zv → Zt → Prop) : sx_ K P [.tableswitch 1 11 82 #[], .aload 0, .aload 0, .tableswitch 0 11 81 #[], .iload 1, .iaload, .iconst 2, .if_icmp .ne 96, .iconst 1, .goto 97] 96 = x_p 111 82 (-2147483648) 2147483647 (x_aload 0 (x_aload 0 (x_g1 111 281 (x_iload 1 (x_iaload (x_iconst 2 (x_if_icmp .ne 96 K (x_iconst 1 (x_goto 97 K))))))))) := ((xe_p (kk := 111) rfl tl_11_82).trans (congrArg (x_p 111 82 (-2147483648) 2147483647) ((xe_aload 0).trans (congrArg (x_aload 0) ((xe_aload 0).trans (congrArg (x_aload 0) ((xe_g1 (kk := 111) rfl tl_11_81).trans (congrArg (x_g1 111 281) ((xe_iload 1).trans (congrArg (x_iload 1) ((xe_iaload).trans (congrArg (x_iaload) ((xe_iconst 2).trans (congrArg (x_iconst 2) ((xe_if_icmp .ne 96).trans (congrArg (x_if_icmp .ne 96 K) ((xe_iconst 1).trans (congrArg (x_iconst 1) (xe_goto 97)))))))))))))))))))
abbrev po_X11_counts (T : Zt) (m d : Int) : Zt → Option Zv → Prop := fun T' r => ∃ x : Int, r = some (vI x) ∧ fr_ [(111, [82, 83])] T T' ∧ ((0 ≤ x ∧ x ≤ 1) ∧ (x = 1 → (0 ≤ T' 111 0 82 ∧ T' 111 0 82 ≤ 20000) ∧ (0 ≤ T' 111 0 83 ∧ T' 111 0 83 ≤ 20000)))
set_option maxHeartbeats 4000000 in
theorem ct_X11_counts {T : Zt} {m d : Int} (h1 : 0 ≤ m ∧ m < 400) (hsc : SC_ T) : Ct_ yX11_counts zX11_counts T [vR 111 0, vI m, vI d] (po_X11_counts T m d) := by
  refine ct_of pn_11 rfl rfl (Nat.le_of_ble_eq_true rfl) (fun hT hav => ?_)
  have hr_m : -2147483648 ≤ m ∧ m ≤ 2147483647 := hav (vI m) (List.mem_cons_of_mem _ List.mem_cons_self)
  have hr_d : -2147483648 ≤ d ∧ d ≤ 2147483647 := hav (vI d) (List.mem_cons_of_mem _ (List.mem_cons_of_mem _ List.mem_cons_self))
  have hz : zX11_counts.2.2.2.1 = some .boolean → ∀ (T' : Zt) (x : Int), po_X11_counts T m d T' (some (vI x)) → 0 ≤ x ∧ x ≤ 1 := fun _ T' x h => by obtain ⟨y, e, -, hy⟩ := h; cases e; omega
  have hsm := hsc m (by omega) (by omega)
  show J_ zX11_counts T (po_X11_counts T m d) 0 0 0 [some (vR 111 0), some (vI m), some (vI d)] [] T
  refine j_blx (F := fX11) tb_X11 (nn_ _) bk_X11_counts_0 bs_X11_counts_0 hz (fun K hK => ?_)
  refine ix_i (by omega) ?_
  intro b1 b1b
  refine And.intro (fun c2 => ?_) (fun c2 => ?_)
  · refine hK 20 _ [] T ?_
    refine j_blx (F := fX11) tb_X11 (nn_ _) bk_X11_counts_20 bs_X11_counts_20 hz (fun K hK => ?_)
    refine ix_i (by omega) ?_
    intro b3 b3b
    refine bd_i (by omega) ?_
    refine x_nm (fun U4 hU4 => ?_)
    have e5 := up_f hU4
    refine ix_i (by omega) ?_
    intro b6 b6b
    have e7 : U4 237 0 m = T 237 0 m := up_k hU4 (by exact Nat.ne_of_beq_eq_false rfl) 0 m
    rw [e7] at b6 b6b ⊢
    refine bd_i (by omega) ?_
    refine x_nm (fun U8 hU8 => ?_)
    have e9 := up_f hU8
    refine ix_i (by omega) ?_
    intro b10 b10b
    have e11 : U8 234 0 m = T 234 0 m := (up_k hU8 (by exact Nat.ne_of_beq_eq_false rfl) 0 m).trans (up_k hU4 (by exact Nat.ne_of_beq_eq_false rfl) 0 m)
    rw [e11] at b10 b10b ⊢
    refine And.intro (fun c12 => ?_) (fun c12 => ?_)
    · refine hK 54 _ [] U8 ?_
      refine j_blx (F := fX11) tb_X11 (nn_ _) bk_X11_counts_54 bs_X11_counts_54 hz (fun K hK => ?_)
      refine (show po_X11_counts T m d U8 (some (vI 0)) from ?_)
      have e13 : U8 111 0 82 = T 236 0 m := (up_j hU8 (by exact ni_ rfl) 111 0).trans (up_f hU4)
      have e14 : U8 111 0 83 = T 237 0 m := up_f hU8
      exact ⟨_, rfl, fr_u (fr_u (fr_0 _ _) hU4 rfl) hU8 rfl, by omega, fun z => absurd z (by decide)⟩
    · refine hK 55 _ [vI 1] U8 ?_
      refine j_blx (F := fX11) tb_X11 (nn_ _) bk_X11_counts_55 bs_X11_counts_55 hz (fun K hK => ?_)
      refine (show po_X11_counts T m d U8 (some (vI 1)) from ?_)
      have e15 : U8 111 0 82 = T 236 0 m := (up_j hU8 (by exact ni_ rfl) 111 0).trans (up_f hU4)
      have e16 : U8 111 0 83 = T 237 0 m := up_f hU8
      exact ⟨_, rfl, fr_u (fr_u (fr_0 _ _) hU4 rfl) hU8 rfl, by omega, fun _ => by omega⟩
  · refine ix_i (by omega) ?_
    intro b17 b17b
    refine And.intro (fun c18 => ?_) (fun c18 => ?_)
    · refine hK 56 _ [] T ?_
      refine j_blx (F := fX11) tb_X11 (nn_ _) bk_X11_counts_56 bs_X11_counts_56 hz (fun K hK => ?_)
      intro b19 b19b
      refine And.intro (fun c20 => ?_) (fun c20 => ?_)
      · refine hK 102 _ [] T ?_
        refine j_blx (F := fX11) tb_X11 (nn_ _) bk_X11_counts_102 bs_X11_counts_102 hz (fun K hK => ?_)
        refine (show po_X11_counts T m d T (some (vI 0)) from ?_)
        exact ⟨_, rfl, fr_0 _ _, by omega, fun z => absurd z (by decide)⟩
      · refine ix_i (by omega) ?_
        intro b21 b21b
        refine And.intro (fun c22 => ?_) (fun c22 => ?_)
        · refine hK 77 _ [vR 111 0] T ?_
          refine j_blx (F := fX11) tb_X11 (nn_ _) bk_X11_counts_77 bs_X11_counts_77 hz (fun K hK => ?_)
          refine bd_i (by omega) ?_
          refine x_nm (fun U23 hU23 => ?_)
          have e24 := up_f hU23
          refine ix_i (by omega) ?_
          intro b25 b25b
          have e26 : U23 281 0 m = T 281 0 m := up_k hU23 (by exact Nat.ne_of_beq_eq_false rfl) 0 m
          rw [e26] at b25 b25b ⊢
          refine And.intro (fun c27 => ?_) (fun c27 => ?_)
          · refine hK 96 _ [vR 111 0] U23 ?_
            refine j_blx (F := fX11) tb_X11 (nn_ _) bk_X11_counts_96 bs_X11_counts_96 hz (fun K hK => ?_)
            refine bd_i (by omega) ?_
            refine x_nm (fun U28 hU28 => ?_)
            have e29 := up_f hU28
            refine (show po_X11_counts T m d U28 (some (vI 1)) from ?_)
            have e30 : U28 111 0 82 = 0 := (up_j hU28 (by exact ni_ rfl) 111 0).trans (up_f hU23)
            have e31 : U28 111 0 83 = 0 := up_f hU28
            exact ⟨_, rfl, fr_u (fr_u (fr_0 _ _) hU23 rfl) hU28 rfl, by omega, fun _ => by omega⟩
          · refine hK 97 _ [vI 1, vR 111 0] U23 ?_
            refine j_blx (F := fX11) tb_X11 (nn_ _) bk_X11_counts_97 bs_X11_counts_97 hz (fun K hK => ?_)
            refine bd_i (by omega) ?_
            refine x_nm (fun U32 hU32 => ?_)
            have e33 := up_f hU32
            refine (show po_X11_counts T m d U32 (some (vI 1)) from ?_)
            have e34 : U32 111 0 82 = 0 := (up_j hU32 (by exact ni_ rfl) 111 0).trans (up_f hU23)
            have e35 : U32 111 0 83 = 1 := up_f hU32
            exact ⟨_, rfl, fr_u (fr_u (fr_0 _ _) hU23 rfl) hU32 rfl, by omega, fun _ => by omega⟩
        · refine hK 78 _ [vI 1, vR 111 0] T ?_
          refine j_blx (F := fX11) tb_X11 (nn_ _) bk_X11_counts_78 bs_X11_counts_78 hz (fun K hK => ?_)
          refine bd_i (by omega) ?_
          refine x_nm (fun U36 hU36 => ?_)
          have e37 := up_f hU36
          refine ix_i (by omega) ?_
          intro b38 b38b
          have e39 : U36 281 0 m = T 281 0 m := up_k hU36 (by exact Nat.ne_of_beq_eq_false rfl) 0 m
          rw [e39] at b38 b38b ⊢
          refine And.intro (fun c40 => ?_) (fun c40 => ?_)
          · refine hK 96 _ [vR 111 0] U36 ?_
            refine j_blx (F := fX11) tb_X11 (nn_ _) bk_X11_counts_96 bs_X11_counts_96 hz (fun K hK => ?_)
            refine bd_i (by omega) ?_
            refine x_nm (fun U41 hU41 => ?_)
            have e42 := up_f hU41
            refine (show po_X11_counts T m d U41 (some (vI 1)) from ?_)
            have e43 : U41 111 0 82 = 1 := (up_j hU41 (by exact ni_ rfl) 111 0).trans (up_f hU36)
            have e44 : U41 111 0 83 = 0 := up_f hU41
            exact ⟨_, rfl, fr_u (fr_u (fr_0 _ _) hU36 rfl) hU41 rfl, by omega, fun _ => by omega⟩
          · refine hK 97 _ [vI 1, vR 111 0] U36 ?_
            refine j_blx (F := fX11) tb_X11 (nn_ _) bk_X11_counts_97 bs_X11_counts_97 hz (fun K hK => ?_)
            refine bd_i (by omega) ?_
            refine x_nm (fun U45 hU45 => ?_)
            have e46 := up_f hU45
            refine (show po_X11_counts T m d U45 (some (vI 1)) from ?_)
            have e47 : U45 111 0 82 = 1 := (up_j hU45 (by exact ni_ rfl) 111 0).trans (up_f hU36)
            have e48 : U45 111 0 83 = 1 := up_f hU45
            exact ⟨_, rfl, fr_u (fr_u (fr_0 _ _) hU36 rfl) hU45 rfl, by omega, fun _ => by omega⟩
    · refine ix_i (by omega) ?_
      intro b49 b49b
      refine bd_i (by omega) ?_
      refine x_nm (fun U50 hU50 => ?_)
      have e51 := up_f hU50
      refine ix_i (by omega) ?_
      intro b52 b52b
      have e53 : U50 237 0 m = T 237 0 m := up_k hU50 (by exact Nat.ne_of_beq_eq_false rfl) 0 m
      rw [e53] at b52 b52b ⊢
      refine bd_i (by omega) ?_
      refine x_nm (fun U54 hU54 => ?_)
      have e55 := up_f hU54
      refine ix_i (by omega) ?_
      intro b56 b56b
      have e57 : U54 234 0 m = T 234 0 m := (up_k hU54 (by exact Nat.ne_of_beq_eq_false rfl) 0 m).trans (up_k hU50 (by exact Nat.ne_of_beq_eq_false rfl) 0 m)
      rw [e57] at b56 b56b ⊢
      refine And.intro (fun c58 => ?_) (fun c58 => ?_)
      · refine hK 54 _ [] U54 ?_
        refine j_blx (F := fX11) tb_X11 (nn_ _) bk_X11_counts_54 bs_X11_counts_54 hz (fun K hK => ?_)
        refine (show po_X11_counts T m d U54 (some (vI 0)) from ?_)
        have e59 : U54 111 0 82 = T 236 0 m := (up_j hU54 (by exact ni_ rfl) 111 0).trans (up_f hU50)
        have e60 : U54 111 0 83 = T 237 0 m := up_f hU54
        exact ⟨_, rfl, fr_u (fr_u (fr_0 _ _) hU50 rfl) hU54 rfl, by omega, fun z => absurd z (by decide)⟩
      · refine hK 55 _ [vI 1] U54 ?_
        refine j_blx (F := fX11) tb_X11 (nn_ _) bk_X11_counts_55 bs_X11_counts_55 hz (fun K hK => ?_)
        refine (show po_X11_counts T m d U54 (some (vI 1)) from ?_)
        have e61 : U54 111 0 82 = T 236 0 m := (up_j hU54 (by exact ni_ rfl) 111 0).trans (up_f hU50)
        have e62 : U54 111 0 83 = T 237 0 m := up_f hU54
        exact ⟨_, rfl, fr_u (fr_u (fr_0 _ _) hU50 rfl) hU54 rfl, by omega, fun _ => by omega⟩
abbrev cX11_tellResult : ByteArray := prog_13_method_82_code
def yX11_tellResult : MethodName := ⟨RX11, "tellResult", "(IIII)V"⟩
def zX11_tellResult : Zm := (RX11, cX11_tellResult, 6, none, { frames := 1, cells := 0, slots := 0, locals := 22 })
theorem bk_X11_tellResult_86 : ck_ fX11 none cX11_tellResult 86 [.aload 0, .tableswitch 0 11 76 #[], .iload 5, .iconst 4, .iadd, .dup2, .iaload, .iload 3, .iadd, .iastore, .aload 0, .tableswitch 0 11 76 #[], .iload 5, .iconst 5, .iadd, .dup2, .iaload, .iload 4, .iadd, .iastore, .aload 0, .tableswitch 0 11 76 #[], .iload 5, .iconst 6, .iadd, .dup2, .iaload, .iload 3, .iload 4, .if_icmp .le 139, .aload 0, .iload 1, .iconst 1] 133 = true := qck_r (nn_ _) (by decide +kernel)
theorem bs_X11_tellResult_86 {P : Zt → Option Zv → Prop} (K : Int → Zl → List Zv → Zt → Prop) : sx_ K P [.aload 0, .tableswitch 0 11 76 #[], .iload 5, .iconst 4, .iadd, .dup2, .iaload, .iload 3, .iadd, .iastore, .aload 0, .tableswitch 0 11 76 #[], .iload 5, .iconst 5, .iadd, .dup2, .iaload, .iload 4, .iadd, .iastore, .aload 0, .tableswitch 0 11 76 #[], .iload 5, .iconst 6, .iadd, .dup2, .iaload, .iload 3, .iload 4, .if_icmp .le 139, .aload 0, .iload 1, .iconst 1] 133 = x_aload 0 (x_g1 111 276 (x_iload 5 (x_iconst 4 (x_iadd (x_dup2 (x_iaload (x_iload 3 (x_iadd (x_iastore (x_aload 0 (x_g1 111 276 (x_iload 5 (x_iconst 5 (x_iadd (x_dup2 (x_iaload (x_iload 4 (x_iadd (x_iastore (x_aload 0 (x_g1 111 276 (x_iload 5 (x_iconst 6 (x_iadd (x_dup2 (x_iaload (x_iload 3 (x_iload 4 (x_if_icmp .le 139 K (x_aload 0 (x_iload 1 (x_iconst 1 (K 133))))))))))))))))))))))))))))))))) := ((xe_aload 0).trans (congrArg (x_aload 0) ((xe_g1 (kk := 111) rfl tl_11_76).trans (congrArg (x_g1 111 276) ((xe_iload 5).trans (congrArg (x_iload 5) ((xe_iconst 4).trans (congrArg (x_iconst 4) ((xe_iadd).trans (congrArg (x_iadd) ((xe_dup2).trans (congrArg (x_dup2) ((xe_iaload).trans (congrArg (x_iaload) ((xe_iload 3).trans (congrArg (x_iload 3) ((xe_iadd).trans (congrArg (x_iadd) ((xe_iastore).trans (congrArg (x_iastore) ((xe_aload 0).trans (congrArg (x_aload 0) ((xe_g1 (kk := 111) rfl tl_11_76).trans (congrArg (x_g1 111 276) ((xe_iload 5).trans (congrArg (x_iload 5) ((xe_iconst 5).trans (congrArg (x_iconst 5) ((xe_iadd).trans (congrArg (x_iadd) ((xe_dup2).trans (congrArg (x_dup2) ((xe_iaload).trans (congrArg (x_iaload) ((xe_iload 4).trans (congrArg (x_iload 4) ((xe_iadd).trans (congrArg (x_iadd) ((xe_iastore).trans (congrArg (x_iastore) ((xe_aload 0).trans (congrArg (x_aload 0) ((xe_g1 (kk := 111) rfl tl_11_76).trans (congrArg (x_g1 111 276) ((xe_iload 5).trans (congrArg (x_iload 5) ((xe_iconst 6).trans (congrArg (x_iconst 6) ((xe_iadd).trans (congrArg (x_iadd) ((xe_dup2).trans (congrArg (x_dup2) ((xe_iaload).trans (congrArg (x_iaload) ((xe_iload 3).trans (congrArg (x_iload 3) ((xe_iload 4).trans (congrArg (x_iload 4) ((xe_if_icmp .le 139).trans (congrArg (x_if_icmp .le 139 K) ((xe_aload 0).trans (congrArg (x_aload 0) ((xe_iload 1).trans (congrArg (x_iload 1) ((xe_iconst 1).trans (congrArg (x_iconst 1) xe_nil))))))))))))))))))))))))))))))))))))))))))))))))))))))))))))))))))
theorem bk_X11_tellResult_139 : ck_ fX11 none cX11_tellResult 139 [.iload 3, .iload 4, .if_icmp .ne 154, .aload 0, .iload 1, .iconst 2] 148 = true := qck_r (nn_ _) (by decide +kernel)
theorem bs_X11_tellResult_139 {P : Zt → Option Zv → Prop} (K : Int → Zl → List Zv → Zt → Prop) : sx_ K P [.iload 3, .iload 4, .if_icmp .ne 154, .aload 0, .iload 1, .iconst 2] 148 = x_iload 3 (x_iload 4 (x_if_icmp .ne 154 K (x_aload 0 (x_iload 1 (x_iconst 2 (K 148)))))) := ((xe_iload 3).trans (congrArg (x_iload 3) ((xe_iload 4).trans (congrArg (x_iload 4) ((xe_if_icmp .ne 154).trans (congrArg (x_if_icmp .ne 154 K) ((xe_aload 0).trans (congrArg (x_aload 0) ((xe_iload 1).trans (congrArg (x_iload 1) ((xe_iconst 2).trans (congrArg (x_iconst 2) xe_nil))))))))))))
theorem bk_X11_tellResult_154 : ck_ fX11 none cX11_tellResult 154 [.aload 0, .iload 1, .iconst 3] 157 = true := qck_r (nn_ _) (by decide +kernel)
theorem bs_X11_tellResult_154 {P : Zt → Option Zv → Prop} (K : Int → Zl → List Zv → Zt → Prop) : sx_ K P [.aload 0, .iload 1, .iconst 3] 157 = x_aload 0 (x_iload 1 (x_iconst 3 (K 157))) := ((xe_aload 0).trans (congrArg (x_aload 0) ((xe_iload 1).trans (congrArg (x_iload 1) ((xe_iconst 3).trans (congrArg (x_iconst 3) xe_nil))))))
theorem bk_X11_tellResult_160 : ck_ fX11 none cX11_tellResult 160 [.iadd, .iastore, .return_] 163 = true := qck_r (nn_ _) (by decide +kernel)
theorem bs_X11_tellResult_160 {P : Zt → Option Zv → Prop} (K : Int → Zl → List Zv → Zt → Prop) : sx_ K P [.iadd, .iastore, .return_] 163 = x_iadd (x_iastore (x_return_ P)) := ((xe_iadd).trans (congrArg (x_iadd) ((xe_iastore).trans (congrArg (x_iastore) (xe_return_)))))
theorem bk_X11_tellResult_151 : ck_ fX11 none cX11_tellResult 151 [.goto 160] 154 = true := qck_r (nn_ _) (by decide +kernel)
theorem bs_X11_tellResult_151 {P : Zt → Option Zv → Prop} (K : Int → Zl → List Zv → Zt → Prop) : sx_ K P [.goto 160] 154 = x_goto 160 K := (xe_goto 160)
theorem bk_X11_tellResult_136 : ck_ fX11 none cX11_tellResult 136 [.goto 160] 139 = true := qck_r (nn_ _) (by decide +kernel)
theorem bs_X11_tellResult_136 {P : Zt → Option Zv → Prop} (K : Int → Zl → List Zv → Zt → Prop) : sx_ K P [.goto 160] 139 = x_goto 160 K := (xe_goto 160)
theorem bk_X11_tellResult_63 : ck_ fX11 none cX11_tellResult 63 [.aload 0, .tableswitch 0 11 76 #[], .iload 5, .iconst 3, .iadd, .dup2, .iaload, .iload 3, .iload 4, .if_icmp .ge 83, .iconst 1, .goto 84] 83 = true := qck_r (nn_ _) (by decide +kernel)
theorem bs_X11_tellResult_63 {P : Zt → Option Zv → Prop} (K : Int → Zl → List Zv → Zt → Prop) : sx_ K P [.aload 0, .tableswitch 0 11 76 #[], .iload 5, .iconst 3, .iadd, .dup2, .iaload, .iload 3, .iload 4, .if_icmp .ge 83, .iconst 1, .goto 84] 83 = x_aload 0 (x_g1 111 276 (x_iload 5 (x_iconst 3 (x_iadd (x_dup2 (x_iaload (x_iload 3 (x_iload 4 (x_if_icmp .ge 83 K (x_iconst 1 (x_goto 84 K))))))))))) := ((xe_aload 0).trans (congrArg (x_aload 0) ((xe_g1 (kk := 111) rfl tl_11_76).trans (congrArg (x_g1 111 276) ((xe_iload 5).trans (congrArg (x_iload 5) ((xe_iconst 3).trans (congrArg (x_iconst 3) ((xe_iadd).trans (congrArg (x_iadd) ((xe_dup2).trans (congrArg (x_dup2) ((xe_iaload).trans (congrArg (x_iaload) ((xe_iload 3).trans (congrArg (x_iload 3) ((xe_iload 4).trans (congrArg (x_iload 4) ((xe_if_icmp .ge 83).trans (congrArg (x_if_icmp .ge 83 K) ((xe_iconst 1).trans (congrArg (x_iconst 1) (xe_goto 84)))))))))))))))))))))))
theorem bk_X11_tellResult_83 : ck_ fX11 none cX11_tellResult 83 [.iconst 0, .iadd, .iastore] 86 = true := qck_r (nn_ _) (by decide +kernel)
theorem bs_X11_tellResult_83 {P : Zt → Option Zv → Prop} (K : Int → Zl → List Zv → Zt → Prop) : sx_ K P [.iconst 0, .iadd, .iastore] 86 = x_iconst 0 (x_iadd (x_iastore (K 86))) := ((xe_iconst 0).trans (congrArg (x_iconst 0) ((xe_iadd).trans (congrArg (x_iadd) ((xe_iastore).trans (congrArg (x_iastore) xe_nil))))))
theorem bk_X11_tellResult_84 : ck_ fX11 none cX11_tellResult 84 [.iadd, .iastore] 86 = true := qck_r (nn_ _) (by decide +kernel)
theorem bs_X11_tellResult_84 {P : Zt → Option Zv → Prop} (K : Int → Zl → List Zv → Zt → Prop) : sx_ K P [.iadd, .iastore] 86 = x_iadd (x_iastore (K 86)) := ((xe_iadd).trans (congrArg (x_iadd) ((xe_iastore).trans (congrArg (x_iastore) xe_nil))))
theorem bk_X11_tellResult_40 : ck_ fX11 none cX11_tellResult 40 [.aload 0, .tableswitch 0 11 76 #[], .iload 5, .iconst 2, .iadd, .dup2, .iaload, .iload 3, .iload 4, .if_icmp .ne 60, .iconst 1, .goto 61] 60 = true := qck_r (nn_ _) (by decide +kernel)
theorem bs_X11_tellResult_40 {P : Zt → Option Zv → Prop} (K : Int → Zl → List Zv → Zt → Prop) : sx_ K P [.aload 0, .tableswitch 0 11 76 #[], .iload 5, .iconst 2, .iadd, .dup2, .iaload, .iload 3, .iload 4, .if_icmp .ne 60, .iconst 1, .goto 61] 60 = x_aload 0 (x_g1 111 276 (x_iload 5 (x_iconst 2 (x_iadd (x_dup2 (x_iaload (x_iload 3 (x_iload 4 (x_if_icmp .ne 60 K (x_iconst 1 (x_goto 61 K))))))))))) := ((xe_aload 0).trans (congrArg (x_aload 0) ((xe_g1 (kk := 111) rfl tl_11_76).trans (congrArg (x_g1 111 276) ((xe_iload 5).trans (congrArg (x_iload 5) ((xe_iconst 2).trans (congrArg (x_iconst 2) ((xe_iadd).trans (congrArg (x_iadd) ((xe_dup2).trans (congrArg (x_dup2) ((xe_iaload).trans (congrArg (x_iaload) ((xe_iload 3).trans (congrArg (x_iload 3) ((xe_iload 4).trans (congrArg (x_iload 4) ((xe_if_icmp .ne 60).trans (congrArg (x_if_icmp .ne 60 K) ((xe_iconst 1).trans (congrArg (x_iconst 1) (xe_goto 61)))))))))))))))))))))))
theorem bk_X11_tellResult_60 : ck_ fX11 none cX11_tellResult 60 [.iconst 0, .iadd, .iastore] 63 = true := qck_r (nn_ _) (by decide +kernel)
theorem bs_X11_tellResult_60 {P : Zt → Option Zv → Prop} (K : Int → Zl → List Zv → Zt → Prop) : sx_ K P [.iconst 0, .iadd, .iastore] 63 = x_iconst 0 (x_iadd (x_iastore (K 63))) := ((xe_iconst 0).trans (congrArg (x_iconst 0) ((xe_iadd).trans (congrArg (x_iadd) ((xe_iastore).trans (congrArg (x_iastore) xe_nil))))))
theorem bk_X11_tellResult_61 : ck_ fX11 none cX11_tellResult 61 [.iadd, .iastore] 63 = true := qck_r (nn_ _) (by decide +kernel)
theorem bs_X11_tellResult_61 {P : Zt → Option Zv → Prop} (K : Int → Zl → List Zv → Zt → Prop) : sx_ K P [.iadd, .iastore] 63 = x_iadd (x_iastore (K 63)) := ((xe_iadd).trans (congrArg (x_iadd) ((xe_iastore).trans (congrArg (x_iastore) xe_nil))))
theorem bk_X11_tellResult_0 : ck_ fX11 none cX11_tellResult 0 [.iconst 9, .iload 2, .imul, .istore 5, .aload 0, .tableswitch 0 11 76 #[], .iload 5, .dup2, .iaload, .iconst 1, .iadd, .iastore, .aload 0, .tableswitch 0 11 76 #[], .iload 5, .iconst 1, .iadd, .dup2, .iaload, .iload 3, .iload 4, .if_icmp .le 37, .iconst 1, .goto 38] 37 = true := qck_r (nn_ _) (by decide +kernel)
theorem bs_X11_tellResult_0 {P : Zt → Option Zv → Prop} (K : Int → Zl → List Zv → Zt → Prop) : sx_ K P [.iconst 9, .iload 2, .imul, .istore 5, .aload 0, .tableswitch 0 11 76 #[], .iload 5, .dup2, .iaload, .iconst 1, .iadd, .iastore, .aload 0, .tableswitch 0 11 76 #[], .iload 5, .iconst 1, .iadd, .dup2, .iaload, .iload 3, .iload 4, .if_icmp .le 37, .iconst 1, .goto 38] 37 = x_iconst 9 (x_iload 2 (x_imul (x_istore 5 (x_aload 0 (x_g1 111 276 (x_iload 5 (x_dup2 (x_iaload (x_iconst 1 (x_iadd (x_iastore (x_aload 0 (x_g1 111 276 (x_iload 5 (x_iconst 1 (x_iadd (x_dup2 (x_iaload (x_iload 3 (x_iload 4 (x_if_icmp .le 37 K (x_iconst 1 (x_goto 38 K))))))))))))))))))))))) := ((xe_iconst 9).trans (congrArg (x_iconst 9) ((xe_iload 2).trans (congrArg (x_iload 2) ((xe_imul).trans (congrArg (x_imul) ((xe_istore 5).trans (congrArg (x_istore 5) ((xe_aload 0).trans (congrArg (x_aload 0) ((xe_g1 (kk := 111) rfl tl_11_76).trans (congrArg (x_g1 111 276) ((xe_iload 5).trans (congrArg (x_iload 5) ((xe_dup2).trans (congrArg (x_dup2) ((xe_iaload).trans (congrArg (x_iaload) ((xe_iconst 1).trans (congrArg (x_iconst 1) ((xe_iadd).trans (congrArg (x_iadd) ((xe_iastore).trans (congrArg (x_iastore) ((xe_aload 0).trans (congrArg (x_aload 0) ((xe_g1 (kk := 111) rfl tl_11_76).trans (congrArg (x_g1 111 276) ((xe_iload 5).trans (congrArg (x_iload 5) ((xe_iconst 1).trans (congrArg (x_iconst 1) ((xe_iadd).trans (congrArg (x_iadd) ((xe_dup2).trans (congrArg (x_dup2) ((xe_iaload).trans (congrArg (x_iaload) ((xe_iload 3).trans (congrArg (x_iload 3) ((xe_iload 4).trans (congrArg (x_iload 4) ((xe_if_icmp .le 37).trans (congrArg (x_if_icmp .le 37 K) ((xe_iconst 1).trans (congrArg (x_iconst 1) (xe_goto 38)))))))))))))))))))))))))))))))))))))))))))))))
theorem bk_X11_tellResult_37 : ck_ fX11 none cX11_tellResult 37 [.iconst 0, .iadd, .iastore] 40 = true := qck_r (nn_ _) (by decide +kernel)
theorem bs_X11_tellResult_37 {P : Zt → Option Zv → Prop} (K : Int → Zl → List Zv → Zt → Prop) : sx_ K P [.iconst 0, .iadd, .iastore] 40 = x_iconst 0 (x_iadd (x_iastore (K 40))) := ((xe_iconst 0).trans (congrArg (x_iconst 0) ((xe_iadd).trans (congrArg (x_iadd) ((xe_iastore).trans (congrArg (x_iastore) xe_nil))))))
theorem bk_X11_tellResult_38 : ck_ fX11 none cX11_tellResult 38 [.iadd, .iastore] 40 = true := qck_r (nn_ _) (by decide +kernel)
theorem bs_X11_tellResult_38 {P : Zt → Option Zv → Prop} (K : Int → Zl → List Zv → Zt → Prop) : sx_ K P [.iadd, .iastore] 40 = x_iadd (x_iastore (K 40)) := ((xe_iadd).trans (congrArg (x_iadd) ((xe_iastore).trans (congrArg (x_iastore) xe_nil))))
abbrev po_X11_tellResult (T : Zt) (bb : Int) (c cl a b : Int) : Zt → Option Zv → Prop := fun T' r => r = none ∧ fr_ [(276, [])] T T' ∧ (TB_ T' (bb + 140000))
set_option maxHeartbeats 4000000 in
theorem ct_X11_tellResult {T : Zt} {bb : Int} {c cl a b : Int} (h1 : 0 ≤ c ∧ c < 4) (h2 : 0 ≤ cl ∧ cl < 12) (h3 : 0 ≤ a ∧ a ≤ 20000) (h4 : 0 ≤ b ∧ b ≤ 20000) (hbb : 0 ≤ bb ∧ bb ≤ 500000000) (htb : TB_ T bb) : Ct_ yX11_tellResult zX11_tellResult T [vR 111 0, vI c, vI cl, vI a, vI b] (po_X11_tellResult T bb c cl a b) := by
  refine ct_of pn_11 rfl rfl (Nat.le_of_ble_eq_true rfl) (fun hT hav => ?_)
  have hr_c : -2147483648 ≤ c ∧ c ≤ 2147483647 := hav (vI c) (List.mem_cons_of_mem _ List.mem_cons_self)
  have hr_cl : -2147483648 ≤ cl ∧ cl ≤ 2147483647 := hav (vI cl) (List.mem_cons_of_mem _ (List.mem_cons_of_mem _ List.mem_cons_self))
  have hr_a : -2147483648 ≤ a ∧ a ≤ 2147483647 := hav (vI a) (List.mem_cons_of_mem _ (List.mem_cons_of_mem _ (List.mem_cons_of_mem _ List.mem_cons_self)))
  have hr_b : -2147483648 ≤ b ∧ b ≤ 2147483647 := hav (vI b) (List.mem_cons_of_mem _ (List.mem_cons_of_mem _ (List.mem_cons_of_mem _ (List.mem_cons_of_mem _ List.mem_cons_self))))
  have hz : zX11_tellResult.2.2.2.1 = some .boolean → ∀ (T' : Zt) (x : Int), po_X11_tellResult T bb c cl a b T' (some (vI x)) → 0 ≤ x ∧ x ≤ 1 := fun h => by cases h
  have hr1 : (-1) ≤ T 205 0 (23 * c + 1) ∧ T 205 0 (23 * c + 1) ≤ 999 := bd_a hT 205 (by decide +kernel : ta_ 205 = some (1, some 92, (-1), 999)) 0 (by omega)
  have hr2 : (-1) ≤ T 205 0 (23 * c + 2) ∧ T 205 0 (23 * c + 2) ≤ 999 := bd_a hT 205 (by decide +kernel : ta_ 205 = some (1, some 92, (-1), 999)) 0 (by omega)
  have hr3 : (-1) ≤ T 205 0 (23 * c + 3) ∧ T 205 0 (23 * c + 3) ≤ 999 := bd_a hT 205 (by decide +kernel : ta_ 205 = some (1, some 92, (-1), 999)) 0 (by omega)
  show J_ zX11_tellResult T (po_X11_tellResult T bb c cl a b) 0 0 0 [some (vR 111 0), some (vI c), some (vI cl), some (vI a), some (vI b), none] [] T
  have c_86 : ∀ (T3 : Zt), (fr_ [(276, [])] T T3) → (TB_ T3 (bb + 80000)) → J_ zX11_tellResult T (po_X11_tellResult T bb c cl a b) 0 0 86 [some (vR 111 0), some (vI c), some (vI cl), some (vI a), some (vI b), some (vI (9 * cl))] [] T3 := by
    intro T3 hf_86 tb3
    refine j_blx (F := fX11) tb_X11 (nn_ _) bk_X11_tellResult_86 bs_X11_tellResult_86 hz (fun K hK => ?_)
    refine rg_i (by omega) ?_
    refine ix_i (by omega) ?_
    intro b1 b1b
    have t2 : -(bb + 80000) ≤ T3 276 0 ((9 * cl) + 4) ∧ T3 276 0 ((9 * cl) + 4) ≤ bb + 80000 ∧ (((9 * cl) + 4) % 9 = 6 → -(bb + 80000) ≤ 20 * (T3 276 0 ((9 * cl) + 4)) ∧ 20 * (T3 276 0 ((9 * cl) + 4)) ≤ bb + 80000) := (tb3) ((9 * cl) + 4) (by omega) (by omega)
    refine rg_i (by omega) ?_
    refine iy_i (by omega) (by omega) ?_
    refine x_nm (fun U3 hU3 => ?_)
    have e4 := up_f hU3
    refine rg_i (by omega) ?_
    refine ix_i (by omega) ?_
    intro b5 b5b
    have t6 : -(bb + 80000 + 20000) ≤ U3 276 0 ((9 * cl) + 5) ∧ U3 276 0 ((9 * cl) + 5) ≤ bb + 80000 + 20000 ∧ (((9 * cl) + 5) % 9 = 6 → -(bb + 80000 + 20000) ≤ 20 * (U3 276 0 ((9 * cl) + 5)) ∧ 20 * (U3 276 0 ((9 * cl) + 5)) ≤ bb + 80000 + 20000) := (tb_u (d := 20000) (tb3) hU3 (by decide) (by omega)) ((9 * cl) + 5) (by omega) (by omega)
    refine rg_i (by omega) ?_
    refine iy_i (by omega) (by omega) ?_
    refine x_nm (fun U7 hU7 => ?_)
    have e8 := up_f hU7
    refine rg_i (by omega) ?_
    refine ix_i (by omega) ?_
    intro b9 b9b
    refine And.intro (fun c10 => ?_) (fun c10 => ?_)
    · refine hK 139 _ [vI (U7 276 0 ((9 * cl) + 6)), vI ((9 * cl) + 6), vR 276 0] U7 ?_
      refine j_blx (F := fX11) tb_X11 (nn_ _) bk_X11_tellResult_139 bs_X11_tellResult_139 hz (fun K hK => ?_)
      refine And.intro (fun c11 => ?_) (fun c11 => ?_)
      · refine hK 154 _ [vI (U7 276 0 ((9 * cl) + 6)), vI ((9 * cl) + 6), vR 276 0] U7 ?_
        refine j_blx (F := fX11) tb_X11 (nn_ _) bk_X11_tellResult_154 bs_X11_tellResult_154 hz (fun K hK => ?_)
        refine hK 157 _ [vI 3, vI c, vR 111 0, vI (U7 276 0 ((9 * cl) + 6)), vI ((9 * cl) + 6), vR 276 0] U7 ?_
        refine j_callV (y := yX11_rule0) (Yc := zX11_rule0) (rest := [vI (U7 276 0 ((9 * cl) + 6)), vI ((9 * cl) + 6), vR 276 0]) [vI c, vI 3] (ct_X11_rule0 (T := U7) (by omega) (by omega)) cl_X11_321 (qd_c (by decide +kernel)) (nn_ _) rfl (rf_of rfl) (Nat.le_of_ble_eq_true rfl) (Nat.le_of_ble_eq_true rfl) (Nat.le_of_ble_eq_true rfl) rfl ?_
        rintro _ _ ⟨rfl, rfl⟩
        have e12 : U7 205 0 (23 * c + 3) = T 205 0 (23 * c + 3) := (up_k hU7 (by exact Nat.ne_of_beq_eq_false rfl) 0 (23 * c + 3)).trans ((up_k hU3 (by exact Nat.ne_of_beq_eq_false rfl) 0 (23 * c + 3)).trans (hf_86 205 0 (23 * c + 3) rfl))
        show J_ zX11_tellResult T (po_X11_tellResult T bb c cl a b) 0 0 160 _ [vI (U7 205 0 (23 * c + 3)), vI (U7 276 0 ((9 * cl) + 6)), vI ((9 * cl) + 6), vR 276 0] U7
        refine j_blx (F := fX11) tb_X11 (nn_ _) bk_X11_tellResult_160 bs_X11_tellResult_160 hz (fun K hK => ?_)
        have t13 : -(bb + 80000 + 20000 + 20000) ≤ U7 276 0 ((9 * cl) + 6) ∧ U7 276 0 ((9 * cl) + 6) ≤ bb + 80000 + 20000 + 20000 ∧ (((9 * cl) + 6) % 9 = 6 → -(bb + 80000 + 20000 + 20000) ≤ 20 * (U7 276 0 ((9 * cl) + 6)) ∧ 20 * (U7 276 0 ((9 * cl) + 6)) ≤ bb + 80000 + 20000 + 20000) := (tb_u (d := 20000) (tb_u (d := 20000) (tb3) hU3 (by decide) (by omega)) hU7 (by decide) (by omega)) ((9 * cl) + 6) (by omega) (by omega)
        refine rg_i (by omega) ?_
        refine iy_i (by omega) (by omega) ?_
        refine x_nm (fun U14 hU14 => ?_)
        have e15 := up_f hU14
        refine (show po_X11_tellResult T bb c cl a b U14 (none) from ?_)
        exact ⟨rfl, fr_u (fr_u (fr_u (fr_t (fr_0 _ _) (fr_s hf_86 rfl)) hU3 rfl) hU7 rfl) hU14 rfl, tb_m (tb_u (d := 20000) (tb_u (d := 20000) (tb_u (d := 20000) (tb3) hU3 (by decide) (by omega)) hU7 (by decide) (by omega)) hU14 (by decide) (by omega)) (by omega)⟩
      · refine hK 148 _ [vI 2, vI c, vR 111 0, vI (U7 276 0 ((9 * cl) + 6)), vI ((9 * cl) + 6), vR 276 0] U7 ?_
        refine j_callV (y := yX11_rule0) (Yc := zX11_rule0) (rest := [vI (U7 276 0 ((9 * cl) + 6)), vI ((9 * cl) + 6), vR 276 0]) [vI c, vI 2] (ct_X11_rule0 (T := U7) (by omega) (by omega)) cl_X11_321 (qd_c (by decide +kernel)) (nn_ _) rfl (rf_of rfl) (Nat.le_of_ble_eq_true rfl) (Nat.le_of_ble_eq_true rfl) (Nat.le_of_ble_eq_true rfl) rfl ?_
        rintro _ _ ⟨rfl, rfl⟩
        have e16 : U7 205 0 (23 * c + 2) = T 205 0 (23 * c + 2) := (up_k hU7 (by exact Nat.ne_of_beq_eq_false rfl) 0 (23 * c + 2)).trans ((up_k hU3 (by exact Nat.ne_of_beq_eq_false rfl) 0 (23 * c + 2)).trans (hf_86 205 0 (23 * c + 2) rfl))
        show J_ zX11_tellResult T (po_X11_tellResult T bb c cl a b) 0 0 151 _ [vI (U7 205 0 (23 * c + 2)), vI (U7 276 0 ((9 * cl) + 6)), vI ((9 * cl) + 6), vR 276 0] U7
        refine j_blx (F := fX11) tb_X11 (nn_ _) bk_X11_tellResult_151 bs_X11_tellResult_151 hz (fun K hK => ?_)
        refine hK 160 _ [vI (U7 205 0 (23 * c + 2)), vI (U7 276 0 ((9 * cl) + 6)), vI ((9 * cl) + 6), vR 276 0] U7 ?_
        refine j_blx (F := fX11) tb_X11 (nn_ _) bk_X11_tellResult_160 bs_X11_tellResult_160 hz (fun K hK => ?_)
        have t17 : -(bb + 80000 + 20000 + 20000) ≤ U7 276 0 ((9 * cl) + 6) ∧ U7 276 0 ((9 * cl) + 6) ≤ bb + 80000 + 20000 + 20000 ∧ (((9 * cl) + 6) % 9 = 6 → -(bb + 80000 + 20000 + 20000) ≤ 20 * (U7 276 0 ((9 * cl) + 6)) ∧ 20 * (U7 276 0 ((9 * cl) + 6)) ≤ bb + 80000 + 20000 + 20000) := (tb_u (d := 20000) (tb_u (d := 20000) (tb3) hU3 (by decide) (by omega)) hU7 (by decide) (by omega)) ((9 * cl) + 6) (by omega) (by omega)
        refine rg_i (by omega) ?_
        refine iy_i (by omega) (by omega) ?_
        refine x_nm (fun U18 hU18 => ?_)
        have e19 := up_f hU18
        refine (show po_X11_tellResult T bb c cl a b U18 (none) from ?_)
        exact ⟨rfl, fr_u (fr_u (fr_u (fr_t (fr_0 _ _) (fr_s hf_86 rfl)) hU3 rfl) hU7 rfl) hU18 rfl, tb_m (tb_u (d := 20000) (tb_u (d := 20000) (tb_u (d := 20000) (tb3) hU3 (by decide) (by omega)) hU7 (by decide) (by omega)) hU18 (by decide) (by omega)) (by omega)⟩
    · refine hK 133 _ [vI 1, vI c, vR 111 0, vI (U7 276 0 ((9 * cl) + 6)), vI ((9 * cl) + 6), vR 276 0] U7 ?_
      refine j_callV (y := yX11_rule0) (Yc := zX11_rule0) (rest := [vI (U7 276 0 ((9 * cl) + 6)), vI ((9 * cl) + 6), vR 276 0]) [vI c, vI 1] (ct_X11_rule0 (T := U7) (by omega) (by omega)) cl_X11_321 (qd_c (by decide +kernel)) (nn_ _) rfl (rf_of rfl) (Nat.le_of_ble_eq_true rfl) (Nat.le_of_ble_eq_true rfl) (Nat.le_of_ble_eq_true rfl) rfl ?_
      rintro _ _ ⟨rfl, rfl⟩
      have e20 : U7 205 0 (23 * c + 1) = T 205 0 (23 * c + 1) := (up_k hU7 (by exact Nat.ne_of_beq_eq_false rfl) 0 (23 * c + 1)).trans ((up_k hU3 (by exact Nat.ne_of_beq_eq_false rfl) 0 (23 * c + 1)).trans (hf_86 205 0 (23 * c + 1) rfl))
      show J_ zX11_tellResult T (po_X11_tellResult T bb c cl a b) 0 0 136 _ [vI (U7 205 0 (23 * c + 1)), vI (U7 276 0 ((9 * cl) + 6)), vI ((9 * cl) + 6), vR 276 0] U7
      refine j_blx (F := fX11) tb_X11 (nn_ _) bk_X11_tellResult_136 bs_X11_tellResult_136 hz (fun K hK => ?_)
      refine hK 160 _ [vI (U7 205 0 (23 * c + 1)), vI (U7 276 0 ((9 * cl) + 6)), vI ((9 * cl) + 6), vR 276 0] U7 ?_
      refine j_blx (F := fX11) tb_X11 (nn_ _) bk_X11_tellResult_160 bs_X11_tellResult_160 hz (fun K hK => ?_)
      have t21 : -(bb + 80000 + 20000 + 20000) ≤ U7 276 0 ((9 * cl) + 6) ∧ U7 276 0 ((9 * cl) + 6) ≤ bb + 80000 + 20000 + 20000 ∧ (((9 * cl) + 6) % 9 = 6 → -(bb + 80000 + 20000 + 20000) ≤ 20 * (U7 276 0 ((9 * cl) + 6)) ∧ 20 * (U7 276 0 ((9 * cl) + 6)) ≤ bb + 80000 + 20000 + 20000) := (tb_u (d := 20000) (tb_u (d := 20000) (tb3) hU3 (by decide) (by omega)) hU7 (by decide) (by omega)) ((9 * cl) + 6) (by omega) (by omega)
      refine rg_i (by omega) ?_
      refine iy_i (by omega) (by omega) ?_
      refine x_nm (fun U22 hU22 => ?_)
      have e23 := up_f hU22
      refine (show po_X11_tellResult T bb c cl a b U22 (none) from ?_)
      exact ⟨rfl, fr_u (fr_u (fr_u (fr_t (fr_0 _ _) (fr_s hf_86 rfl)) hU3 rfl) hU7 rfl) hU22 rfl, tb_m (tb_u (d := 20000) (tb_u (d := 20000) (tb_u (d := 20000) (tb3) hU3 (by decide) (by omega)) hU7 (by decide) (by omega)) hU22 (by decide) (by omega)) (by omega)⟩
  have c_63 : ∀ (T2 : Zt), (fr_ [(276, [])] T T2) → (TB_ T2 (bb + 60000)) → J_ zX11_tellResult T (po_X11_tellResult T bb c cl a b) 0 0 63 [some (vR 111 0), some (vI c), some (vI cl), some (vI a), some (vI b), some (vI (9 * cl))] [] T2 := by
    intro T2 hf_63 tb2
    refine j_blx (F := fX11) tb_X11 (nn_ _) bk_X11_tellResult_63 bs_X11_tellResult_63 hz (fun K hK => ?_)
    refine rg_i (by omega) ?_
    refine ix_i (by omega) ?_
    intro b24 b24b
    refine And.intro (fun c25 => ?_) (fun c25 => ?_)
    · refine hK 83 _ [vI (T2 276 0 ((9 * cl) + 3)), vI ((9 * cl) + 3), vR 276 0] T2 ?_
      refine j_blx (F := fX11) tb_X11 (nn_ _) bk_X11_tellResult_83 bs_X11_tellResult_83 hz (fun K hK => ?_)
      have t26 : -(bb + 60000) ≤ T2 276 0 ((9 * cl) + 3) ∧ T2 276 0 ((9 * cl) + 3) ≤ bb + 60000 ∧ (((9 * cl) + 3) % 9 = 6 → -(bb + 60000) ≤ 20 * (T2 276 0 ((9 * cl) + 3)) ∧ 20 * (T2 276 0 ((9 * cl) + 3)) ≤ bb + 60000) := (tb2) ((9 * cl) + 3) (by omega) (by omega)
      refine rg_i (by omega) ?_
      refine iy_i (by omega) (by omega) ?_
      refine x_nm (fun U27 hU27 => ?_)
      have e28 := up_f hU27
      refine hK 86 _ [] U27 ?_
      refine c_86 U27 ?_ ?_
      · exact fr_u (fr_t (fr_0 _ _) (fr_s hf_63 rfl)) hU27 rfl
      · exact tb_m (tb_u (d := 20000) (tb2) hU27 (by decide) (by omega)) (by omega)
    · refine hK 84 _ [vI 1, vI (T2 276 0 ((9 * cl) + 3)), vI ((9 * cl) + 3), vR 276 0] T2 ?_
      refine j_blx (F := fX11) tb_X11 (nn_ _) bk_X11_tellResult_84 bs_X11_tellResult_84 hz (fun K hK => ?_)
      have t29 : -(bb + 60000) ≤ T2 276 0 ((9 * cl) + 3) ∧ T2 276 0 ((9 * cl) + 3) ≤ bb + 60000 ∧ (((9 * cl) + 3) % 9 = 6 → -(bb + 60000) ≤ 20 * (T2 276 0 ((9 * cl) + 3)) ∧ 20 * (T2 276 0 ((9 * cl) + 3)) ≤ bb + 60000) := (tb2) ((9 * cl) + 3) (by omega) (by omega)
      refine rg_i (by omega) ?_
      refine iy_i (by omega) (by omega) ?_
      refine x_nm (fun U30 hU30 => ?_)
      have e31 := up_f hU30
      refine hK 86 _ [] U30 ?_
      refine c_86 U30 ?_ ?_
      · exact fr_u (fr_t (fr_0 _ _) (fr_s hf_63 rfl)) hU30 rfl
      · exact tb_m (tb_u (d := 20000) (tb2) hU30 (by decide) (by omega)) (by omega)
  have c_40 : ∀ (T1 : Zt), (fr_ [(276, [])] T T1) → (TB_ T1 (bb + 40000)) → J_ zX11_tellResult T (po_X11_tellResult T bb c cl a b) 0 0 40 [some (vR 111 0), some (vI c), some (vI cl), some (vI a), some (vI b), some (vI (9 * cl))] [] T1 := by
    intro T1 hf_40 tb1
    refine j_blx (F := fX11) tb_X11 (nn_ _) bk_X11_tellResult_40 bs_X11_tellResult_40 hz (fun K hK => ?_)
    refine rg_i (by omega) ?_
    refine ix_i (by omega) ?_
    intro b32 b32b
    refine And.intro (fun c33 => ?_) (fun c33 => ?_)
    · refine hK 60 _ [vI (T1 276 0 ((9 * cl) + 2)), vI ((9 * cl) + 2), vR 276 0] T1 ?_
      refine j_blx (F := fX11) tb_X11 (nn_ _) bk_X11_tellResult_60 bs_X11_tellResult_60 hz (fun K hK => ?_)
      have t34 : -(bb + 40000) ≤ T1 276 0 ((9 * cl) + 2) ∧ T1 276 0 ((9 * cl) + 2) ≤ bb + 40000 ∧ (((9 * cl) + 2) % 9 = 6 → -(bb + 40000) ≤ 20 * (T1 276 0 ((9 * cl) + 2)) ∧ 20 * (T1 276 0 ((9 * cl) + 2)) ≤ bb + 40000) := (tb1) ((9 * cl) + 2) (by omega) (by omega)
      refine rg_i (by omega) ?_
      refine iy_i (by omega) (by omega) ?_
      refine x_nm (fun U35 hU35 => ?_)
      have e36 := up_f hU35
      refine hK 63 _ [] U35 ?_
      refine c_63 U35 ?_ ?_
      · exact fr_u (fr_t (fr_0 _ _) (fr_s hf_40 rfl)) hU35 rfl
      · exact tb_m (tb_u (d := 20000) (tb1) hU35 (by decide) (by omega)) (by omega)
    · refine hK 61 _ [vI 1, vI (T1 276 0 ((9 * cl) + 2)), vI ((9 * cl) + 2), vR 276 0] T1 ?_
      refine j_blx (F := fX11) tb_X11 (nn_ _) bk_X11_tellResult_61 bs_X11_tellResult_61 hz (fun K hK => ?_)
      have t37 : -(bb + 40000) ≤ T1 276 0 ((9 * cl) + 2) ∧ T1 276 0 ((9 * cl) + 2) ≤ bb + 40000 ∧ (((9 * cl) + 2) % 9 = 6 → -(bb + 40000) ≤ 20 * (T1 276 0 ((9 * cl) + 2)) ∧ 20 * (T1 276 0 ((9 * cl) + 2)) ≤ bb + 40000) := (tb1) ((9 * cl) + 2) (by omega) (by omega)
      refine rg_i (by omega) ?_
      refine iy_i (by omega) (by omega) ?_
      refine x_nm (fun U38 hU38 => ?_)
      have e39 := up_f hU38
      refine hK 63 _ [] U38 ?_
      refine c_63 U38 ?_ ?_
      · exact fr_u (fr_t (fr_0 _ _) (fr_s hf_40 rfl)) hU38 rfl
      · exact tb_m (tb_u (d := 20000) (tb1) hU38 (by decide) (by omega)) (by omega)
  refine j_blx (F := fX11) tb_X11 (nn_ _) bk_X11_tellResult_0 bs_X11_tellResult_0 hz (fun K hK => ?_)
  refine rg_i (by omega) ?_
  refine ix_i (by omega) ?_
  intro b40 b40b
  have t41 : -(bb) ≤ T 276 0 (9 * cl) ∧ T 276 0 (9 * cl) ≤ bb ∧ ((9 * cl) % 9 = 6 → -(bb) ≤ 20 * (T 276 0 (9 * cl)) ∧ 20 * (T 276 0 (9 * cl)) ≤ bb) := (htb) (9 * cl) (by omega) (by omega)
  refine rg_i (by omega) ?_
  refine iy_i (by omega) (by omega) ?_
  refine x_nm (fun U42 hU42 => ?_)
  have e43 := up_f hU42
  refine rg_i (by omega) ?_
  refine ix_i (by omega) ?_
  intro b44 b44b
  refine And.intro (fun c45 => ?_) (fun c45 => ?_)
  · refine hK 37 [some (vR 111 0), some (vI c), some (vI cl), some (vI a), some (vI b), some (vI (9 * cl))] [vI (U42 276 0 ((9 * cl) + 1)), vI ((9 * cl) + 1), vR 276 0] U42 ?_
    refine j_blx (F := fX11) tb_X11 (nn_ _) bk_X11_tellResult_37 bs_X11_tellResult_37 hz (fun K hK => ?_)
    have t46 : -(bb + 20000) ≤ U42 276 0 ((9 * cl) + 1) ∧ U42 276 0 ((9 * cl) + 1) ≤ bb + 20000 ∧ (((9 * cl) + 1) % 9 = 6 → -(bb + 20000) ≤ 20 * (U42 276 0 ((9 * cl) + 1)) ∧ 20 * (U42 276 0 ((9 * cl) + 1)) ≤ bb + 20000) := (tb_u (d := 20000) (htb) hU42 (by decide) (by omega)) ((9 * cl) + 1) (by omega) (by omega)
    refine rg_i (by omega) ?_
    refine iy_i (by omega) (by omega) ?_
    refine x_nm (fun U47 hU47 => ?_)
    have e48 := up_f hU47
    refine hK 40 _ [] U47 ?_
    refine c_40 U47 ?_ ?_
    · exact fr_u (fr_u (fr_0 _ _) hU42 rfl) hU47 rfl
    · exact tb_m (tb_u (d := 20000) (tb_u (d := 20000) (htb) hU42 (by decide) (by omega)) hU47 (by decide) (by omega)) (by omega)
  · refine hK 38 _ [vI 1, vI (U42 276 0 ((9 * cl) + 1)), vI ((9 * cl) + 1), vR 276 0] U42 ?_
    refine j_blx (F := fX11) tb_X11 (nn_ _) bk_X11_tellResult_38 bs_X11_tellResult_38 hz (fun K hK => ?_)
    have t49 : -(bb + 20000) ≤ U42 276 0 ((9 * cl) + 1) ∧ U42 276 0 ((9 * cl) + 1) ≤ bb + 20000 ∧ (((9 * cl) + 1) % 9 = 6 → -(bb + 20000) ≤ 20 * (U42 276 0 ((9 * cl) + 1)) ∧ 20 * (U42 276 0 ((9 * cl) + 1)) ≤ bb + 20000) := (tb_u (d := 20000) (htb) hU42 (by decide) (by omega)) ((9 * cl) + 1) (by omega) (by omega)
    refine rg_i (by omega) ?_
    refine iy_i (by omega) (by omega) ?_
    refine x_nm (fun U50 hU50 => ?_)
    have e51 := up_f hU50
    refine hK 40 _ [] U50 ?_
    refine c_40 U50 ?_ ?_
    · exact fr_u (fr_u (fr_0 _ _) hU42 rfl) hU50 rfl
    · exact tb_m (tb_u (d := 20000) (tb_u (d := 20000) (htb) hU42 (by decide) (by omega)) hU50 (by decide) (by omega)) (by omega)
abbrev cX11_fairOf : ByteArray := prog_13_method_83_code
def yX11_fairOf : MethodName := ⟨RX11, "fairOf", "(I)I"⟩
def zX11_fairOf : Zm := (RX11, cX11_fairOf, 4, (some .int), { frames := 0, cells := 0, slots := 0, locals := 0 })
theorem bk_X11_fairOf_7 : ck_ fX11 (some .int) cX11_fairOf 7 [.iload 3, .iconst 10, .iload 1, .imul, .aload 0, .tableswitch 0 11 39 #[], .iload 1, .iaload, .iadd, .if_icmp .ge 52, .iload 2, .aload 0, .tableswitch 0 11 42 #[], .iload 3, .iaload, .aload 0, .tableswitch 0 11 43 #[], .iload 3, .baload, .ifCond .eq 42, .iconst 3, .goto 43] 42 = true := qck_r (nn_ _) (by decide +kernel)
theorem bs_X11_fairOf_7 {P : Zt → Option Zv → Prop} (K : Int → Zl → List Zv → Zt → Prop) : sx_ K P [.iload 3, .iconst 10, .iload 1, .imul, .aload 0, .tableswitch 0 11 39 #[], .iload 1, .iaload, .iadd, .if_icmp .ge 52, .iload 2, .aload 0, .tableswitch 0 11 42 #[], .iload 3, .iaload, .aload 0, .tableswitch 0 11 43 #[], .iload 3, .baload, .ifCond .eq 42, .iconst 3, .goto 43] 42 = x_iload 3 (x_iconst 10 (x_iload 1 (x_imul (x_aload 0 (x_g1 111 239 (x_iload 1 (x_iaload (x_iadd (x_if_icmp .ge 52 K (x_iload 2 (x_aload 0 (x_g1 111 242 (x_iload 3 (x_iaload (x_aload 0 (x_g1 111 243 (x_iload 3 (x_baload (x_ifCond .eq 42 K (x_iconst 3 (x_goto 43 K))))))))))))))))))))) := ((xe_iload 3).trans (congrArg (x_iload 3) ((xe_iconst 10).trans (congrArg (x_iconst 10) ((xe_iload 1).trans (congrArg (x_iload 1) ((xe_imul).trans (congrArg (x_imul) ((xe_aload 0).trans (congrArg (x_aload 0) ((xe_g1 (kk := 111) rfl tl_11_39).trans (congrArg (x_g1 111 239) ((xe_iload 1).trans (congrArg (x_iload 1) ((xe_iaload).trans (congrArg (x_iaload) ((xe_iadd).trans (congrArg (x_iadd) ((xe_if_icmp .ge 52).trans (congrArg (x_if_icmp .ge 52 K) ((xe_iload 2).trans (congrArg (x_iload 2) ((xe_aload 0).trans (congrArg (x_aload 0) ((xe_g1 (kk := 111) rfl tl_11_42).trans (congrArg (x_g1 111 242) ((xe_iload 3).trans (congrArg (x_iload 3) ((xe_iaload).trans (congrArg (x_iaload) ((xe_aload 0).trans (congrArg (x_aload 0) ((xe_g1 (kk := 111) rfl tl_11_43).trans (congrArg (x_g1 111 243) ((xe_iload 3).trans (congrArg (x_iload 3) ((xe_baload).trans (congrArg (x_baload) ((xe_ifCond .eq 42).trans (congrArg (x_ifCond .eq 42 K) ((xe_iconst 3).trans (congrArg (x_iconst 3) (xe_goto 43)))))))))))))))))))))))))))))))))))))))))))
theorem bk_X11_fairOf_52 : ck_ fX11 (some .int) cX11_fairOf 52 [.iload 2, .ireturn] 54 = true := qck_r (nn_ _) (by decide +kernel)
theorem bs_X11_fairOf_52 {P : Zt → Option Zv → Prop} (K : Int → Zl → List Zv → Zt → Prop) : sx_ K P [.iload 2, .ireturn] 54 = x_iload 2 (x_ireturn P) := ((xe_iload 2).trans (congrArg (x_iload 2) (xe_ireturn)))
theorem bk_X11_fairOf_42 : ck_ fX11 (some .int) cX11_fairOf 42 [.iconst 0, .iadd, .iadd, .istore 2, .iinc 3 1, .goto 7] 52 = true := qck_r (nn_ _) (by decide +kernel)
theorem bs_X11_fairOf_42 {P : Zt → Option Zv → Prop} (K : Int → Zl → List Zv → Zt → Prop) : sx_ K P [.iconst 0, .iadd, .iadd, .istore 2, .iinc 3 1, .goto 7] 52 = x_iconst 0 (x_iadd (x_iadd (x_istore 2 (x_iinc 3 1 (x_goto 7 K))))) := ((xe_iconst 0).trans (congrArg (x_iconst 0) ((xe_iadd).trans (congrArg (x_iadd) ((xe_iadd).trans (congrArg (x_iadd) ((xe_istore 2).trans (congrArg (x_istore 2) ((xe_iinc 3 1).trans (congrArg (x_iinc 3 1) (xe_goto 7)))))))))))
theorem bk_X11_fairOf_43 : ck_ fX11 (some .int) cX11_fairOf 43 [.iadd, .iadd, .istore 2, .iinc 3 1, .goto 7] 52 = true := qck_r (nn_ _) (by decide +kernel)
theorem bs_X11_fairOf_43 {P : Zt → Option Zv → Prop} (K : Int → Zl → List Zv → Zt → Prop) : sx_ K P [.iadd, .iadd, .istore 2, .iinc 3 1, .goto 7] 52 = x_iadd (x_iadd (x_istore 2 (x_iinc 3 1 (x_goto 7 K)))) := ((xe_iadd).trans (congrArg (x_iadd) ((xe_iadd).trans (congrArg (x_iadd) ((xe_istore 2).trans (congrArg (x_istore 2) ((xe_iinc 3 1).trans (congrArg (x_iinc 3 1) (xe_goto 7)))))))))
theorem bk_X11_fairOf_0 : ck_ fX11 (some .int) cX11_fairOf 0 [.iconst 0, .istore 2, .iconst 10, .iload 1, .imul, .istore 3] 7 = true := qck_r (nn_ _) (by decide +kernel)
theorem bs_X11_fairOf_0 {P : Zt → Option Zv → Prop} (K : Int → Zl → List Zv → Zt → Prop) : sx_ K P [.iconst 0, .istore 2, .iconst 10, .iload 1, .imul, .istore 3] 7 = x_iconst 0 (x_istore 2 (x_iconst 10 (x_iload 1 (x_imul (x_istore 3 (K 7)))))) := ((xe_iconst 0).trans (congrArg (x_iconst 0) ((xe_istore 2).trans (congrArg (x_istore 2) ((xe_iconst 10).trans (congrArg (x_iconst 10) ((xe_iload 1).trans (congrArg (x_iload 1) ((xe_imul).trans (congrArg (x_imul) ((xe_istore 3).trans (congrArg (x_istore 3) xe_nil))))))))))))
abbrev po_X11_fairOf (T : Zt) (sh : Int) : Zt → Option Zv → Prop := fun T' r => T = T' ∧ ∃ x : Int, r = some (vI x) ∧ (0 ≤ x ∧ x ≤ 30130)
set_option maxHeartbeats 4000000 in
theorem ct_X11_fairOf {T : Zt} {sh : Int} (h1 : 0 ≤ sh ∧ sh < 800) (hyb : YB_ T) : Ct_ yX11_fairOf zX11_fairOf T [vR 111 0, vI sh] (po_X11_fairOf T sh) := by
  refine ct_of pn_11 rfl rfl (Nat.le_of_ble_eq_true rfl) (fun hT hav => ?_)
  have hr_sh : -2147483648 ≤ sh ∧ sh ≤ 2147483647 := hav (vI sh) (List.mem_cons_of_mem _ List.mem_cons_self)
  have hz : zX11_fairOf.2.2.2.1 = some .boolean → ∀ (T' : Zt) (x : Int), po_X11_fairOf T sh T' (some (vI x)) → 0 ≤ x ∧ x ≤ 1 := fun h => by cases h
  show J_ zX11_fairOf T (po_X11_fairOf T sh) 0 0 0 [some (vR 111 0), some (vI sh), none, none] [] T
  have c_7 : ∀ (nn : Nat) (f : Int) (i : Int), ((10 * sh + 10 - i).toNat) ≤ nn → (10 * sh ≤ i ∧ i ≤ 10 * sh + 10 ∧ 0 ≤ f ∧ f ≤ 3013 * (i - 10 * sh)) → J_ zX11_fairOf T (po_X11_fairOf T sh) 0 0 7 [some (vR 111 0), some (vI sh), some (vI f), some (vI i)] [] T := by
    intro nn
    induction nn using Nat.strongRecOn with
    | _ nn ih_7 =>
      intro f i hm_7 i1
      replace hm_7 := fun (_ : Unit) => hm_7
      refine j_blx (F := fX11) tb_X11 (nn_ _) bk_X11_fairOf_7 bs_X11_fairOf_7 hz (fun K hK => ?_)
      refine rg_i (by omega) ?_
      refine ix_i (by omega) ?_
      intro b1 b1b
      refine rg_i (by omega) ?_
      refine And.intro (fun c2 => ?_) (fun c2 => ?_)
      · refine hK 52 _ [] T ?_
        refine j_blx (F := fX11) tb_X11 (nn_ _) bk_X11_fairOf_52 bs_X11_fairOf_52 hz (fun K hK => ?_)
        refine (show po_X11_fairOf T sh T (some (vI f)) from ?_)
        exact ⟨rfl, _, rfl, by omega⟩
      · have hy := hyb i (by omega) (by omega)
        refine ix_i (by omega) ?_
        intro b3 b3b
        refine ix_i (by omega) ?_
        intro b4 b4b
        refine And.intro (fun c5 => ?_) (fun c5 => ?_)
        · refine hK 42 _ [vI (T 242 0 i), vI f] T ?_
          refine j_blx (F := fX11) tb_X11 (nn_ _) bk_X11_fairOf_42 bs_X11_fairOf_42 hz (fun K hK => ?_)
          refine rg_i (by omega) ?_
          refine rg_i (by omega) ?_
          refine rg_i (by omega) ?_
          refine hK 7 [some (vR 111 0), some (vI sh), some (vI (f + ((T 242 0 i) + 0))), some (vI (i + 1))] [] T ?_
          refine ih_7 _ ?_ (f + ((T 242 0 i) + 0)) (i + 1) (Nat.le_refl _) ?_
          · have hm_7 := hm_7 (); omega
          · omega
        · refine hK 43 [some (vR 111 0), some (vI sh), some (vI f), some (vI i)] [vI 3, vI (T 242 0 i), vI f] T ?_
          refine j_blx (F := fX11) tb_X11 (nn_ _) bk_X11_fairOf_43 bs_X11_fairOf_43 hz (fun K hK => ?_)
          refine rg_i (by omega) ?_
          refine rg_i (by omega) ?_
          refine rg_i (by omega) ?_
          refine hK 7 [some (vR 111 0), some (vI sh), some (vI (f + ((T 242 0 i) + 3))), some (vI (i + 1))] [] T ?_
          refine ih_7 _ ?_ (f + ((T 242 0 i) + 3)) (i + 1) (Nat.le_refl _) ?_
          · have hm_7 := hm_7 (); omega
          · omega
  refine j_blx (F := fX11) tb_X11 (nn_ _) bk_X11_fairOf_0 bs_X11_fairOf_0 hz (fun K hK => ?_)
  refine rg_i (by omega) ?_
  refine hK 7 [some (vR 111 0), some (vI sh), some (vI 0), some (vI (10 * sh))] [] T ?_
  refine c_7 _ 0 (10 * sh) (Nat.le_refl _) ?_
  · omega
abbrev cX11_tellAll : ByteArray := prog_13_method_84_code
def yX11_tellAll : MethodName := ⟨RX11, "tellAll", "(II)V"⟩
def zX11_tellAll : Zm := (RX11, cX11_tellAll, 4, none, { frames := 2, cells := 0, slots := 0, locals := 47 })
theorem bk_X11_tellAll_190 : ck_ fX11 none cX11_tellAll 190 [.iload 3, .aload 0, .tableswitch 0 11 24 #[], .if_icmp .ge 254, .aload 0, .tableswitch 0 11 76 #[], .iconst 9, .aload 0, .tableswitch 0 11 26 #[], .iload 3, .iaload, .imul, .iconst 6, .iadd, .dup2, .iaload, .aload 0, .tableswitch 0 11 25 #[], .iload 3, .iaload, .iload 1, .if_icmp .ne 245, .aload 0, .tableswitch 0 11 28 #[], .iload 3, .iaload, .iload 2, .if_icmp .gt 245, .aload 0, .tableswitch 0 11 27 #[], .iload 3, .iaload, .goto 246] 245 = true := qck_r (nn_ _) (by decide +kernel)
theorem bs_X11_tellAll_190 {P : Zt → Option Zv → Prop} (K : Int → Zl → List Zv → Zt → Prop) : sx_ K P [.iload 3, .aload 0, .tableswitch 0 11 24 #[], .if_icmp .ge 254, .aload 0, .tableswitch 0 11 76 #[], .iconst 9, .aload 0, .tableswitch 0 11 26 #[], .iload 3, .iaload, .imul, .iconst 6, .iadd, .dup2, .iaload, .aload 0, .tableswitch 0 11 25 #[], .iload 3, .iaload, .iload 1, .if_icmp .ne 245, .aload 0, .tableswitch 0 11 28 #[], .iload 3, .iaload, .iload 2, .if_icmp .gt 245, .aload 0, .tableswitch 0 11 27 #[], .iload 3, .iaload, .goto 246] 245 = x_iload 3 (x_aload 0 (x_g0 111 24 0 50 (x_if_icmp .ge 254 K (x_aload 0 (x_g1 111 276 (x_iconst 9 (x_aload 0 (x_g1 111 226 (x_iload 3 (x_iaload (x_imul (x_iconst 6 (x_iadd (x_dup2 (x_iaload (x_aload 0 (x_g1 111 225 (x_iload 3 (x_iaload (x_iload 1 (x_if_icmp .ne 245 K (x_aload 0 (x_g1 111 228 (x_iload 3 (x_iaload (x_iload 2 (x_if_icmp .gt 245 K (x_aload 0 (x_g1 111 227 (x_iload 3 (x_iaload (x_goto 246 K)))))))))))))))))))))))))))))))) := ((xe_iload 3).trans (congrArg (x_iload 3) ((xe_aload 0).trans (congrArg (x_aload 0) ((xe_g0 (kk := 111) rfl tl_11_24).trans (congrArg (x_g0 111 24 0 50) ((xe_if_icmp .ge 254).trans (congrArg (x_if_icmp .ge 254 K) ((xe_aload 0).trans (congrArg (x_aload 0) ((xe_g1 (kk := 111) rfl tl_11_76).trans (congrArg (x_g1 111 276) ((xe_iconst 9).trans (congrArg (x_iconst 9) ((xe_aload 0).trans (congrArg (x_aload 0) ((xe_g1 (kk := 111) rfl tl_11_26).trans (congrArg (x_g1 111 226) ((xe_iload 3).trans (congrArg (x_iload 3) ((xe_iaload).trans (congrArg (x_iaload) ((xe_imul).trans (congrArg (x_imul) ((xe_iconst 6).trans (congrArg (x_iconst 6) ((xe_iadd).trans (congrArg (x_iadd) ((xe_dup2).trans (congrArg (x_dup2) ((xe_iaload).trans (congrArg (x_iaload) ((xe_aload 0).trans (congrArg (x_aload 0) ((xe_g1 (kk := 111) rfl tl_11_25).trans (congrArg (x_g1 111 225) ((xe_iload 3).trans (congrArg (x_iload 3) ((xe_iaload).trans (congrArg (x_iaload) ((xe_iload 1).trans (congrArg (x_iload 1) ((xe_if_icmp .ne 245).trans (congrArg (x_if_icmp .ne 245 K) ((xe_aload 0).trans (congrArg (x_aload 0) ((xe_g1 (kk := 111) rfl tl_11_28).trans (congrArg (x_g1 111 228) ((xe_iload 3).trans (congrArg (x_iload 3) ((xe_iaload).trans (congrArg (x_iaload) ((xe_iload 2).trans (congrArg (x_iload 2) ((xe_if_icmp .gt 245).trans (congrArg (x_if_icmp .gt 245 K) ((xe_aload 0).trans (congrArg (x_aload 0) ((xe_g1 (kk := 111) rfl tl_11_27).trans (congrArg (x_g1 111 227) ((xe_iload 3).trans (congrArg (x_iload 3) ((xe_iaload).trans (congrArg (x_iaload) (xe_goto 246)))))))))))))))))))))))))))))))))))))))))))))))))))))))))))))))))
theorem bk_X11_tellAll_254 : ck_ fX11 none cX11_tellAll 254 [.return_] 255 = true := qck_r (nn_ _) (by decide +kernel)
theorem bs_X11_tellAll_254 {P : Zt → Option Zv → Prop} (K : Int → Zl → List Zv → Zt → Prop) : sx_ K P [.return_] 255 = x_return_ P := (xe_return_)
theorem bk_X11_tellAll_245 : ck_ fX11 none cX11_tellAll 245 [.iconst 0, .isub, .iastore, .iinc 3 1, .goto 190] 254 = true := qck_r (nn_ _) (by decide +kernel)
theorem bs_X11_tellAll_245 {P : Zt → Option Zv → Prop} (K : Int → Zl → List Zv → Zt → Prop) : sx_ K P [.iconst 0, .isub, .iastore, .iinc 3 1, .goto 190] 254 = x_iconst 0 (x_isub (x_iastore (x_iinc 3 1 (x_goto 190 K)))) := ((xe_iconst 0).trans (congrArg (x_iconst 0) ((xe_isub).trans (congrArg (x_isub) ((xe_iastore).trans (congrArg (x_iastore) ((xe_iinc 3 1).trans (congrArg (x_iinc 3 1) (xe_goto 190)))))))))
theorem bk_X11_tellAll_246 : ck_ fX11 none cX11_tellAll 246 [.isub, .iastore, .iinc 3 1, .goto 190] 254 = true := qck_r (nn_ _) (by decide +kernel)
theorem bs_X11_tellAll_246 {P : Zt → Option Zv → Prop} (K : Int → Zl → List Zv → Zt → Prop) : sx_ K P [.isub, .iastore, .iinc 3 1, .goto 190] 254 = x_isub (x_iastore (x_iinc 3 1 (x_goto 190 K))) := ((xe_isub).trans (congrArg (x_isub) ((xe_iastore).trans (congrArg (x_iastore) ((xe_iinc 3 1).trans (congrArg (x_iinc 3 1) (xe_goto 190)))))))
theorem bk_X11_tellAll_182 : ck_ fX11 none cX11_tellAll 182 [.iinc 3 1, .goto 28] 188 = true := qck_r (nn_ _) (by decide +kernel)
theorem bs_X11_tellAll_182 {P : Zt → Option Zv → Prop} (K : Int → Zl → List Zv → Zt → Prop) : sx_ K P [.iinc 3 1, .goto 28] 188 = x_iinc 3 1 (x_goto 28 K) := ((xe_iinc 3 1).trans (congrArg (x_iinc 3 1) (xe_goto 28)))
theorem bk_X11_tellAll_28 : ck_ fX11 none cX11_tellAll 28 [.iload 3, .aload 0, .tableswitch 0 11 10 #[], .iload 1, .iaload, .aload 0, .tableswitch 0 11 11 #[], .iload 1, .iaload, .iadd, .if_icmp .ge 188, .aload 0, .iload 3, .iload 2] 48 = true := qck_r (nn_ _) (by decide +kernel)
theorem bs_X11_tellAll_28 {P : Zt → Option Zv → Prop} (K : Int → Zl → List Zv → Zt → Prop) : sx_ K P [.iload 3, .aload 0, .tableswitch 0 11 10 #[], .iload 1, .iaload, .aload 0, .tableswitch 0 11 11 #[], .iload 1, .iaload, .iadd, .if_icmp .ge 188, .aload 0, .iload 3, .iload 2] 48 = x_iload 3 (x_aload 0 (x_g1 111 210 (x_iload 1 (x_iaload (x_aload 0 (x_g1 111 211 (x_iload 1 (x_iaload (x_iadd (x_if_icmp .ge 188 K (x_aload 0 (x_iload 3 (x_iload 2 (K 48)))))))))))))) := ((xe_iload 3).trans (congrArg (x_iload 3) ((xe_aload 0).trans (congrArg (x_aload 0) ((xe_g1 (kk := 111) rfl tl_11_10).trans (congrArg (x_g1 111 210) ((xe_iload 1).trans (congrArg (x_iload 1) ((xe_iaload).trans (congrArg (x_iaload) ((xe_aload 0).trans (congrArg (x_aload 0) ((xe_g1 (kk := 111) rfl tl_11_11).trans (congrArg (x_g1 111 211) ((xe_iload 1).trans (congrArg (x_iload 1) ((xe_iaload).trans (congrArg (x_iaload) ((xe_iadd).trans (congrArg (x_iadd) ((xe_if_icmp .ge 188).trans (congrArg (x_if_icmp .ge 188 K) ((xe_aload 0).trans (congrArg (x_aload 0) ((xe_iload 3).trans (congrArg (x_iload 3) ((xe_iload 2).trans (congrArg (x_iload 2) xe_nil))))))))))))))))))))))))))))
theorem bk_X11_tellAll_188 : ck_ fX11 none cX11_tellAll 188 [.iconst 0, .istore 3] 190 = true := qck_r (nn_ _) (by decide +kernel)
theorem bs_X11_tellAll_188 {P : Zt → Option Zv → Prop} (K : Int → Zl → List Zv → Zt → Prop) : sx_ K P [.iconst 0, .istore 3] 190 = x_iconst 0 (x_istore 3 (K 190)) := ((xe_iconst 0).trans (congrArg (x_iconst 0) ((xe_istore 3).trans (congrArg (x_istore 3) xe_nil))))
set_option maxRecDepth 100000 in
theorem cl_X11_487 : cv_ RX11 487 yX11_counts zX11_counts 11 2 := ⟨gi_V (lwq_9 (dqc_m (dqc_m (dqc_m (dqc_m (dqc_m (dqa_m (List.mem_of_getElem? (i := 2) rfl))))))) rfl : Cond.methodLink RX11 487 yX11_counts ∈ lw_g) (lwq_9 (dqc_m (dqc_m (dqc_m (dqc_m (dqc_m (dqa_m (List.mem_of_getElem? (i := 4) rfl))))))) rfl : Cond.instanceMethod yX11_counts ∈ lw_g) (lw_sel 15 rfl : Cond.selects yX11_counts.cls yX11_counts yX11_counts ∈ lw_g) (lwq_1 (dqa_m (List.mem_of_getElem? (i := 2) rfl)) rfl : Cond.initialized yX11_counts.cls ∈ lw_g) (lwq_9 (dqc_m (dqc_m (dqc_m (dqc_m (dqc_m (dqa_m (List.mem_of_getElem? (i := 5) rfl))))))) rfl : Cond.code yX11_counts cX11_counts 3 (some .boolean) ∈ lw_g), ⟨nmh_1.1, nmh_1.2, pdq_5⟩, ⟨_, _, rfl⟩⟩
theorem bk_X11_tellAll_51 : ck_ fX11 none cX11_tellAll 51 [.ifCond .eq 182, .aload 0, .iload 1, .aload 0, .tableswitch 0 11 32 #[], .iload 3, .iaload, .aload 0, .tableswitch 0 11 82 #[], .aload 0, .tableswitch 0 11 83 #[]] 70 = true := qck_r (nn_ _) (by decide +kernel)
theorem bs_X11_tellAll_51 {P : Zt → Option Zv → Prop} (K : Int → Zl → List Zv → Zt → Prop) : sx_ K P [.ifCond .eq 182, .aload 0, .iload 1, .aload 0, .tableswitch 0 11 32 #[], .iload 3, .iaload, .aload 0, .tableswitch 0 11 82 #[], .aload 0, .tableswitch 0 11 83 #[]] 70 = x_ifCond .eq 182 K (x_aload 0 (x_iload 1 (x_aload 0 (x_g1 111 232 (x_iload 3 (x_iaload (x_aload 0 (x_g0 111 82 (-2147483648) 2147483647 (x_aload 0 (x_g0 111 83 (-2147483648) 2147483647 (K 70))))))))))) := ((xe_ifCond .eq 182).trans (congrArg (x_ifCond .eq 182 K) ((xe_aload 0).trans (congrArg (x_aload 0) ((xe_iload 1).trans (congrArg (x_iload 1) ((xe_aload 0).trans (congrArg (x_aload 0) ((xe_g1 (kk := 111) rfl tl_11_32).trans (congrArg (x_g1 111 232) ((xe_iload 3).trans (congrArg (x_iload 3) ((xe_iaload).trans (congrArg (x_iaload) ((xe_aload 0).trans (congrArg (x_aload 0) ((xe_g0 (kk := 111) rfl tl_11_82).trans (congrArg (x_g0 111 82 (-2147483648) 2147483647) ((xe_aload 0).trans (congrArg (x_aload 0) ((xe_g0 (kk := 111) rfl tl_11_83).trans (congrArg (x_g0 111 83 (-2147483648) 2147483647) xe_nil))))))))))))))))))))))
set_option maxRecDepth 100000 in
theorem cl_X11_490 : cv_ RX11 490 yX11_tellResult zX11_tellResult 11 4 := ⟨gi_V (lwq_9 (dqc_m (dqc_m (dqc_m (dqc_m (dqc_m (dqa_m (List.mem_of_getElem? (i := 6) rfl))))))) rfl : Cond.methodLink RX11 490 yX11_tellResult ∈ lw_g) (lwq_9 (dqc_m (dqc_m (dqc_m (dqc_m (dqc_m (dqa_m (dqa_m (List.mem_of_getElem? (i := 0) rfl)))))))) rfl : Cond.instanceMethod yX11_tellResult ∈ lw_g) (lw_sel 75 rfl : Cond.selects yX11_tellResult.cls yX11_tellResult yX11_tellResult ∈ lw_g) (lwq_1 (dqa_m (List.mem_of_getElem? (i := 2) rfl)) rfl : Cond.initialized yX11_tellResult.cls ∈ lw_g) (lwq_9 (dqc_m (dqc_m (dqc_m (dqc_m (dqc_m (dqa_m (dqa_m (List.mem_of_getElem? (i := 1) rfl)))))))) rfl : Cond.code yX11_tellResult cX11_tellResult 6 none ∈ lw_g), ⟨nmh_1.1, nmh_1.2, pdq_12⟩, ⟨_, _, rfl⟩⟩
theorem bk_X11_tellAll_73 : ck_ fX11 none cX11_tellAll 73 [.aload 0, .iload 1, .aload 0, .tableswitch 0 11 33 #[], .iload 3, .iaload, .aload 0, .tableswitch 0 11 83 #[], .aload 0, .tableswitch 0 11 82 #[]] 89 = true := qck_r (nn_ _) (by decide +kernel)
theorem bs_X11_tellAll_73 {P : Zt → Option Zv → Prop} (K : Int → Zl → List Zv → Zt → Prop) : sx_ K P [.aload 0, .iload 1, .aload 0, .tableswitch 0 11 33 #[], .iload 3, .iaload, .aload 0, .tableswitch 0 11 83 #[], .aload 0, .tableswitch 0 11 82 #[]] 89 = x_aload 0 (x_iload 1 (x_aload 0 (x_g1 111 233 (x_iload 3 (x_iaload (x_aload 0 (x_g0 111 83 (-2147483648) 2147483647 (x_aload 0 (x_g0 111 82 (-2147483648) 2147483647 (K 89)))))))))) := ((xe_aload 0).trans (congrArg (x_aload 0) ((xe_iload 1).trans (congrArg (x_iload 1) ((xe_aload 0).trans (congrArg (x_aload 0) ((xe_g1 (kk := 111) rfl tl_11_33).trans (congrArg (x_g1 111 233) ((xe_iload 3).trans (congrArg (x_iload 3) ((xe_iaload).trans (congrArg (x_iaload) ((xe_aload 0).trans (congrArg (x_aload 0) ((xe_g0 (kk := 111) rfl tl_11_83).trans (congrArg (x_g0 111 83 (-2147483648) 2147483647) ((xe_aload 0).trans (congrArg (x_aload 0) ((xe_g0 (kk := 111) rfl tl_11_82).trans (congrArg (x_g0 111 82 (-2147483648) 2147483647) xe_nil))))))))))))))))))))
theorem bk_X11_tellAll_92 : ck_ fX11 none cX11_tellAll 92 [.aload 0, .tableswitch 0 11 76 #[], .iconst 9, .aload 0, .tableswitch 0 11 33 #[], .iload 3, .iaload, .imul, .iconst 7, .iadd, .dup2, .iaload, .aload 0, .tableswitch 0 11 83 #[], .iadd, .iastore, .aload 0, .tableswitch 0 11 35 #[], .iload 3, .iaload, .iconst 2, .if_icmp .ne 182, .aload 0, .tableswitch 0 11 76 #[], .iconst 9, .aload 0, .tableswitch 0 11 32 #[], .iload 3, .iaload, .imul, .iconst 8, .iadd, .dup2, .iaload, .aload 0, .iconst 2, .iload 3, .imul] 148 = true := qck_r (nn_ _) (by decide +kernel)
theorem bs_X11_tellAll_92 {P : Zt → Option Zv → Prop} (K : Int → Zl → List Zv → Zt → Prop) : sx_ K P [.aload 0, .tableswitch 0 11 76 #[], .iconst 9, .aload 0, .tableswitch 0 11 33 #[], .iload 3, .iaload, .imul, .iconst 7, .iadd, .dup2, .iaload, .aload 0, .tableswitch 0 11 83 #[], .iadd, .iastore, .aload 0, .tableswitch 0 11 35 #[], .iload 3, .iaload, .iconst 2, .if_icmp .ne 182, .aload 0, .tableswitch 0 11 76 #[], .iconst 9, .aload 0, .tableswitch 0 11 32 #[], .iload 3, .iaload, .imul, .iconst 8, .iadd, .dup2, .iaload, .aload 0, .iconst 2, .iload 3, .imul] 148 = x_aload 0 (x_g1 111 276 (x_iconst 9 (x_aload 0 (x_g1 111 233 (x_iload 3 (x_iaload (x_imul (x_iconst 7 (x_iadd (x_dup2 (x_iaload (x_aload 0 (x_g0 111 83 (-2147483648) 2147483647 (x_iadd (x_iastore (x_aload 0 (x_g1 111 235 (x_iload 3 (x_iaload (x_iconst 2 (x_if_icmp .ne 182 K (x_aload 0 (x_g1 111 276 (x_iconst 9 (x_aload 0 (x_g1 111 232 (x_iload 3 (x_iaload (x_imul (x_iconst 8 (x_iadd (x_dup2 (x_iaload (x_aload 0 (x_iconst 2 (x_iload 3 (x_imul (K 148)))))))))))))))))))))))))))))))))))))) := ((xe_aload 0).trans (congrArg (x_aload 0) ((xe_g1 (kk := 111) rfl tl_11_76).trans (congrArg (x_g1 111 276) ((xe_iconst 9).trans (congrArg (x_iconst 9) ((xe_aload 0).trans (congrArg (x_aload 0) ((xe_g1 (kk := 111) rfl tl_11_33).trans (congrArg (x_g1 111 233) ((xe_iload 3).trans (congrArg (x_iload 3) ((xe_iaload).trans (congrArg (x_iaload) ((xe_imul).trans (congrArg (x_imul) ((xe_iconst 7).trans (congrArg (x_iconst 7) ((xe_iadd).trans (congrArg (x_iadd) ((xe_dup2).trans (congrArg (x_dup2) ((xe_iaload).trans (congrArg (x_iaload) ((xe_aload 0).trans (congrArg (x_aload 0) ((xe_g0 (kk := 111) rfl tl_11_83).trans (congrArg (x_g0 111 83 (-2147483648) 2147483647) ((xe_iadd).trans (congrArg (x_iadd) ((xe_iastore).trans (congrArg (x_iastore) ((xe_aload 0).trans (congrArg (x_aload 0) ((xe_g1 (kk := 111) rfl tl_11_35).trans (congrArg (x_g1 111 235) ((xe_iload 3).trans (congrArg (x_iload 3) ((xe_iaload).trans (congrArg (x_iaload) ((xe_iconst 2).trans (congrArg (x_iconst 2) ((xe_if_icmp .ne 182).trans (congrArg (x_if_icmp .ne 182 K) ((xe_aload 0).trans (congrArg (x_aload 0) ((xe_g1 (kk := 111) rfl tl_11_76).trans (congrArg (x_g1 111 276) ((xe_iconst 9).trans (congrArg (x_iconst 9) ((xe_aload 0).trans (congrArg (x_aload 0) ((xe_g1 (kk := 111) rfl tl_11_32).trans (congrArg (x_g1 111 232) ((xe_iload 3).trans (congrArg (x_iload 3) ((xe_iaload).trans (congrArg (x_iaload) ((xe_imul).trans (congrArg (x_imul) ((xe_iconst 8).trans (congrArg (x_iconst 8) ((xe_iadd).trans (congrArg (x_iadd) ((xe_dup2).trans (congrArg (x_dup2) ((xe_iaload).trans (congrArg (x_iaload) ((xe_aload 0).trans (congrArg (x_aload 0) ((xe_iconst 2).trans (congrArg (x_iconst 2) ((xe_iload 3).trans (congrArg (x_iload 3) ((xe_imul).trans (congrArg (x_imul) xe_nil))))))))))))))))))))))))))))))))))))))))))))))))))))))))))))))))))))))))))))
set_option maxRecDepth 100000 in
theorem cl_X11_493 : cv_ RX11 493 yX11_fairOf zX11_fairOf 11 1 := ⟨gi_V (lwq_9 (dqc_m (dqc_m (dqc_m (dqc_m (dqc_m (dqa_m (dqa_m (List.mem_of_getElem? (i := 2) rfl)))))))) rfl : Cond.methodLink RX11 493 yX11_fairOf ∈ lw_g) (lwq_9 (dqc_m (dqc_m (dqc_m (dqc_m (dqc_m (dqa_m (dqa_m (List.mem_of_getElem? (i := 4) rfl)))))))) rfl : Cond.instanceMethod yX11_fairOf ∈ lw_g) (lw_sel 17 rfl : Cond.selects yX11_fairOf.cls yX11_fairOf yX11_fairOf ∈ lw_g) (lwq_1 (dqa_m (List.mem_of_getElem? (i := 2) rfl)) rfl : Cond.initialized yX11_fairOf.cls ∈ lw_g) (lwq_9 (dqc_m (dqc_m (dqc_m (dqc_m (dqc_m (dqa_m (dqa_m (List.mem_of_getElem? (i := 5) rfl)))))))) rfl : Cond.code yX11_fairOf cX11_fairOf 4 (some .int) ∈ lw_g), ⟨nmh_1.1, nmh_1.2, pdq_15⟩, ⟨_, _, rfl⟩⟩
theorem bk_X11_tellAll_151 : ck_ fX11 none cX11_tellAll 151 [.iadd, .iastore, .aload 0, .tableswitch 0 11 76 #[], .iconst 9, .aload 0, .tableswitch 0 11 33 #[], .iload 3, .iaload, .imul, .iconst 8, .iadd, .dup2, .iaload, .aload 0, .iconst 2, .iload 3, .imul, .iconst 1, .iadd] 177 = true := qck_r (nn_ _) (by decide +kernel)
theorem bs_X11_tellAll_151 {P : Zt → Option Zv → Prop} (K : Int → Zl → List Zv → Zt → Prop) : sx_ K P [.iadd, .iastore, .aload 0, .tableswitch 0 11 76 #[], .iconst 9, .aload 0, .tableswitch 0 11 33 #[], .iload 3, .iaload, .imul, .iconst 8, .iadd, .dup2, .iaload, .aload 0, .iconst 2, .iload 3, .imul, .iconst 1, .iadd] 177 = x_iadd (x_iastore (x_aload 0 (x_g1 111 276 (x_iconst 9 (x_aload 0 (x_g1 111 233 (x_iload 3 (x_iaload (x_imul (x_iconst 8 (x_iadd (x_dup2 (x_iaload (x_aload 0 (x_iconst 2 (x_iload 3 (x_imul (x_iconst 1 (x_iadd (K 177)))))))))))))))))))) := ((xe_iadd).trans (congrArg (x_iadd) ((xe_iastore).trans (congrArg (x_iastore) ((xe_aload 0).trans (congrArg (x_aload 0) ((xe_g1 (kk := 111) rfl tl_11_76).trans (congrArg (x_g1 111 276) ((xe_iconst 9).trans (congrArg (x_iconst 9) ((xe_aload 0).trans (congrArg (x_aload 0) ((xe_g1 (kk := 111) rfl tl_11_33).trans (congrArg (x_g1 111 233) ((xe_iload 3).trans (congrArg (x_iload 3) ((xe_iaload).trans (congrArg (x_iaload) ((xe_imul).trans (congrArg (x_imul) ((xe_iconst 8).trans (congrArg (x_iconst 8) ((xe_iadd).trans (congrArg (x_iadd) ((xe_dup2).trans (congrArg (x_dup2) ((xe_iaload).trans (congrArg (x_iaload) ((xe_aload 0).trans (congrArg (x_aload 0) ((xe_iconst 2).trans (congrArg (x_iconst 2) ((xe_iload 3).trans (congrArg (x_iload 3) ((xe_imul).trans (congrArg (x_imul) ((xe_iconst 1).trans (congrArg (x_iconst 1) ((xe_iadd).trans (congrArg (x_iadd) xe_nil))))))))))))))))))))))))))))))))))))))))
theorem bk_X11_tellAll_180 : ck_ fX11 none cX11_tellAll 180 [.iadd, .iastore] 182 = true := qck_r (nn_ _) (by decide +kernel)
theorem bs_X11_tellAll_180 {P : Zt → Option Zv → Prop} (K : Int → Zl → List Zv → Zt → Prop) : sx_ K P [.iadd, .iastore] 182 = x_iadd (x_iastore (K 182)) := ((xe_iadd).trans (congrArg (x_iadd) ((xe_iastore).trans (congrArg (x_iastore) xe_nil))))
theorem bk_X11_tellAll_2 : ck_ fX11 none cX11_tellAll 2 [.iload 3, .iconst 108, .if_icmp .ge 21, .aload 0, .tableswitch 0 11 76 #[], .iload 3, .iconst 0, .iastore, .iinc 3 1, .goto 2] 21 = true := qck_r (nn_ _) (by decide +kernel)
theorem bs_X11_tellAll_2 {P : Zt → Option Zv → Prop} (K : Int → Zl → List Zv → Zt → Prop) : sx_ K P [.iload 3, .iconst 108, .if_icmp .ge 21, .aload 0, .tableswitch 0 11 76 #[], .iload 3, .iconst 0, .iastore, .iinc 3 1, .goto 2] 21 = x_iload 3 (x_iconst 108 (x_if_icmp .ge 21 K (x_aload 0 (x_g1 111 276 (x_iload 3 (x_iconst 0 (x_iastore (x_iinc 3 1 (x_goto 2 K))))))))) := ((xe_iload 3).trans (congrArg (x_iload 3) ((xe_iconst 108).trans (congrArg (x_iconst 108) ((xe_if_icmp .ge 21).trans (congrArg (x_if_icmp .ge 21 K) ((xe_aload 0).trans (congrArg (x_aload 0) ((xe_g1 (kk := 111) rfl tl_11_76).trans (congrArg (x_g1 111 276) ((xe_iload 3).trans (congrArg (x_iload 3) ((xe_iconst 0).trans (congrArg (x_iconst 0) ((xe_iastore).trans (congrArg (x_iastore) ((xe_iinc 3 1).trans (congrArg (x_iinc 3 1) (xe_goto 2)))))))))))))))))))
theorem bk_X11_tellAll_21 : ck_ fX11 none cX11_tellAll 21 [.aload 0, .tableswitch 0 11 10 #[], .iload 1, .iaload, .istore 3] 28 = true := qck_r (nn_ _) (by decide +kernel)
theorem bs_X11_tellAll_21 {P : Zt → Option Zv → Prop} (K : Int → Zl → List Zv → Zt → Prop) : sx_ K P [.aload 0, .tableswitch 0 11 10 #[], .iload 1, .iaload, .istore 3] 28 = x_aload 0 (x_g1 111 210 (x_iload 1 (x_iaload (x_istore 3 (K 28))))) := ((xe_aload 0).trans (congrArg (x_aload 0) ((xe_g1 (kk := 111) rfl tl_11_10).trans (congrArg (x_g1 111 210) ((xe_iload 1).trans (congrArg (x_iload 1) ((xe_iaload).trans (congrArg (x_iaload) ((xe_istore 3).trans (congrArg (x_istore 3) xe_nil))))))))))
theorem bk_X11_tellAll_0 : ck_ fX11 none cX11_tellAll 0 [.iconst 0, .istore 3] 2 = true := qck_r (nn_ _) (by decide +kernel)
theorem bs_X11_tellAll_0 {P : Zt → Option Zv → Prop} (K : Int → Zl → List Zv → Zt → Prop) : sx_ K P [.iconst 0, .istore 3] 2 = x_iconst 0 (x_istore 3 (K 2)) := ((xe_iconst 0).trans (congrArg (x_iconst 0) ((xe_istore 3).trans (congrArg (x_istore 3) xe_nil))))
abbrev po_X11_tellAll (T : Zt) (c d : Int) : Zt → Option Zv → Prop := fun T' r => r = none ∧ fr_ [(276, []), (111, [82, 83])] T T' ∧ (TB_ T' 150000000)
set_option maxHeartbeats 4000000 in
theorem ct_X11_tellAll {T : Zt} {c d : Int} (h1 : 0 ≤ c ∧ c < 4) (hml : ML_ T) (hsc : SC_ T) (hyb : YB_ T) : Ct_ yX11_tellAll zX11_tellAll T [vR 111 0, vI c, vI d] (po_X11_tellAll T c d) := by
  refine ct_of pn_11 rfl rfl (Nat.le_of_ble_eq_true rfl) (fun hT hav => ?_)
  have hr_c : -2147483648 ≤ c ∧ c ≤ 2147483647 := hav (vI c) (List.mem_cons_of_mem _ List.mem_cons_self)
  have hr_d : -2147483648 ≤ d ∧ d ≤ 2147483647 := hav (vI d) (List.mem_cons_of_mem _ (List.mem_cons_of_mem _ List.mem_cons_self))
  have hz : zX11_tellAll.2.2.2.1 = some .boolean → ∀ (T' : Zt) (x : Int), po_X11_tellAll T c d T' (some (vI x)) → 0 ≤ x ∧ x ≤ 1 := fun h => by cases h
  have hb_29 : 0 ≤ T 111 0 29 ∧ T 111 0 29 ≤ 400 := bd_f hT 111 29 tl_11_29 0
  have hb_24 : 0 ≤ T 111 0 24 ∧ T 111 0 24 ≤ 50 := bd_f hT 111 24 tl_11_24 0
  have hmc := hml c (by omega) (by omega)
  have hfo : 0 ≤ T 210 0 c ∧ T 210 0 c ≤ 400 := bd_a hT 210 (by decide +kernel : ta_ 210 = some (1, some 4, 0, 400)) 0 (by omega)
  show J_ zX11_tellAll T (po_X11_tellAll T c d) 0 0 0 [some (vR 111 0), some (vI c), some (vI d), none] [] T
  have c_190 : ∀ (nn : Nat) (i : Int) (T4 : Zt), ((50 - i).toNat) ≤ nn → (fr_ [(276, []), (111, [82, 83])] T T4) → (TB_ T4 (144800000 + 20000 * i)) → (0 ≤ i ∧ i ≤ 50) → J_ zX11_tellAll T (po_X11_tellAll T c d) 0 0 190 [some (vR 111 0), some (vI c), some (vI d), some (vI i)] [] T4 := by
    intro nn
    induction nn using Nat.strongRecOn with
    | _ nn ih_190 =>
      intro i T4 hm_190 hf_190 tb4 i4
      replace hm_190 := fun (_ : Unit) => hm_190
      refine j_blx (F := fX11) tb_X11 (nn_ _) bk_X11_tellAll_190 bs_X11_tellAll_190 hz (fun K hK => ?_)
      intro b1 b1b
      have e2 : T4 111 0 24 = T 111 0 24 := hf_190 111 0 24 rfl
      rw [e2] at b1 b1b ⊢
      refine And.intro (fun c3 => ?_) (fun c3 => ?_)
      · refine hK 254 _ [] T4 ?_
        refine j_blx (F := fX11) tb_X11 (nn_ _) bk_X11_tellAll_254 bs_X11_tellAll_254 hz (fun K hK => ?_)
        refine (show po_X11_tellAll T c d T4 (none) from ?_)
        exact ⟨rfl, fr_t (fr_0 _ _) (fr_s hf_190 rfl), tb_m tb4 (by omega)⟩
      · refine ix_i (by omega) ?_
        intro b4 b4b
        have e5 : T4 226 0 i = T 226 0 i := hf_190 226 0 i rfl
        rw [e5] at b4 b4b ⊢
        refine rg_i (by omega) ?_
        refine rg_i (by omega) ?_
        refine ix_i (by omega) ?_
        intro b6 b6b
        refine ix_i (by omega) ?_
        intro b7 b7b
        have e8 : T4 225 0 i = T 225 0 i := hf_190 225 0 i rfl
        rw [e8] at b7 b7b ⊢
        refine And.intro (fun c9 => ?_) (fun c9 => ?_)
        · refine hK 245 _ [vI (T4 276 0 ((9 * (T 226 0 i)) + 6)), vI ((9 * (T 226 0 i)) + 6), vR 276 0] T4 ?_
          refine j_blx (F := fX11) tb_X11 (nn_ _) bk_X11_tellAll_245 bs_X11_tellAll_245 hz (fun K hK => ?_)
          have t10 : -(144800000 + 20000 * i) ≤ T4 276 0 ((9 * (T 226 0 i)) + 6) ∧ T4 276 0 ((9 * (T 226 0 i)) + 6) ≤ 144800000 + 20000 * i ∧ (((9 * (T 226 0 i)) + 6) % 9 = 6 → -(144800000 + 20000 * i) ≤ 20 * (T4 276 0 ((9 * (T 226 0 i)) + 6)) ∧ 20 * (T4 276 0 ((9 * (T 226 0 i)) + 6)) ≤ 144800000 + 20000 * i) := (tb4) ((9 * (T 226 0 i)) + 6) (by omega) (by omega)
          refine rg_i (by omega) ?_
          refine iy_i (by omega) (by omega) ?_
          refine x_nm (fun U11 hU11 => ?_)
          have e12 := up_f hU11
          refine rg_i (by omega) ?_
          refine hK 190 [some (vR 111 0), some (vI c), some (vI d), some (vI (i + 1))] [] U11 ?_
          refine ih_190 _ ?_ (i + 1) U11 (Nat.le_refl _) ?_ ?_ ?_
          · have hm_190 := hm_190 (); omega
          · exact fr_u (fr_t (fr_0 _ _) (fr_s hf_190 rfl)) hU11 rfl
          · exact tb_m (tb_u (d := 20000) (tb4) hU11 (by decide) (by omega)) (by omega)
          · omega
        · refine ix_i (by omega) ?_
          intro b13 b13b
          have e14 : T4 228 0 i = T 228 0 i := hf_190 228 0 i rfl
          rw [e14] at b13 b13b ⊢
          refine And.intro (fun c15 => ?_) (fun c15 => ?_)
          · refine hK 245 [some (vR 111 0), some (vI c), some (vI d), some (vI i)] [vI (T4 276 0 ((9 * (T 226 0 i)) + 6)), vI ((9 * (T 226 0 i)) + 6), vR 276 0] T4 ?_
            refine j_blx (F := fX11) tb_X11 (nn_ _) bk_X11_tellAll_245 bs_X11_tellAll_245 hz (fun K hK => ?_)
            have t16 : -(144800000 + 20000 * i) ≤ T4 276 0 ((9 * (T 226 0 i)) + 6) ∧ T4 276 0 ((9 * (T 226 0 i)) + 6) ≤ 144800000 + 20000 * i ∧ (((9 * (T 226 0 i)) + 6) % 9 = 6 → -(144800000 + 20000 * i) ≤ 20 * (T4 276 0 ((9 * (T 226 0 i)) + 6)) ∧ 20 * (T4 276 0 ((9 * (T 226 0 i)) + 6)) ≤ 144800000 + 20000 * i) := (tb4) ((9 * (T 226 0 i)) + 6) (by omega) (by omega)
            refine rg_i (by omega) ?_
            refine iy_i (by omega) (by omega) ?_
            refine x_nm (fun U17 hU17 => ?_)
            have e18 := up_f hU17
            refine rg_i (by omega) ?_
            refine hK 190 [some (vR 111 0), some (vI c), some (vI d), some (vI (i + 1))] [] U17 ?_
            refine ih_190 _ ?_ (i + 1) U17 (Nat.le_refl _) ?_ ?_ ?_
            · have hm_190 := hm_190 (); omega
            · exact fr_u (fr_t (fr_0 _ _) (fr_s hf_190 rfl)) hU17 rfl
            · exact tb_m (tb_u (d := 20000) (tb4) hU17 (by decide) (by omega)) (by omega)
            · omega
          · refine ix_i (by omega) ?_
            intro b19 b19b
            have e20 : T4 227 0 i = T 227 0 i := hf_190 227 0 i rfl
            rw [e20] at b19 b19b ⊢
            refine hK 246 [some (vR 111 0), some (vI c), some (vI d), some (vI i)] [vI (T 227 0 i), vI (T4 276 0 ((9 * (T 226 0 i)) + 6)), vI ((9 * (T 226 0 i)) + 6), vR 276 0] T4 ?_
            refine j_blx (F := fX11) tb_X11 (nn_ _) bk_X11_tellAll_246 bs_X11_tellAll_246 hz (fun K hK => ?_)
            have t21 : -(144800000 + 20000 * i) ≤ T4 276 0 ((9 * (T 226 0 i)) + 6) ∧ T4 276 0 ((9 * (T 226 0 i)) + 6) ≤ 144800000 + 20000 * i ∧ (((9 * (T 226 0 i)) + 6) % 9 = 6 → -(144800000 + 20000 * i) ≤ 20 * (T4 276 0 ((9 * (T 226 0 i)) + 6)) ∧ 20 * (T4 276 0 ((9 * (T 226 0 i)) + 6)) ≤ 144800000 + 20000 * i) := (tb4) ((9 * (T 226 0 i)) + 6) (by omega) (by omega)
            refine rg_i (by omega) ?_
            refine iy_i (by omega) (by omega) ?_
            refine x_nm (fun U22 hU22 => ?_)
            have e23 := up_f hU22
            refine rg_i (by omega) ?_
            refine hK 190 [some (vR 111 0), some (vI c), some (vI d), some (vI (i + 1))] [] U22 ?_
            refine ih_190 _ ?_ (i + 1) U22 (Nat.le_refl _) ?_ ?_ ?_
            · have hm_190 := hm_190 (); omega
            · exact fr_u (fr_t (fr_0 _ _) (fr_s hf_190 rfl)) hU22 rfl
            · exact tb_m (tb_u (d := 20000) (tb4) hU22 (by decide) (by omega)) (by omega)
            · omega
  have c_28 : ∀ (nn : Nat) (m : Int) (T2 : Zt), ((400 - m).toNat) ≤ nn → (fr_ [(276, []), (111, [82, 83])] T T2) → (TB_ T2 (362000 * (m - T 210 0 c))) → (T 210 0 c ≤ m ∧ m ≤ 400) → J_ zX11_tellAll T (po_X11_tellAll T c d) 0 0 28 [some (vR 111 0), some (vI c), some (vI d), some (vI m)] [] T2 := by
    intro nn
    induction nn using Nat.strongRecOn with
    | _ nn ih_28 =>
      intro m T2 hm_28 hf_28 tb2 i2
      replace hm_28 := fun (_ : Unit) => hm_28
      have c_182 : ∀ (T3 : Zt), (fr_ [(276, []), (111, [82, 83])] T T3) → (TB_ T3 (362000 * (m - T 210 0 c) + 362000)) → (m < 400) → J_ zX11_tellAll T (po_X11_tellAll T c d) 0 0 182 [some (vR 111 0), some (vI c), some (vI d), some (vI m)] [] T3 := by
        intro T3 hf_182 tb3 i3
        refine j_blx (F := fX11) tb_X11 (nn_ _) bk_X11_tellAll_182 bs_X11_tellAll_182 hz (fun K hK => ?_)
        refine rg_i (by omega) ?_
        refine hK 28 [some (vR 111 0), some (vI c), some (vI d), some (vI (m + 1))] [] T3 ?_
        refine ih_28 _ ?_ (m + 1) T3 (Nat.le_refl _) ?_ ?_ ?_
        · have hm_28 := hm_28 (); omega
        · exact fr_t (fr_0 _ _) (fr_s hf_182 rfl)
        · exact tb_m (tb3) (by omega)
        · omega
      refine j_blx (F := fX11) tb_X11 (nn_ _) bk_X11_tellAll_28 bs_X11_tellAll_28 hz (fun K hK => ?_)
      refine ix_i (by omega) ?_
      intro b24 b24b
      have e25 : T2 210 0 c = T 210 0 c := hf_28 210 0 c rfl
      rw [e25] at b24 b24b ⊢
      refine ix_i (by omega) ?_
      intro b26 b26b
      have e27 : T2 211 0 c = T 211 0 c := hf_28 211 0 c rfl
      rw [e27] at b26 b26b ⊢
      refine rg_i (by omega) ?_
      refine And.intro (fun c28 => ?_) (fun c28 => ?_)
      · refine hK 188 _ [] T2 ?_
        refine j_blx (F := fX11) tb_X11 (nn_ _) bk_X11_tellAll_188 bs_X11_tellAll_188 hz (fun K hK => ?_)
        refine hK 190 [some (vR 111 0), some (vI c), some (vI d), some (vI 0)] [] T2 ?_
        refine c_190 _ 0 T2 (Nat.le_refl _) ?_ ?_ ?_
        · exact fr_t (fr_0 _ _) (fr_s hf_28 rfl)
        · exact tb_m (tb2) (by omega)
        · omega
      · refine hK 48 [some (vR 111 0), some (vI c), some (vI d), some (vI m)] [vI d, vI m, vR 111 0] T2 ?_
        refine j_callV (y := yX11_counts) (Yc := zX11_counts) (rest := []) [vI m, vI d] (ct_X11_counts (T := T2) (by omega) (SC__f (ws := [(276, []), (111, [82, 83])]) hsc (fr_t (fr_0 _ _) (fr_s hf_28 rfl)) ⟨fun _ => rfl, fun _ => rfl, trivial⟩)) cl_X11_487 (qd_c (by decide +kernel)) (nn_ _) rfl (rf_of rfl) (Nat.le_of_ble_eq_true rfl) (Nat.le_of_ble_eq_true rfl) (Nat.le_of_ble_eq_true rfl) rfl ?_
        rintro U29 _ ⟨x30, rfl, fU29, qU29⟩
        show J_ zX11_tellAll T (po_X11_tellAll T c d) 0 0 51 _ [vI x30] U29
        refine j_blx (F := fX11) tb_X11 (nn_ _) bk_X11_tellAll_51 bs_X11_tellAll_51 hz (fun K hK => ?_)
        refine And.intro (fun c31 => ?_) (fun c31 => ?_)
        · refine hK 182 _ [] U29 ?_
          refine c_182 U29 ?_ ?_ ?_
          · exact fr_t (fr_t (fr_0 _ _) (fr_s hf_28 rfl)) (fr_s fU29 rfl)
          · exact tb_m (tb_f (tb2) (fun j => fU29 276 0 j rfl)) (by omega)
          · omega
        · refine ix_i (by omega) ?_
          intro b32 b32b
          have e33 : U29 232 0 m = T 232 0 m := (fU29 232 0 m rfl).trans (hf_28 232 0 m rfl)
          rw [e33] at b32 b32b ⊢
          intro b34 b34b
          intro b35 b35b
          refine hK 70 _ [vI (U29 111 0 83), vI (U29 111 0 82), vI (T 232 0 m), vI c, vR 111 0] U29 ?_
          refine j_callV (y := yX11_tellResult) (Yc := zX11_tellResult) (rest := []) [vI c, vI (T 232 0 m), vI (U29 111 0 82), vI (U29 111 0 83)] (ct_X11_tellResult (T := U29) (bb := 362000 * (m - T 210 0 c)) (by omega) (by omega) (by omega) (by omega) (by omega) (tb_f (tb2) (fun j => fU29 276 0 j rfl))) cl_X11_490 (qd_c (by decide +kernel)) (nn_ _) rfl (rf_of rfl) (Nat.le_of_ble_eq_true rfl) (Nat.le_of_ble_eq_true rfl) (Nat.le_of_ble_eq_true rfl) rfl ?_
          rintro U36 _ ⟨rfl, fU36, qU36⟩
          show J_ zX11_tellAll T (po_X11_tellAll T c d) 0 0 73 _ [] U36
          refine j_blx (F := fX11) tb_X11 (nn_ _) bk_X11_tellAll_73 bs_X11_tellAll_73 hz (fun K hK => ?_)
          refine ix_i (by omega) ?_
          intro b37 b37b
          have e38 : U36 233 0 m = T 233 0 m := (fU36 233 0 m rfl).trans ((fU29 233 0 m rfl).trans (hf_28 233 0 m rfl))
          rw [e38] at b37 b37b ⊢
          intro b39 b39b
          have e40 : U36 111 0 83 = U29 111 0 83 := fU36 111 0 83 rfl
          rw [e40] at b39 b39b ⊢
          intro b41 b41b
          have e42 : U36 111 0 82 = U29 111 0 82 := fU36 111 0 82 rfl
          rw [e42] at b41 b41b ⊢
          refine hK 89 _ [vI (U29 111 0 82), vI (U29 111 0 83), vI (T 233 0 m), vI c, vR 111 0] U36 ?_
          refine j_callV (y := yX11_tellResult) (Yc := zX11_tellResult) (rest := []) [vI c, vI (T 233 0 m), vI (U29 111 0 83), vI (U29 111 0 82)] (ct_X11_tellResult (T := U36) (bb := 362000 * (m - T 210 0 c) + 140000) (by omega) (by omega) (by omega) (by omega) (by omega) (qU36)) cl_X11_490 (qd_c (by decide +kernel)) (nn_ _) rfl (rf_of rfl) (Nat.le_of_ble_eq_true rfl) (Nat.le_of_ble_eq_true rfl) (Nat.le_of_ble_eq_true rfl) rfl ?_
          rintro U43 _ ⟨rfl, fU43, qU43⟩
          show J_ zX11_tellAll T (po_X11_tellAll T c d) 0 0 92 _ [] U43
          refine j_blx (F := fX11) tb_X11 (nn_ _) bk_X11_tellAll_92 bs_X11_tellAll_92 hz (fun K hK => ?_)
          refine ix_i (by omega) ?_
          intro b44 b44b
          have e45 : U43 233 0 m = T 233 0 m := (fU43 233 0 m rfl).trans ((fU36 233 0 m rfl).trans ((fU29 233 0 m rfl).trans (hf_28 233 0 m rfl)))
          rw [e45] at b44 b44b ⊢
          refine rg_i (by omega) ?_
          refine rg_i (by omega) ?_
          refine ix_i (by omega) ?_
          intro b46 b46b
          intro b47 b47b
          have e48 : U43 111 0 83 = U29 111 0 83 := (fU43 111 0 83 rfl).trans (fU36 111 0 83 rfl)
          rw [e48] at b47 b47b ⊢
          have t49 : -(362000 * (m - T 210 0 c) + 140000 + 140000) ≤ U43 276 0 ((9 * (T 233 0 m)) + 7) ∧ U43 276 0 ((9 * (T 233 0 m)) + 7) ≤ 362000 * (m - T 210 0 c) + 140000 + 140000 ∧ (((9 * (T 233 0 m)) + 7) % 9 = 6 → -(362000 * (m - T 210 0 c) + 140000 + 140000) ≤ 20 * (U43 276 0 ((9 * (T 233 0 m)) + 7)) ∧ 20 * (U43 276 0 ((9 * (T 233 0 m)) + 7)) ≤ 362000 * (m - T 210 0 c) + 140000 + 140000) := (qU43) ((9 * (T 233 0 m)) + 7) (by omega) (by omega)
          refine rg_i (by omega) ?_
          refine iy_i (by omega) (by omega) ?_
          refine x_nm (fun U50 hU50 => ?_)
          have e51 := up_f hU50
          refine ix_i (by omega) ?_
          intro b52 b52b
          have e53 : U50 235 0 m = T 235 0 m := (up_k hU50 (by exact Nat.ne_of_beq_eq_false rfl) 0 m).trans ((fU43 235 0 m rfl).trans ((fU36 235 0 m rfl).trans ((fU29 235 0 m rfl).trans (hf_28 235 0 m rfl))))
          rw [e53] at b52 b52b ⊢
          refine And.intro (fun c54 => ?_) (fun c54 => ?_)
          · refine hK 182 _ [] U50 ?_
            refine c_182 U50 ?_ ?_ ?_
            · exact fr_u (fr_t (fr_t (fr_t (fr_t (fr_0 _ _) (fr_s hf_28 rfl)) (fr_s fU29 rfl)) (fr_s fU36 rfl)) (fr_s fU43 rfl)) hU50 rfl
            · exact tb_m (tb_u (d := 20000) (qU43) hU50 (by decide) (by omega)) (by omega)
            · omega
          · refine ix_i (by omega) ?_
            intro b55 b55b
            have e56 : U50 232 0 m = T 232 0 m := (up_k hU50 (by exact Nat.ne_of_beq_eq_false rfl) 0 m).trans ((fU43 232 0 m rfl).trans ((fU36 232 0 m rfl).trans ((fU29 232 0 m rfl).trans (hf_28 232 0 m rfl))))
            rw [e56] at b55 b55b ⊢
            refine rg_i (by omega) ?_
            refine rg_i (by omega) ?_
            refine ix_i (by omega) ?_
            intro b57 b57b
            refine rg_i (by omega) ?_
            refine hK 148 _ [vI (2 * m), vR 111 0, vI (U50 276 0 ((9 * (T 232 0 m)) + 8)), vI ((9 * (T 232 0 m)) + 8), vR 276 0] U50 ?_
            refine j_callV (y := yX11_fairOf) (Yc := zX11_fairOf) (rest := [vI (U50 276 0 ((9 * (T 232 0 m)) + 8)), vI ((9 * (T 232 0 m)) + 8), vR 276 0]) [vI (2 * m)] (ct_X11_fairOf (T := U50) (by omega) (YB__f (ws := [(276, []), (111, [82, 83])]) hyb (fr_u (fr_t (fr_t (fr_t (fr_t (fr_0 _ _) (fr_s hf_28 rfl)) (fr_s fU29 rfl)) (fr_s fU36 rfl)) (fr_s fU43 rfl)) hU50 rfl) ⟨fun _ => rfl, trivial⟩)) cl_X11_493 (qd_c (by decide +kernel)) (nn_ _) rfl (rf_of rfl) (Nat.le_of_ble_eq_true rfl) (Nat.le_of_ble_eq_true rfl) (Nat.le_of_ble_eq_true rfl) rfl ?_
            rintro _ _ ⟨rfl, x58, rfl, hx58⟩
            show J_ zX11_tellAll T (po_X11_tellAll T c d) 0 0 151 _ [vI x58, vI (U50 276 0 ((9 * (T 232 0 m)) + 8)), vI ((9 * (T 232 0 m)) + 8), vR 276 0] U50
            refine j_blx (F := fX11) tb_X11 (nn_ _) bk_X11_tellAll_151 bs_X11_tellAll_151 hz (fun K hK => ?_)
            have t59 : -(362000 * (m - T 210 0 c) + 140000 + 140000 + 20000) ≤ U50 276 0 ((9 * (T 232 0 m)) + 8) ∧ U50 276 0 ((9 * (T 232 0 m)) + 8) ≤ 362000 * (m - T 210 0 c) + 140000 + 140000 + 20000 ∧ (((9 * (T 232 0 m)) + 8) % 9 = 6 → -(362000 * (m - T 210 0 c) + 140000 + 140000 + 20000) ≤ 20 * (U50 276 0 ((9 * (T 232 0 m)) + 8)) ∧ 20 * (U50 276 0 ((9 * (T 232 0 m)) + 8)) ≤ 362000 * (m - T 210 0 c) + 140000 + 140000 + 20000) := (tb_u (d := 20000) (qU43) hU50 (by decide) (by omega)) ((9 * (T 232 0 m)) + 8) (by omega) (by omega)
            refine rg_i (by omega) ?_
            refine iy_i (by omega) (by omega) ?_
            refine x_nm (fun U60 hU60 => ?_)
            have e61 := up_f hU60
            refine ix_i (by omega) ?_
            intro b62 b62b
            have e63 : U60 233 0 m = T 233 0 m := (up_k hU60 (by exact Nat.ne_of_beq_eq_false rfl) 0 m).trans ((up_k hU50 (by exact Nat.ne_of_beq_eq_false rfl) 0 m).trans ((fU43 233 0 m rfl).trans ((fU36 233 0 m rfl).trans ((fU29 233 0 m rfl).trans (hf_28 233 0 m rfl)))))
            rw [e63] at b62 b62b ⊢
            refine rg_i (by omega) ?_
            refine rg_i (by omega) ?_
            refine ix_i (by omega) ?_
            intro b64 b64b
            refine rg_i (by omega) ?_
            refine rg_i (by omega) ?_
            refine hK 177 _ [vI ((2 * m) + 1), vR 111 0, vI (U60 276 0 ((9 * (T 233 0 m)) + 8)), vI ((9 * (T 233 0 m)) + 8), vR 276 0] U60 ?_
            refine j_callV (y := yX11_fairOf) (Yc := zX11_fairOf) (rest := [vI (U60 276 0 ((9 * (T 233 0 m)) + 8)), vI ((9 * (T 233 0 m)) + 8), vR 276 0]) [vI ((2 * m) + 1)] (ct_X11_fairOf (T := U60) (by omega) (YB__f (ws := [(276, []), (111, [82, 83])]) hyb (fr_u (fr_u (fr_t (fr_t (fr_t (fr_t (fr_0 _ _) (fr_s hf_28 rfl)) (fr_s fU29 rfl)) (fr_s fU36 rfl)) (fr_s fU43 rfl)) hU50 rfl) hU60 rfl) ⟨fun _ => rfl, trivial⟩)) cl_X11_493 (qd_c (by decide +kernel)) (nn_ _) rfl (rf_of rfl) (Nat.le_of_ble_eq_true rfl) (Nat.le_of_ble_eq_true rfl) (Nat.le_of_ble_eq_true rfl) rfl ?_
            rintro _ _ ⟨rfl, x65, rfl, hx65⟩
            show J_ zX11_tellAll T (po_X11_tellAll T c d) 0 0 180 _ [vI x65, vI (U60 276 0 ((9 * (T 233 0 m)) + 8)), vI ((9 * (T 233 0 m)) + 8), vR 276 0] U60
            refine j_blx (F := fX11) tb_X11 (nn_ _) bk_X11_tellAll_180 bs_X11_tellAll_180 hz (fun K hK => ?_)
            have t66 : -(362000 * (m - T 210 0 c) + 140000 + 140000 + 20000 + 31000) ≤ U60 276 0 ((9 * (T 233 0 m)) + 8) ∧ U60 276 0 ((9 * (T 233 0 m)) + 8) ≤ 362000 * (m - T 210 0 c) + 140000 + 140000 + 20000 + 31000 ∧ (((9 * (T 233 0 m)) + 8) % 9 = 6 → -(362000 * (m - T 210 0 c) + 140000 + 140000 + 20000 + 31000) ≤ 20 * (U60 276 0 ((9 * (T 233 0 m)) + 8)) ∧ 20 * (U60 276 0 ((9 * (T 233 0 m)) + 8)) ≤ 362000 * (m - T 210 0 c) + 140000 + 140000 + 20000 + 31000) := (tb_u (d := 31000) (tb_u (d := 20000) (qU43) hU50 (by decide) (by omega)) hU60 (by decide) (by omega)) ((9 * (T 233 0 m)) + 8) (by omega) (by omega)
            refine rg_i (by omega) ?_
            refine iy_i (by omega) (by omega) ?_
            refine x_nm (fun U67 hU67 => ?_)
            have e68 := up_f hU67
            refine hK 182 _ [] U67 ?_
            refine c_182 U67 ?_ ?_ ?_
            · exact fr_u (fr_u (fr_u (fr_t (fr_t (fr_t (fr_t (fr_0 _ _) (fr_s hf_28 rfl)) (fr_s fU29 rfl)) (fr_s fU36 rfl)) (fr_s fU43 rfl)) hU50 rfl) hU60 rfl) hU67 rfl
            · exact tb_m (tb_u (d := 31000) (tb_u (d := 31000) (tb_u (d := 20000) (qU43) hU50 (by decide) (by omega)) hU60 (by decide) (by omega)) hU67 (by decide) (by omega)) (by omega)
            · omega
  have c_2 : ∀ (nn : Nat) (i : Int) (T1 : Zt), ((108 - i).toNat) ≤ nn → (fr_ [(276, [])] T T1) → (∀ j, 0 ≤ j → j < i → T1 276 0 j = 0) → (0 ≤ i ∧ i ≤ 108) → J_ zX11_tellAll T (po_X11_tellAll T c d) 0 0 2 [some (vR 111 0), some (vI c), some (vI d), some (vI i)] [] T1 := by
    intro nn
    induction nn using Nat.strongRecOn with
    | _ nn ih_2 =>
      intro i T1 hm_2 hf_2 z1 i1
      replace hm_2 := fun (_ : Unit) => hm_2
      refine j_blx (F := fX11) tb_X11 (nn_ _) bk_X11_tellAll_2 bs_X11_tellAll_2 hz (fun K hK => ?_)
      refine And.intro (fun c69 => ?_) (fun c69 => ?_)
      · refine hK 21 _ [] T1 ?_
        refine j_blx (F := fX11) tb_X11 (nn_ _) bk_X11_tellAll_21 bs_X11_tellAll_21 hz (fun K hK => ?_)
        refine ix_i (by omega) ?_
        intro b70 b70b
        have e71 : T1 210 0 c = T 210 0 c := hf_2 210 0 c rfl
        rw [e71] at b70 b70b ⊢
        refine hK 28 [some (vR 111 0), some (vI c), some (vI d), some (vI (T 210 0 c))] [] T1 ?_
        refine c_28 _ (T 210 0 c) T1 (Nat.le_refl _) ?_ ?_ ?_
        · exact fr_t (fr_0 _ _) (fr_s hf_2 rfl)
        · exact fun j a b => by have := z1 j a (by omega); omega
        · omega
      · refine iy_i (by omega) (by omega) ?_
        refine x_nm (fun U72 hU72 => ?_)
        have e73 := up_f hU72
        refine rg_i (by omega) ?_
        refine hK 2 [some (vR 111 0), some (vI c), some (vI d), some (vI (i + 1))] [] U72 ?_
        refine ih_2 _ ?_ (i + 1) U72 (Nat.le_refl _) ?_ ?_ ?_
        · have hm_2 := hm_2 (); omega
        · exact fr_u (fr_t (fr_0 _ _) (fr_s hf_2 rfl)) hU72 rfl
        · intro j a b
          by_cases z : j = i
          · rw [z]; exact up_f hU72
          · rw [up_g hU72 (fun q => z q.2.2)]; exact z1 j a (by omega)
        · omega
  refine j_blx (F := fX11) tb_X11 (nn_ _) bk_X11_tellAll_0 bs_X11_tellAll_0 hz (fun K hK => ?_)
  refine hK 2 [some (vR 111 0), some (vI c), some (vI d), some (vI 0)] [] T ?_
  refine c_2 _ 0 T (Nat.le_refl _) ?_ ?_ ?_
  · exact fr_0 _ _
  · intro j a b; omega
  · omega
abbrev cX11_sayHead : ByteArray := prog_13_method_86_code
def yX11_sayHead : MethodName := ⟨RX11, "sayHead", "(II)V"⟩
def zX11_sayHead : Zm := (RX11, cX11_sayHead, 7, none, { frames := 1, cells := 0, slots := 0, locals := 22 })
theorem bk_X11_sayHead_230 : ck_ fX11 none cX11_sayHead 230 [.iinc 3 1, .goto 7] 236 = true := qck_r (nn_ _) (by decide +kernel)
theorem bs_X11_sayHead_230 {P : Zt → Option Zv → Prop} (K : Int → Zl → List Zv → Zt → Prop) : sx_ K P [.iinc 3 1, .goto 7] 236 = x_iinc 3 1 (x_goto 7 K) := ((xe_iinc 3 1).trans (congrArg (x_iinc 3 1) (xe_goto 7)))
theorem bk_X11_sayHead_106 : ck_ fX11 none cX11_sayHead 106 [.istore 6, .aload 0, .tableswitch 0 11 84 #[], .iconst 3, .iload 4, .imul, .dup2, .iaload, .aload 0, .iload 1, .iload 6] 122 = true := qck_r (nn_ _) (by decide +kernel)
theorem bs_X11_sayHead_106 {P : Zt → Option Zv → Prop} (K : Int → Zl → List Zv → Zt → Prop) : sx_ K P [.istore 6, .aload 0, .tableswitch 0 11 84 #[], .iconst 3, .iload 4, .imul, .dup2, .iaload, .aload 0, .iload 1, .iload 6] 122 = x_istore 6 (x_aload 0 (x_g1 111 284 (x_iconst 3 (x_iload 4 (x_imul (x_dup2 (x_iaload (x_aload 0 (x_iload 1 (x_iload 6 (K 122))))))))))) := ((xe_istore 6).trans (congrArg (x_istore 6) ((xe_aload 0).trans (congrArg (x_aload 0) ((xe_g1 (kk := 111) rfl tl_11_84).trans (congrArg (x_g1 111 284) ((xe_iconst 3).trans (congrArg (x_iconst 3) ((xe_iload 4).trans (congrArg (x_iload 4) ((xe_imul).trans (congrArg (x_imul) ((xe_dup2).trans (congrArg (x_dup2) ((xe_iaload).trans (congrArg (x_iaload) ((xe_aload 0).trans (congrArg (x_aload 0) ((xe_iload 1).trans (congrArg (x_iload 1) ((xe_iload 6).trans (congrArg (x_iload 6) xe_nil))))))))))))))))))))))
theorem bk_X11_sayHead_125 : ck_ fX11 none cX11_sayHead 125 [.iadd, .iastore, .aload 0, .tableswitch 0 11 84 #[], .iconst 3, .iload 5, .imul, .dup2, .iaload, .aload 0, .iload 1, .iconst 4, .iload 6, .isub] 143 = true := qck_r (nn_ _) (by decide +kernel)
theorem bs_X11_sayHead_125 {P : Zt → Option Zv → Prop} (K : Int → Zl → List Zv → Zt → Prop) : sx_ K P [.iadd, .iastore, .aload 0, .tableswitch 0 11 84 #[], .iconst 3, .iload 5, .imul, .dup2, .iaload, .aload 0, .iload 1, .iconst 4, .iload 6, .isub] 143 = x_iadd (x_iastore (x_aload 0 (x_g1 111 284 (x_iconst 3 (x_iload 5 (x_imul (x_dup2 (x_iaload (x_aload 0 (x_iload 1 (x_iconst 4 (x_iload 6 (x_isub (K 143)))))))))))))) := ((xe_iadd).trans (congrArg (x_iadd) ((xe_iastore).trans (congrArg (x_iastore) ((xe_aload 0).trans (congrArg (x_aload 0) ((xe_g1 (kk := 111) rfl tl_11_84).trans (congrArg (x_g1 111 284) ((xe_iconst 3).trans (congrArg (x_iconst 3) ((xe_iload 5).trans (congrArg (x_iload 5) ((xe_imul).trans (congrArg (x_imul) ((xe_dup2).trans (congrArg (x_dup2) ((xe_iaload).trans (congrArg (x_iaload) ((xe_aload 0).trans (congrArg (x_aload 0) ((xe_iload 1).trans (congrArg (x_iload 1) ((xe_iconst 4).trans (congrArg (x_iconst 4) ((xe_iload 6).trans (congrArg (x_iload 6) ((xe_isub).trans (congrArg (x_isub) xe_nil))))))))))))))))))))))))))))
theorem bk_X11_sayHead_146 : ck_ fX11 none cX11_sayHead 146 [.iadd, .iastore, .aload 0, .tableswitch 0 11 84 #[], .iconst 3, .iload 4, .imul, .iconst 1, .iadd, .dup2, .iaload, .aload 0, .tableswitch 0 11 82 #[], .aload 0, .tableswitch 0 11 83 #[], .isub, .iadd, .iastore, .aload 0, .tableswitch 0 11 84 #[], .iconst 3, .iload 5, .imul, .iconst 1, .iadd, .dup2, .iaload, .aload 0, .tableswitch 0 11 83 #[], .aload 0, .tableswitch 0 11 82 #[], .isub, .iadd, .iastore, .aload 0, .tableswitch 0 11 84 #[], .iconst 3, .iload 4, .imul, .iconst 2, .iadd, .dup2, .iaload, .aload 0, .tableswitch 0 11 82 #[], .iadd, .iastore, .aload 0, .tableswitch 0 11 84 #[], .iconst 3, .iload 5, .imul, .iconst 2, .iadd, .dup2, .iaload, .aload 0, .tableswitch 0 11 83 #[], .iadd, .iastore] 230 = true := qck_r (nn_ _) (by decide +kernel)
theorem bs_X11_sayHead_146 {P : Zt → Option Zv → Prop} (K : Int → Zl → List Zv → Zt → Prop) : sx_ K P [.iadd, .iastore, .aload 0, .tableswitch 0 11 84 #[], .iconst 3, .iload 4, .imul, .iconst 1, .iadd, .dup2, .iaload, .aload 0, .tableswitch 0 11 82 #[], .aload 0, .tableswitch 0 11 83 #[], .isub, .iadd, .iastore, .aload 0, .tableswitch 0 11 84 #[], .iconst 3, .iload 5, .imul, .iconst 1, .iadd, .dup2, .iaload, .aload 0, .tableswitch 0 11 83 #[], .aload 0, .tableswitch 0 11 82 #[], .isub, .iadd, .iastore, .aload 0, .tableswitch 0 11 84 #[], .iconst 3, .iload 4, .imul, .iconst 2, .iadd, .dup2, .iaload, .aload 0, .tableswitch 0 11 82 #[], .iadd, .iastore, .aload 0, .tableswitch 0 11 84 #[], .iconst 3, .iload 5, .imul, .iconst 2, .iadd, .dup2, .iaload, .aload 0, .tableswitch 0 11 83 #[], .iadd, .iastore] 230 = x_iadd (x_iastore (x_aload 0 (x_g1 111 284 (x_iconst 3 (x_iload 4 (x_imul (x_iconst 1 (x_iadd (x_dup2 (x_iaload (x_aload 0 (x_g0 111 82 (-2147483648) 2147483647 (x_aload 0 (x_g0 111 83 (-2147483648) 2147483647 (x_isub (x_iadd (x_iastore (x_aload 0 (x_g1 111 284 (x_iconst 3 (x_iload 5 (x_imul (x_iconst 1 (x_iadd (x_dup2 (x_iaload (x_aload 0 (x_g0 111 83 (-2147483648) 2147483647 (x_aload 0 (x_g0 111 82 (-2147483648) 2147483647 (x_isub (x_iadd (x_iastore (x_aload 0 (x_g1 111 284 (x_iconst 3 (x_iload 4 (x_imul (x_iconst 2 (x_iadd (x_dup2 (x_iaload (x_aload 0 (x_g0 111 82 (-2147483648) 2147483647 (x_iadd (x_iastore (x_aload 0 (x_g1 111 284 (x_iconst 3 (x_iload 5 (x_imul (x_iconst 2 (x_iadd (x_dup2 (x_iaload (x_aload 0 (x_g0 111 83 (-2147483648) 2147483647 (x_iadd (x_iastore (K 230)))))))))))))))))))))))))))))))))))))))))))))))))))))))))))) := ((xe_iadd).trans (congrArg (x_iadd) ((xe_iastore).trans (congrArg (x_iastore) ((xe_aload 0).trans (congrArg (x_aload 0) ((xe_g1 (kk := 111) rfl tl_11_84).trans (congrArg (x_g1 111 284) ((xe_iconst 3).trans (congrArg (x_iconst 3) ((xe_iload 4).trans (congrArg (x_iload 4) ((xe_imul).trans (congrArg (x_imul) ((xe_iconst 1).trans (congrArg (x_iconst 1) ((xe_iadd).trans (congrArg (x_iadd) ((xe_dup2).trans (congrArg (x_dup2) ((xe_iaload).trans (congrArg (x_iaload) ((xe_aload 0).trans (congrArg (x_aload 0) ((xe_g0 (kk := 111) rfl tl_11_82).trans (congrArg (x_g0 111 82 (-2147483648) 2147483647) ((xe_aload 0).trans (congrArg (x_aload 0) ((xe_g0 (kk := 111) rfl tl_11_83).trans (congrArg (x_g0 111 83 (-2147483648) 2147483647) ((xe_isub).trans (congrArg (x_isub) ((xe_iadd).trans (congrArg (x_iadd) ((xe_iastore).trans (congrArg (x_iastore) ((xe_aload 0).trans (congrArg (x_aload 0) ((xe_g1 (kk := 111) rfl tl_11_84).trans (congrArg (x_g1 111 284) ((xe_iconst 3).trans (congrArg (x_iconst 3) ((xe_iload 5).trans (congrArg (x_iload 5) ((xe_imul).trans (congrArg (x_imul) ((xe_iconst 1).trans (congrArg (x_iconst 1) ((xe_iadd).trans (congrArg (x_iadd) ((xe_dup2).trans (congrArg (x_dup2) ((xe_iaload).trans (congrArg (x_iaload) ((xe_aload 0).trans (congrArg (x_aload 0) ((xe_g0 (kk := 111) rfl tl_11_83).trans (congrArg (x_g0 111 83 (-2147483648) 2147483647) ((xe_aload 0).trans (congrArg (x_aload 0) ((xe_g0 (kk := 111) rfl tl_11_82).trans (congrArg (x_g0 111 82 (-2147483648) 2147483647) ((xe_isub).trans (congrArg (x_isub) ((xe_iadd).trans (congrArg (x_iadd) ((xe_iastore).trans (congrArg (x_iastore) ((xe_aload 0).trans (congrArg (x_aload 0) ((xe_g1 (kk := 111) rfl tl_11_84).trans (congrArg (x_g1 111 284) ((xe_iconst 3).trans (congrArg (x_iconst 3) ((xe_iload 4).trans (congrArg (x_iload 4) ((xe_imul).trans (congrArg (x_imul) ((xe_iconst 2).trans (congrArg (x_iconst 2) ((xe_iadd).trans (congrArg (x_iadd) ((xe_dup2).trans (congrArg (x_dup2) ((xe_iaload).trans (congrArg (x_iaload) ((xe_aload 0).trans (congrArg (x_aload 0) ((xe_g0 (kk := 111) rfl tl_11_82).trans (congrArg (x_g0 111 82 (-2147483648) 2147483647) ((xe_iadd).trans (congrArg (x_iadd) ((xe_iastore).trans (congrArg (x_iastore) ((xe_aload 0).trans (congrArg (x_aload 0) ((xe_g1 (kk := 111) rfl tl_11_84).trans (congrArg (x_g1 111 284) ((xe_iconst 3).trans (congrArg (x_iconst 3) ((xe_iload 5).trans (congrArg (x_iload 5) ((xe_imul).trans (congrArg (x_imul) ((xe_iconst 2).trans (congrArg (x_iconst 2) ((xe_iadd).trans (congrArg (x_iadd) ((xe_dup2).trans (congrArg (x_dup2) ((xe_iaload).trans (congrArg (x_iaload) ((xe_aload 0).trans (congrArg (x_aload 0) ((xe_g0 (kk := 111) rfl tl_11_83).trans (congrArg (x_g0 111 83 (-2147483648) 2147483647) ((xe_iadd).trans (congrArg (x_iadd) ((xe_iastore).trans (congrArg (x_iastore) xe_nil))))))))))))))))))))))))))))))))))))))))))))))))))))))))))))))))))))))))))))))))))))))))))))))))))))))))))))))))))))))))
theorem bk_X11_sayHead_7 : ck_ fX11 none cX11_sayHead 7 [.iload 3, .aload 0, .tableswitch 0 11 10 #[], .iload 1, .iaload, .aload 0, .tableswitch 0 11 11 #[], .iload 1, .iaload, .iadd, .if_icmp .ge 236, .aload 0, .tableswitch 0 11 32 #[], .iload 3, .iaload, .istore 4, .aload 0, .tableswitch 0 11 33 #[], .iload 3, .iaload, .istore 5, .aload 0, .tableswitch 0 11 85 #[], .iload 4, .ishr, .iconst 1, .iand, .iconst 1, .if_icmp .ne 230, .aload 0, .tableswitch 0 11 85 #[], .iload 5, .ishr, .iconst 1, .iand, .iconst 1, .if_icmp .ne 230, .aload 0, .iload 3, .iload 2] 69 = true := qck_r (nn_ _) (by decide +kernel)
theorem bs_X11_sayHead_7 {P : Zt → Option Zv → Prop} (K : Int → Zl → List Zv → Zt → Prop) : sx_ K P [.iload 3, .aload 0, .tableswitch 0 11 10 #[], .iload 1, .iaload, .aload 0, .tableswitch 0 11 11 #[], .iload 1, .iaload, .iadd, .if_icmp .ge 236, .aload 0, .tableswitch 0 11 32 #[], .iload 3, .iaload, .istore 4, .aload 0, .tableswitch 0 11 33 #[], .iload 3, .iaload, .istore 5, .aload 0, .tableswitch 0 11 85 #[], .iload 4, .ishr, .iconst 1, .iand, .iconst 1, .if_icmp .ne 230, .aload 0, .tableswitch 0 11 85 #[], .iload 5, .ishr, .iconst 1, .iand, .iconst 1, .if_icmp .ne 230, .aload 0, .iload 3, .iload 2] 69 = x_iload 3 (x_aload 0 (x_g1 111 210 (x_iload 1 (x_iaload (x_aload 0 (x_g1 111 211 (x_iload 1 (x_iaload (x_iadd (x_if_icmp .ge 236 K (x_aload 0 (x_g1 111 232 (x_iload 3 (x_iaload (x_istore 4 (x_aload 0 (x_g1 111 233 (x_iload 3 (x_iaload (x_istore 5 (x_aload 0 (x_g0 111 85 0 4095 (x_iload 4 (x_ishr (x_iconst 1 (x_iand (x_iconst 1 (x_if_icmp .ne 230 K (x_aload 0 (x_g0 111 85 0 4095 (x_iload 5 (x_ishr (x_iconst 1 (x_iand (x_iconst 1 (x_if_icmp .ne 230 K (x_aload 0 (x_iload 3 (x_iload 2 (K 69)))))))))))))))))))))))))))))))))))))))) := ((xe_iload 3).trans (congrArg (x_iload 3) ((xe_aload 0).trans (congrArg (x_aload 0) ((xe_g1 (kk := 111) rfl tl_11_10).trans (congrArg (x_g1 111 210) ((xe_iload 1).trans (congrArg (x_iload 1) ((xe_iaload).trans (congrArg (x_iaload) ((xe_aload 0).trans (congrArg (x_aload 0) ((xe_g1 (kk := 111) rfl tl_11_11).trans (congrArg (x_g1 111 211) ((xe_iload 1).trans (congrArg (x_iload 1) ((xe_iaload).trans (congrArg (x_iaload) ((xe_iadd).trans (congrArg (x_iadd) ((xe_if_icmp .ge 236).trans (congrArg (x_if_icmp .ge 236 K) ((xe_aload 0).trans (congrArg (x_aload 0) ((xe_g1 (kk := 111) rfl tl_11_32).trans (congrArg (x_g1 111 232) ((xe_iload 3).trans (congrArg (x_iload 3) ((xe_iaload).trans (congrArg (x_iaload) ((xe_istore 4).trans (congrArg (x_istore 4) ((xe_aload 0).trans (congrArg (x_aload 0) ((xe_g1 (kk := 111) rfl tl_11_33).trans (congrArg (x_g1 111 233) ((xe_iload 3).trans (congrArg (x_iload 3) ((xe_iaload).trans (congrArg (x_iaload) ((xe_istore 5).trans (congrArg (x_istore 5) ((xe_aload 0).trans (congrArg (x_aload 0) ((xe_g0 (kk := 111) rfl tl_11_85).trans (congrArg (x_g0 111 85 0 4095) ((xe_iload 4).trans (congrArg (x_iload 4) ((xe_ishr).trans (congrArg (x_ishr) ((xe_iconst 1).trans (congrArg (x_iconst 1) ((xe_iand).trans (congrArg (x_iand) ((xe_iconst 1).trans (congrArg (x_iconst 1) ((xe_if_icmp .ne 230).trans (congrArg (x_if_icmp .ne 230 K) ((xe_aload 0).trans (congrArg (x_aload 0) ((xe_g0 (kk := 111) rfl tl_11_85).trans (congrArg (x_g0 111 85 0 4095) ((xe_iload 5).trans (congrArg (x_iload 5) ((xe_ishr).trans (congrArg (x_ishr) ((xe_iconst 1).trans (congrArg (x_iconst 1) ((xe_iand).trans (congrArg (x_iand) ((xe_iconst 1).trans (congrArg (x_iconst 1) ((xe_if_icmp .ne 230).trans (congrArg (x_if_icmp .ne 230 K) ((xe_aload 0).trans (congrArg (x_aload 0) ((xe_iload 3).trans (congrArg (x_iload 3) ((xe_iload 2).trans (congrArg (x_iload 2) xe_nil))))))))))))))))))))))))))))))))))))))))))))))))))))))))))))))))))))))))))))))))
theorem bk_X11_sayHead_236 : ck_ fX11 none cX11_sayHead 236 [.return_] 237 = true := qck_r (nn_ _) (by decide +kernel)
theorem bs_X11_sayHead_236 {P : Zt → Option Zv → Prop} (K : Int → Zl → List Zv → Zt → Prop) : sx_ K P [.return_] 237 = x_return_ P := (xe_return_)
theorem bk_X11_sayHead_72 : ck_ fX11 none cX11_sayHead 72 [.ifCond .eq 230, .aload 0, .tableswitch 0 11 82 #[], .aload 0, .tableswitch 0 11 83 #[], .if_icmp .le 90, .iconst 1, .goto 106] 90 = true := qck_r (nn_ _) (by decide +kernel)
theorem bs_X11_sayHead_72 {P : Zt → Option Zv → Prop} (K : Int → Zl → List Zv → Zt → Prop) : sx_ K P [.ifCond .eq 230, .aload 0, .tableswitch 0 11 82 #[], .aload 0, .tableswitch 0 11 83 #[], .if_icmp .le 90, .iconst 1, .goto 106] 90 = x_ifCond .eq 230 K (x_aload 0 (x_g0 111 82 (-2147483648) 2147483647 (x_aload 0 (x_g0 111 83 (-2147483648) 2147483647 (x_if_icmp .le 90 K (x_iconst 1 (x_goto 106 K))))))) := ((xe_ifCond .eq 230).trans (congrArg (x_ifCond .eq 230 K) ((xe_aload 0).trans (congrArg (x_aload 0) ((xe_g0 (kk := 111) rfl tl_11_82).trans (congrArg (x_g0 111 82 (-2147483648) 2147483647) ((xe_aload 0).trans (congrArg (x_aload 0) ((xe_g0 (kk := 111) rfl tl_11_83).trans (congrArg (x_g0 111 83 (-2147483648) 2147483647) ((xe_if_icmp .le 90).trans (congrArg (x_if_icmp .le 90 K) ((xe_iconst 1).trans (congrArg (x_iconst 1) (xe_goto 106)))))))))))))))
theorem bk_X11_sayHead_90 : ck_ fX11 none cX11_sayHead 90 [.aload 0, .tableswitch 0 11 82 #[], .aload 0, .tableswitch 0 11 83 #[], .if_icmp .ne 105, .iconst 2, .goto 106] 105 = true := qck_r (nn_ _) (by decide +kernel)
theorem bs_X11_sayHead_90 {P : Zt → Option Zv → Prop} (K : Int → Zl → List Zv → Zt → Prop) : sx_ K P [.aload 0, .tableswitch 0 11 82 #[], .aload 0, .tableswitch 0 11 83 #[], .if_icmp .ne 105, .iconst 2, .goto 106] 105 = x_aload 0 (x_g0 111 82 (-2147483648) 2147483647 (x_aload 0 (x_g0 111 83 (-2147483648) 2147483647 (x_if_icmp .ne 105 K (x_iconst 2 (x_goto 106 K)))))) := ((xe_aload 0).trans (congrArg (x_aload 0) ((xe_g0 (kk := 111) rfl tl_11_82).trans (congrArg (x_g0 111 82 (-2147483648) 2147483647) ((xe_aload 0).trans (congrArg (x_aload 0) ((xe_g0 (kk := 111) rfl tl_11_83).trans (congrArg (x_g0 111 83 (-2147483648) 2147483647) ((xe_if_icmp .ne 105).trans (congrArg (x_if_icmp .ne 105 K) ((xe_iconst 2).trans (congrArg (x_iconst 2) (xe_goto 106)))))))))))))
theorem bk_X11_sayHead_105 : ck_ fX11 none cX11_sayHead 105 [.iconst 3] 106 = true := qck_r (nn_ _) (by decide +kernel)
theorem bs_X11_sayHead_105 {P : Zt → Option Zv → Prop} (K : Int → Zl → List Zv → Zt → Prop) : sx_ K P [.iconst 3] 106 = x_iconst 3 (K 106) := ((xe_iconst 3).trans (congrArg (x_iconst 3) xe_nil))
theorem bk_X11_sayHead_0 : ck_ fX11 none cX11_sayHead 0 [.aload 0, .tableswitch 0 11 10 #[], .iload 1, .iaload, .istore 3] 7 = true := qck_r (nn_ _) (by decide +kernel)
theorem bs_X11_sayHead_0 {P : Zt → Option Zv → Prop} (K : Int → Zl → List Zv → Zt → Prop) : sx_ K P [.aload 0, .tableswitch 0 11 10 #[], .iload 1, .iaload, .istore 3] 7 = x_aload 0 (x_g1 111 210 (x_iload 1 (x_iaload (x_istore 3 (K 7))))) := ((xe_aload 0).trans (congrArg (x_aload 0) ((xe_g1 (kk := 111) rfl tl_11_10).trans (congrArg (x_g1 111 210) ((xe_iload 1).trans (congrArg (x_iload 1) ((xe_iaload).trans (congrArg (x_iaload) ((xe_istore 3).trans (congrArg (x_istore 3) xe_nil))))))))))
abbrev po_X11_sayHead (T : Zt) (bb : Int) (c d : Int) : Zt → Option Zv → Prop := fun T' r => r = none ∧ fr_ [(284, []), (111, [82, 83])] T T' ∧ (SA_ T' (bb + 48000000))
set_option maxHeartbeats 4000000 in
theorem ct_X11_sayHead {T : Zt} {bb : Int} {c d : Int} (h1 : 0 ≤ c ∧ c < 4) (hml : ML_ T) (hsc : SC_ T) (hbb : 0 ≤ bb ∧ bb ≤ 500000000) (hsa : SA_ T bb) : Ct_ yX11_sayHead zX11_sayHead T [vR 111 0, vI c, vI d] (po_X11_sayHead T bb c d) := by
  refine ct_of pn_11 rfl rfl (Nat.le_of_ble_eq_true rfl) (fun hT hav => ?_)
  have hr_c : -2147483648 ≤ c ∧ c ≤ 2147483647 := hav (vI c) (List.mem_cons_of_mem _ List.mem_cons_self)
  have hr_d : -2147483648 ≤ d ∧ d ≤ 2147483647 := hav (vI d) (List.mem_cons_of_mem _ (List.mem_cons_of_mem _ List.mem_cons_self))
  have hz : zX11_sayHead.2.2.2.1 = some .boolean → ∀ (T' : Zt) (x : Int), po_X11_sayHead T bb c d T' (some (vI x)) → 0 ≤ x ∧ x ≤ 1 := fun h => by cases h
  have hb_29 : 0 ≤ T 111 0 29 ∧ T 111 0 29 ≤ 400 := bd_f hT 111 29 tl_11_29 0
  have hmc := hml c (by omega) (by omega)
  have hfo : 0 ≤ T 210 0 c ∧ T 210 0 c ≤ 400 := bd_a hT 210 (by decide +kernel : ta_ 210 = some (1, some 4, 0, 400)) 0 (by omega)
  show J_ zX11_sayHead T (po_X11_sayHead T bb c d) 0 0 0 [some (vR 111 0), some (vI c), some (vI d), none, none, none, none] [] T
  have c_7 : ∀ (nn : Nat) (m : Int) (T1 : Zt), ((400 - m).toNat) ≤ nn → (fr_ [(284, []), (111, [82, 83])] T T1) → (SA_ T1 (bb + 120000 * (m - T 210 0 c))) → (T 210 0 c ≤ m ∧ m ≤ 400) → J_ zX11_sayHead T (po_X11_sayHead T bb c d) 0 0 7 [some (vR 111 0), some (vI c), some (vI d), some (vI m), none, none, none] [] T1 := by
    intro nn
    induction nn using Nat.strongRecOn with
    | _ nn ih_7 =>
      intro m T1 hm_7 hf_7 sa1 i1
      replace hm_7 := fun (_ : Unit) => hm_7
      have c_230 : ∀ (T3 : Zt), (fr_ [(284, []), (111, [82, 83])] T T3) → (SA_ T3 (bb + 120000 * (m - T 210 0 c) + 120000)) → (m < 400) → J_ zX11_sayHead T (po_X11_sayHead T bb c d) 0 0 230 [some (vR 111 0), some (vI c), some (vI d), some (vI m), none, none, none] [] T3 := by
        intro T3 hf_230 sa3 i3
        refine j_blx (F := fX11) tb_X11 (nn_ _) bk_X11_sayHead_230 bs_X11_sayHead_230 hz (fun K hK => ?_)
        refine rg_i (by omega) ?_
        refine hK 7 [some (vR 111 0), some (vI c), some (vI d), some (vI (m + 1)), none, none, none] [] T3 ?_
        refine ih_7 _ ?_ (m + 1) T3 (Nat.le_refl _) ?_ ?_ ?_
        · have hm_7 := hm_7 (); omega
        · exact fr_t (fr_0 _ _) (fr_s hf_230 rfl)
        · exact sa_m (sa3) (by omega)
        · omega
      have c_106 : ∀ (v : Int) (T2 : Zt), (fr_ [(284, []), (111, [82, 83])] T T2) → (SA_ T2 (bb + 120000 * (m - T 210 0 c))) → (1 ≤ v ∧ v ≤ 3 ∧ m < 400 ∧ (0 ≤ T2 111 0 82 ∧ T2 111 0 82 ≤ 20000) ∧ (0 ≤ T2 111 0 83 ∧ T2 111 0 83 ≤ 20000) ∧ 0 ≤ T 232 0 m ∧ T 232 0 m ≤ 11 ∧ 0 ≤ T 233 0 m ∧ T 233 0 m ≤ 11) → J_ zX11_sayHead T (po_X11_sayHead T bb c d) 0 0 106 [some (vR 111 0), some (vI c), some (vI d), some (vI m), some (vI (T 232 0 m)), some (vI (T 233 0 m)), none] [vI v] T2 := by
        intro v T2 hf_106 sa2 i2
        have hra : (-1) ≤ T 205 0 (23 * c + v) ∧ T 205 0 (23 * c + v) ≤ 999 := bd_a hT 205 (by decide +kernel : ta_ 205 = some (1, some 92, (-1), 999)) 0 (by omega)
        have hrb : (-1) ≤ T 205 0 (23 * c + (4 - v)) ∧ T 205 0 (23 * c + (4 - v)) ≤ 999 := bd_a hT 205 (by decide +kernel : ta_ 205 = some (1, some 92, (-1), 999)) 0 (by omega)
        refine j_blx (F := fX11) tb_X11 (nn_ _) bk_X11_sayHead_106 bs_X11_sayHead_106 hz (fun K hK => ?_)
        refine rg_i (by omega) ?_
        refine ix_i (by omega) ?_
        intro b1 b1b
        refine hK 122 [some (vR 111 0), some (vI c), some (vI d), some (vI m), some (vI (T 232 0 m)), some (vI (T 233 0 m)), some (vI v)] [vI v, vI c, vR 111 0, vI (T2 284 0 (3 * (T 232 0 m))), vI (3 * (T 232 0 m)), vR 284 0] T2 ?_
        refine j_callV (y := yX11_rule0) (Yc := zX11_rule0) (rest := [vI (T2 284 0 (3 * (T 232 0 m))), vI (3 * (T 232 0 m)), vR 284 0]) [vI c, vI v] (ct_X11_rule0 (T := T2) (by omega) (by omega)) cl_X11_321 (qd_c (by decide +kernel)) (nn_ _) rfl (rf_of rfl) (Nat.le_of_ble_eq_true rfl) (Nat.le_of_ble_eq_true rfl) (Nat.le_of_ble_eq_true rfl) rfl ?_
        rintro _ _ ⟨rfl, rfl⟩
        have e2 : T2 205 0 (23 * c + v) = T 205 0 (23 * c + v) := hf_106 205 0 (23 * c + v) rfl
        show J_ zX11_sayHead T (po_X11_sayHead T bb c d) 0 0 125 _ [vI (T2 205 0 (23 * c + v)), vI (T2 284 0 (3 * (T 232 0 m))), vI (3 * (T 232 0 m)), vR 284 0] T2
        refine j_blx (F := fX11) tb_X11 (nn_ _) bk_X11_sayHead_125 bs_X11_sayHead_125 hz (fun K hK => ?_)
        have t3 : -(bb + 120000 * (m - T 210 0 c)) ≤ T2 284 0 (3 * (T 232 0 m)) ∧ T2 284 0 (3 * (T 232 0 m)) ≤ bb + 120000 * (m - T 210 0 c) := (sa2) (3 * (T 232 0 m)) (by omega) (by omega)
        refine rg_i (by omega) ?_
        refine iy_i (by omega) (by omega) ?_
        refine x_nm (fun U4 hU4 => ?_)
        have e5 := up_f hU4
        refine rg_i (by omega) ?_
        refine ix_i (by omega) ?_
        intro b6 b6b
        refine rg_i (by omega) ?_
        refine hK 143 _ [vI (4 - v), vI c, vR 111 0, vI (U4 284 0 (3 * (T 233 0 m))), vI (3 * (T 233 0 m)), vR 284 0] U4 ?_
        refine j_callV (y := yX11_rule0) (Yc := zX11_rule0) (rest := [vI (U4 284 0 (3 * (T 233 0 m))), vI (3 * (T 233 0 m)), vR 284 0]) [vI c, vI (4 - v)] (ct_X11_rule0 (T := U4) (by omega) (by omega)) cl_X11_321 (qd_c (by decide +kernel)) (nn_ _) rfl (rf_of rfl) (Nat.le_of_ble_eq_true rfl) (Nat.le_of_ble_eq_true rfl) (Nat.le_of_ble_eq_true rfl) rfl ?_
        rintro _ _ ⟨rfl, rfl⟩
        have e7 : U4 205 0 (23 * c + (4 - v)) = T 205 0 (23 * c + (4 - v)) := (up_k hU4 (by exact Nat.ne_of_beq_eq_false rfl) 0 (23 * c + (4 - v))).trans (hf_106 205 0 (23 * c + (4 - v)) rfl)
        show J_ zX11_sayHead T (po_X11_sayHead T bb c d) 0 0 146 _ [vI (U4 205 0 (23 * c + (4 - v))), vI (U4 284 0 (3 * (T 233 0 m))), vI (3 * (T 233 0 m)), vR 284 0] U4
        refine j_blx (F := fX11) tb_X11 (nn_ _) bk_X11_sayHead_146 bs_X11_sayHead_146 hz (fun K hK => ?_)
        have t8 : -(bb + 120000 * (m - T 210 0 c) + 20000) ≤ U4 284 0 (3 * (T 233 0 m)) ∧ U4 284 0 (3 * (T 233 0 m)) ≤ bb + 120000 * (m - T 210 0 c) + 20000 := (sa_u (d := 20000) (sa2) hU4 (by decide) (by omega)) (3 * (T 233 0 m)) (by omega) (by omega)
        refine rg_i (by omega) ?_
        refine iy_i (by omega) (by omega) ?_
        refine x_nm (fun U9 hU9 => ?_)
        have e10 := up_f hU9
        refine rg_i (by omega) ?_
        refine rg_i (by omega) ?_
        refine ix_i (by omega) ?_
        intro b11 b11b
        intro b12 b12b
        have e13 : U9 111 0 82 = T2 111 0 82 := (up_k hU9 (by exact Nat.ne_of_beq_eq_false rfl) 0 82).trans (up_k hU4 (by exact Nat.ne_of_beq_eq_false rfl) 0 82)
        rw [e13] at b12 b12b ⊢
        intro b14 b14b
        have e15 : U9 111 0 83 = T2 111 0 83 := (up_k hU9 (by exact Nat.ne_of_beq_eq_false rfl) 0 83).trans (up_k hU4 (by exact Nat.ne_of_beq_eq_false rfl) 0 83)
        rw [e15] at b14 b14b ⊢
        refine rg_i (by omega) ?_
        have t16 : -(bb + 120000 * (m - T 210 0 c) + 20000 + 20000) ≤ U9 284 0 ((3 * (T 232 0 m)) + 1) ∧ U9 284 0 ((3 * (T 232 0 m)) + 1) ≤ bb + 120000 * (m - T 210 0 c) + 20000 + 20000 := (sa_u (d := 20000) (sa_u (d := 20000) (sa2) hU4 (by decide) (by omega)) hU9 (by decide) (by omega)) ((3 * (T 232 0 m)) + 1) (by omega) (by omega)
        refine rg_i (by omega) ?_
        refine iy_i (by omega) (by omega) ?_
        refine x_nm (fun U17 hU17 => ?_)
        have e18 := up_f hU17
        refine rg_i (by omega) ?_
        refine rg_i (by omega) ?_
        refine ix_i (by omega) ?_
        intro b19 b19b
        intro b20 b20b
        have e21 : U17 111 0 83 = T2 111 0 83 := (up_k hU17 (by exact Nat.ne_of_beq_eq_false rfl) 0 83).trans ((up_k hU9 (by exact Nat.ne_of_beq_eq_false rfl) 0 83).trans (up_k hU4 (by exact Nat.ne_of_beq_eq_false rfl) 0 83))
        rw [e21] at b20 b20b ⊢
        intro b22 b22b
        have e23 : U17 111 0 82 = T2 111 0 82 := (up_k hU17 (by exact Nat.ne_of_beq_eq_false rfl) 0 82).trans ((up_k hU9 (by exact Nat.ne_of_beq_eq_false rfl) 0 82).trans (up_k hU4 (by exact Nat.ne_of_beq_eq_false rfl) 0 82))
        rw [e23] at b22 b22b ⊢
        refine rg_i (by omega) ?_
        have t24 : -(bb + 120000 * (m - T 210 0 c) + 20000 + 20000 + 20000) ≤ U17 284 0 ((3 * (T 233 0 m)) + 1) ∧ U17 284 0 ((3 * (T 233 0 m)) + 1) ≤ bb + 120000 * (m - T 210 0 c) + 20000 + 20000 + 20000 := (sa_u (d := 20000) (sa_u (d := 20000) (sa_u (d := 20000) (sa2) hU4 (by decide) (by omega)) hU9 (by decide) (by omega)) hU17 (by decide) (by omega)) ((3 * (T 233 0 m)) + 1) (by omega) (by omega)
        refine rg_i (by omega) ?_
        refine iy_i (by omega) (by omega) ?_
        refine x_nm (fun U25 hU25 => ?_)
        have e26 := up_f hU25
        refine rg_i (by omega) ?_
        refine rg_i (by omega) ?_
        refine ix_i (by omega) ?_
        intro b27 b27b
        intro b28 b28b
        have e29 : U25 111 0 82 = T2 111 0 82 := (up_k hU25 (by exact Nat.ne_of_beq_eq_false rfl) 0 82).trans ((up_k hU17 (by exact Nat.ne_of_beq_eq_false rfl) 0 82).trans ((up_k hU9 (by exact Nat.ne_of_beq_eq_false rfl) 0 82).trans (up_k hU4 (by exact Nat.ne_of_beq_eq_false rfl) 0 82)))
        rw [e29] at b28 b28b ⊢
        have t30 : -(bb + 120000 * (m - T 210 0 c) + 20000 + 20000 + 20000 + 20000) ≤ U25 284 0 ((3 * (T 232 0 m)) + 2) ∧ U25 284 0 ((3 * (T 232 0 m)) + 2) ≤ bb + 120000 * (m - T 210 0 c) + 20000 + 20000 + 20000 + 20000 := (sa_u (d := 20000) (sa_u (d := 20000) (sa_u (d := 20000) (sa_u (d := 20000) (sa2) hU4 (by decide) (by omega)) hU9 (by decide) (by omega)) hU17 (by decide) (by omega)) hU25 (by decide) (by omega)) ((3 * (T 232 0 m)) + 2) (by omega) (by omega)
        refine rg_i (by omega) ?_
        refine iy_i (by omega) (by omega) ?_
        refine x_nm (fun U31 hU31 => ?_)
        have e32 := up_f hU31
        refine rg_i (by omega) ?_
        refine rg_i (by omega) ?_
        refine ix_i (by omega) ?_
        intro b33 b33b
        intro b34 b34b
        have e35 : U31 111 0 83 = T2 111 0 83 := (up_k hU31 (by exact Nat.ne_of_beq_eq_false rfl) 0 83).trans ((up_k hU25 (by exact Nat.ne_of_beq_eq_false rfl) 0 83).trans ((up_k hU17 (by exact Nat.ne_of_beq_eq_false rfl) 0 83).trans ((up_k hU9 (by exact Nat.ne_of_beq_eq_false rfl) 0 83).trans (up_k hU4 (by exact Nat.ne_of_beq_eq_false rfl) 0 83))))
        rw [e35] at b34 b34b ⊢
        have t36 : -(bb + 120000 * (m - T 210 0 c) + 20000 + 20000 + 20000 + 20000 + 20000) ≤ U31 284 0 ((3 * (T 233 0 m)) + 2) ∧ U31 284 0 ((3 * (T 233 0 m)) + 2) ≤ bb + 120000 * (m - T 210 0 c) + 20000 + 20000 + 20000 + 20000 + 20000 := (sa_u (d := 20000) (sa_u (d := 20000) (sa_u (d := 20000) (sa_u (d := 20000) (sa_u (d := 20000) (sa2) hU4 (by decide) (by omega)) hU9 (by decide) (by omega)) hU17 (by decide) (by omega)) hU25 (by decide) (by omega)) hU31 (by decide) (by omega)) ((3 * (T 233 0 m)) + 2) (by omega) (by omega)
        refine rg_i (by omega) ?_
        refine iy_i (by omega) (by omega) ?_
        refine x_nm (fun U37 hU37 => ?_)
        have e38 := up_f hU37
        refine hK 230 _ [] U37 ?_
        refine j_drq [some (vR 111 0), some (vI c), some (vI d), some (vI m), none, none, none] (drq_s (drq_s (drq_s (drq_s (drq_n (drq_n (drq_n drq_0))))))) ?_
        refine c_230 U37 ?_ ?_ ?_
        · exact fr_u (fr_u (fr_u (fr_u (fr_u (fr_u (fr_t (fr_0 _ _) (fr_s hf_106 rfl)) hU4 rfl) hU9 rfl) hU17 rfl) hU25 rfl) hU31 rfl) hU37 rfl
        · exact sa_m (sa_u (d := 20000) (sa_u (d := 20000) (sa_u (d := 20000) (sa_u (d := 20000) (sa_u (d := 20000) (sa_u (d := 20000) (sa2) hU4 (by decide) (by omega)) hU9 (by decide) (by omega)) hU17 (by decide) (by omega)) hU25 (by decide) (by omega)) hU31 (by decide) (by omega)) hU37 (by decide) (by omega)) (by omega)
        · omega
      refine j_blx (F := fX11) tb_X11 (nn_ _) bk_X11_sayHead_7 bs_X11_sayHead_7 hz (fun K hK => ?_)
      refine ix_i (by omega) ?_
      intro b39 b39b
      have e40 : T1 210 0 c = T 210 0 c := hf_7 210 0 c rfl
      rw [e40] at b39 b39b ⊢
      refine ix_i (by omega) ?_
      intro b41 b41b
      have e42 : T1 211 0 c = T 211 0 c := hf_7 211 0 c rfl
      rw [e42] at b41 b41b ⊢
      refine rg_i (by omega) ?_
      refine And.intro (fun c43 => ?_) (fun c43 => ?_)
      · refine hK 236 _ [] T1 ?_
        refine j_blx (F := fX11) tb_X11 (nn_ _) bk_X11_sayHead_236 bs_X11_sayHead_236 hz (fun K hK => ?_)
        refine (show po_X11_sayHead T bb c d T1 (none) from ?_)
        exact ⟨rfl, fr_t (fr_0 _ _) (fr_s hf_7 rfl), sa_m sa1 (by omega)⟩
      · refine ix_i (by omega) ?_
        intro b44 b44b
        have e45 : T1 232 0 m = T 232 0 m := hf_7 232 0 m rfl
        rw [e45] at b44 b44b ⊢
        refine ix_i (by omega) ?_
        intro b46 b46b
        have e47 : T1 233 0 m = T 233 0 m := hf_7 233 0 m rfl
        rw [e47] at b46 b46b ⊢
        intro b48 b48b
        have e49 : T1 111 0 85 = T 111 0 85 := hf_7 111 0 85 rfl
        rw [e49] at b48 b48b ⊢
        intro w50 w50b
        intro w51 w51b
        refine And.intro (fun c52 => ?_) (fun c52 => ?_)
        · refine hK 230 [some (vR 111 0), some (vI c), some (vI d), some (vI m), some (vI (T 232 0 m)), some (vI (T 233 0 m)), none] [] T1 ?_
          refine j_drq [some (vR 111 0), some (vI c), some (vI d), some (vI m), none, none, none] (drq_s (drq_s (drq_s (drq_s (drq_n (drq_n (drq_n drq_0))))))) ?_
          refine c_230 T1 ?_ ?_ ?_
          · exact fr_t (fr_0 _ _) (fr_s hf_7 rfl)
          · exact sa_m (sa1) (by omega)
          · omega
        · intro b53 b53b
          have e54 : T1 111 0 85 = T 111 0 85 := hf_7 111 0 85 rfl
          rw [e54] at b53 b53b ⊢
          intro w55 w55b
          intro w56 w56b
          refine And.intro (fun c57 => ?_) (fun c57 => ?_)
          · refine hK 230 [some (vR 111 0), some (vI c), some (vI d), some (vI m), some (vI (T 232 0 m)), some (vI (T 233 0 m)), none] [] T1 ?_
            refine j_drq [some (vR 111 0), some (vI c), some (vI d), some (vI m), none, none, none] (drq_s (drq_s (drq_s (drq_s (drq_n (drq_n (drq_n drq_0))))))) ?_
            refine c_230 T1 ?_ ?_ ?_
            · exact fr_t (fr_0 _ _) (fr_s hf_7 rfl)
            · exact sa_m (sa1) (by omega)
            · omega
          · refine hK 69 [some (vR 111 0), some (vI c), some (vI d), some (vI m), some (vI (T 232 0 m)), some (vI (T 233 0 m)), none] [vI d, vI m, vR 111 0] T1 ?_
            refine j_callV (y := yX11_counts) (Yc := zX11_counts) (rest := []) [vI m, vI d] (ct_X11_counts (T := T1) (by omega) (SC__f (ws := [(284, []), (111, [82, 83])]) hsc (fr_t (fr_0 _ _) (fr_s hf_7 rfl)) ⟨fun _ => rfl, fun _ => rfl, trivial⟩)) cl_X11_487 (qd_c (by decide +kernel)) (nn_ _) rfl (rf_of rfl) (Nat.le_of_ble_eq_true rfl) (Nat.le_of_ble_eq_true rfl) (Nat.le_of_ble_eq_true rfl) rfl ?_
            rintro U58 _ ⟨x59, rfl, fU58, qU58⟩
            show J_ zX11_sayHead T (po_X11_sayHead T bb c d) 0 0 72 _ [vI x59] U58
            refine j_blx (F := fX11) tb_X11 (nn_ _) bk_X11_sayHead_72 bs_X11_sayHead_72 hz (fun K hK => ?_)
            refine And.intro (fun c60 => ?_) (fun c60 => ?_)
            · refine hK 230 _ [] U58 ?_
              refine j_drq [some (vR 111 0), some (vI c), some (vI d), some (vI m), none, none, none] (drq_s (drq_s (drq_s (drq_s (drq_n (drq_n (drq_n drq_0))))))) ?_
              refine c_230 U58 ?_ ?_ ?_
              · exact fr_t (fr_t (fr_0 _ _) (fr_s hf_7 rfl)) (fr_s fU58 rfl)
              · exact sa_m (sa_f (sa1) (fun j => fU58 284 0 j rfl)) (by omega)
              · omega
            · intro b61 b61b
              intro b62 b62b
              refine And.intro (fun c63 => ?_) (fun c63 => ?_)
              · refine hK 90 [some (vR 111 0), some (vI c), some (vI d), some (vI m), some (vI (T 232 0 m)), some (vI (T 233 0 m)), none] [] U58 ?_
                refine j_blx (F := fX11) tb_X11 (nn_ _) bk_X11_sayHead_90 bs_X11_sayHead_90 hz (fun K hK => ?_)
                intro b64 b64b
                intro b65 b65b
                refine And.intro (fun c66 => ?_) (fun c66 => ?_)
                · refine hK 105 _ [] U58 ?_
                  refine j_blx (F := fX11) tb_X11 (nn_ _) bk_X11_sayHead_105 bs_X11_sayHead_105 hz (fun K hK => ?_)
                  refine hK 106 _ [vI 3] U58 ?_
                  refine c_106 3 U58 ?_ ?_ ?_
                  · exact fr_t (fr_t (fr_0 _ _) (fr_s hf_7 rfl)) (fr_s fU58 rfl)
                  · exact sa_m (sa_f (sa1) (fun j => fU58 284 0 j rfl)) (by omega)
                  · omega
                · refine hK 106 _ [vI 2] U58 ?_
                  refine c_106 2 U58 ?_ ?_ ?_
                  · exact fr_t (fr_t (fr_0 _ _) (fr_s hf_7 rfl)) (fr_s fU58 rfl)
                  · exact sa_m (sa_f (sa1) (fun j => fU58 284 0 j rfl)) (by omega)
                  · omega
              · refine hK 106 _ [vI 1] U58 ?_
                refine c_106 1 U58 ?_ ?_ ?_
                · exact fr_t (fr_t (fr_0 _ _) (fr_s hf_7 rfl)) (fr_s fU58 rfl)
                · exact sa_m (sa_f (sa1) (fun j => fU58 284 0 j rfl)) (by omega)
                · omega
  refine j_blx (F := fX11) tb_X11 (nn_ _) bk_X11_sayHead_0 bs_X11_sayHead_0 hz (fun K hK => ?_)
  refine ix_i (by omega) ?_
  intro b67 b67b
  refine hK 7 [some (vR 111 0), some (vI c), some (vI d), some (vI (T 210 0 c)), none, none, none] [] T ?_
  refine c_7 _ (T 210 0 c) T (Nat.le_refl _) ?_ ?_ ?_
  · exact fr_0 _ _
  · exact sa_m (hsa) (by omega)
  · omega
def SN_ (T : Zt) : Prop := ∀ j, 0 ≤ j → j < 36 → 0 ≤ T 284 0 j ∧ T 284 0 j ≤ 2147483647
theorem sb_a {T : Zt} {b : Int} (h : SA_ T b) (hb : b ≤ 1000000000) : SB_ T := fun x y i a1 a2 a3 a4 a5 a6 => by
  have p := h (3 * x + i) (by omega) (by omega)
  have q := h (3 * y + i) (by omega) (by omega)
  omega
theorem sb_n {T : Zt} (h : SN_ T) : SB_ T := fun x y i a1 a2 a3 a4 a5 a6 => by
  have p := h (3 * x + i) (by omega) (by omega)
  have q := h (3 * y + i) (by omega) (by omega)
  omega
theorem sa_v {T T1 : Zt} {b i v : Int} (h : SA_ T b) (e : T1 = up_ T 284 0 i v) (hv : -b ≤ v ∧ v ≤ b) : SA_ T1 b := fun j a c => by
  by_cases z : j = i
  · rw [z, up_f e]; exact hv
  · rw [up_g e (fun q => z q.2.2)]; exact h j a c
theorem sn_v {T T1 : Zt} {i v : Int} (h : SN_ T) (e : T1 = up_ T 284 0 i v) (hv : 0 ≤ v ∧ v ≤ 2147483647) : SN_ T1 := fun j a c => by
  by_cases z : j = i
  · rw [z, up_f e]; exact hv
  · rw [up_g e (fun q => z q.2.2)]; exact h j a c
abbrev cX11_say : ByteArray := prog_13_method_87_code
def yX11_say : MethodName := ⟨RX11, "say", "(III)V"⟩
def zX11_say : Zm := (RX11, cX11_say, 7, none, { frames := 2, cells := 0, slots := 0, locals := 48 })
theorem bk_X11_say_285 : ck_ fX11 none cX11_say 285 [.iinc 5 1, .goto 59] 291 = true := qck_r (nn_ _) (by decide +kernel)
theorem bs_X11_say_285 {P : Zt → Option Zv → Prop} (K : Int → Zl → List Zv → Zt → Prop) : sx_ K P [.iinc 5 1, .goto 59] 291 = x_iinc 5 1 (x_goto 59 K) := ((xe_iinc 5 1).trans (congrArg (x_iinc 5 1) (xe_goto 59)))
theorem bk_X11_say_59 : ck_ fX11 none cX11_say 59 [.iload 5, .aload 0, .tableswitch 0 11 12 #[], .if_icmp .ge 291, .iconst 9, .iload 5, .imul, .istore 6, .iload 4] 77 = true := qck_r (nn_ _) (by decide +kernel)
theorem bs_X11_say_59 {P : Zt → Option Zv → Prop} (K : Int → Zl → List Zv → Zt → Prop) : sx_ K P [.iload 5, .aload 0, .tableswitch 0 11 12 #[], .if_icmp .ge 291, .iconst 9, .iload 5, .imul, .istore 6, .iload 4] 77 = x_iload 5 (x_aload 0 (x_g0 111 12 0 12 (x_if_icmp .ge 291 K (x_iconst 9 (x_iload 5 (x_imul (x_istore 6 (x_iload 4 (K 77))))))))) := ((xe_iload 5).trans (congrArg (x_iload 5) ((xe_aload 0).trans (congrArg (x_aload 0) ((xe_g0 (kk := 111) rfl tl_11_12).trans (congrArg (x_g0 111 12 0 12) ((xe_if_icmp .ge 291).trans (congrArg (x_if_icmp .ge 291 K) ((xe_iconst 9).trans (congrArg (x_iconst 9) ((xe_iload 5).trans (congrArg (x_iload 5) ((xe_imul).trans (congrArg (x_imul) ((xe_istore 6).trans (congrArg (x_istore 6) ((xe_iload 4).trans (congrArg (x_iload 4) xe_nil))))))))))))))))))
theorem bk_X11_say_291 : ck_ fX11 none cX11_say 291 [.return_] 292 = true := qck_r (nn_ _) (by decide +kernel)
theorem bs_X11_say_291 {P : Zt → Option Zv → Prop} (K : Int → Zl → List Zv → Zt → Prop) : sx_ K P [.return_] 292 = x_return_ P := (xe_return_)
theorem ds_X11_say_77 : decode cX11_say 77 = .ok (.tableswitch 183 (-1) 5 #[43, 65, 96, 117, 138, 183, 160], 43) := by decide +kernel
theorem bk_X11_say_120 : ck_ fX11 none cX11_say 120 [.aload 0, .tableswitch 0 11 84 #[], .iconst 3, .iload 5, .imul, .aload 0, .tableswitch 0 11 76 #[], .iload 6, .iconst 6, .iadd, .iaload, .iastore, .goto 285] 142 = true := qck_r (nn_ _) (by decide +kernel)
theorem bs_X11_say_120 {P : Zt → Option Zv → Prop} (K : Int → Zl → List Zv → Zt → Prop) : sx_ K P [.aload 0, .tableswitch 0 11 84 #[], .iconst 3, .iload 5, .imul, .aload 0, .tableswitch 0 11 76 #[], .iload 6, .iconst 6, .iadd, .iaload, .iastore, .goto 285] 142 = x_aload 0 (x_g1 111 284 (x_iconst 3 (x_iload 5 (x_imul (x_aload 0 (x_g1 111 276 (x_iload 6 (x_iconst 6 (x_iadd (x_iaload (x_iastore (x_goto 285 K)))))))))))) := ((xe_aload 0).trans (congrArg (x_aload 0) ((xe_g1 (kk := 111) rfl tl_11_84).trans (congrArg (x_g1 111 284) ((xe_iconst 3).trans (congrArg (x_iconst 3) ((xe_iload 5).trans (congrArg (x_iload 5) ((xe_imul).trans (congrArg (x_imul) ((xe_aload 0).trans (congrArg (x_aload 0) ((xe_g1 (kk := 111) rfl tl_11_76).trans (congrArg (x_g1 111 276) ((xe_iload 6).trans (congrArg (x_iload 6) ((xe_iconst 6).trans (congrArg (x_iconst 6) ((xe_iadd).trans (congrArg (x_iadd) ((xe_iaload).trans (congrArg (x_iaload) ((xe_iastore).trans (congrArg (x_iastore) (xe_goto 285)))))))))))))))))))))))))
theorem bk_X11_say_142 : ck_ fX11 none cX11_say 142 [.aload 0, .tableswitch 0 11 84 #[], .iconst 3, .iload 5, .imul, .aload 0, .tableswitch 0 11 76 #[], .iload 6, .iconst 4, .iadd, .iaload, .aload 0, .tableswitch 0 11 76 #[], .iload 6, .iconst 5, .iadd, .iaload, .isub, .iastore, .goto 285] 173 = true := qck_r (nn_ _) (by decide +kernel)
theorem bs_X11_say_142 {P : Zt → Option Zv → Prop} (K : Int → Zl → List Zv → Zt → Prop) : sx_ K P [.aload 0, .tableswitch 0 11 84 #[], .iconst 3, .iload 5, .imul, .aload 0, .tableswitch 0 11 76 #[], .iload 6, .iconst 4, .iadd, .iaload, .aload 0, .tableswitch 0 11 76 #[], .iload 6, .iconst 5, .iadd, .iaload, .isub, .iastore, .goto 285] 173 = x_aload 0 (x_g1 111 284 (x_iconst 3 (x_iload 5 (x_imul (x_aload 0 (x_g1 111 276 (x_iload 6 (x_iconst 4 (x_iadd (x_iaload (x_aload 0 (x_g1 111 276 (x_iload 6 (x_iconst 5 (x_iadd (x_iaload (x_isub (x_iastore (x_goto 285 K))))))))))))))))))) := ((xe_aload 0).trans (congrArg (x_aload 0) ((xe_g1 (kk := 111) rfl tl_11_84).trans (congrArg (x_g1 111 284) ((xe_iconst 3).trans (congrArg (x_iconst 3) ((xe_iload 5).trans (congrArg (x_iload 5) ((xe_imul).trans (congrArg (x_imul) ((xe_aload 0).trans (congrArg (x_aload 0) ((xe_g1 (kk := 111) rfl tl_11_76).trans (congrArg (x_g1 111 276) ((xe_iload 6).trans (congrArg (x_iload 6) ((xe_iconst 4).trans (congrArg (x_iconst 4) ((xe_iadd).trans (congrArg (x_iadd) ((xe_iaload).trans (congrArg (x_iaload) ((xe_aload 0).trans (congrArg (x_aload 0) ((xe_g1 (kk := 111) rfl tl_11_76).trans (congrArg (x_g1 111 276) ((xe_iload 6).trans (congrArg (x_iload 6) ((xe_iconst 5).trans (congrArg (x_iconst 5) ((xe_iadd).trans (congrArg (x_iadd) ((xe_iaload).trans (congrArg (x_iaload) ((xe_isub).trans (congrArg (x_isub) ((xe_iastore).trans (congrArg (x_iastore) (xe_goto 285)))))))))))))))))))))))))))))))))))))))
theorem bk_X11_say_173 : ck_ fX11 none cX11_say 173 [.aload 0, .tableswitch 0 11 84 #[], .iconst 3, .iload 5, .imul, .aload 0, .tableswitch 0 11 76 #[], .iload 6, .iconst 4, .iadd, .iaload, .iastore, .goto 285] 194 = true := qck_r (nn_ _) (by decide +kernel)
theorem bs_X11_say_173 {P : Zt → Option Zv → Prop} (K : Int → Zl → List Zv → Zt → Prop) : sx_ K P [.aload 0, .tableswitch 0 11 84 #[], .iconst 3, .iload 5, .imul, .aload 0, .tableswitch 0 11 76 #[], .iload 6, .iconst 4, .iadd, .iaload, .iastore, .goto 285] 194 = x_aload 0 (x_g1 111 284 (x_iconst 3 (x_iload 5 (x_imul (x_aload 0 (x_g1 111 276 (x_iload 6 (x_iconst 4 (x_iadd (x_iaload (x_iastore (x_goto 285 K)))))))))))) := ((xe_aload 0).trans (congrArg (x_aload 0) ((xe_g1 (kk := 111) rfl tl_11_84).trans (congrArg (x_g1 111 284) ((xe_iconst 3).trans (congrArg (x_iconst 3) ((xe_iload 5).trans (congrArg (x_iload 5) ((xe_imul).trans (congrArg (x_imul) ((xe_aload 0).trans (congrArg (x_aload 0) ((xe_g1 (kk := 111) rfl tl_11_76).trans (congrArg (x_g1 111 276) ((xe_iload 6).trans (congrArg (x_iload 6) ((xe_iconst 4).trans (congrArg (x_iconst 4) ((xe_iadd).trans (congrArg (x_iadd) ((xe_iaload).trans (congrArg (x_iaload) ((xe_iastore).trans (congrArg (x_iastore) (xe_goto 285)))))))))))))))))))))))))
theorem bk_X11_say_194 : ck_ fX11 none cX11_say 194 [.aload 0, .tableswitch 0 11 84 #[], .iconst 3, .iload 5, .imul, .aload 0, .tableswitch 0 11 76 #[], .iload 6, .iconst 1, .iadd, .iaload, .iastore, .goto 285] 215 = true := qck_r (nn_ _) (by decide +kernel)
theorem bs_X11_say_194 {P : Zt → Option Zv → Prop} (K : Int → Zl → List Zv → Zt → Prop) : sx_ K P [.aload 0, .tableswitch 0 11 84 #[], .iconst 3, .iload 5, .imul, .aload 0, .tableswitch 0 11 76 #[], .iload 6, .iconst 1, .iadd, .iaload, .iastore, .goto 285] 215 = x_aload 0 (x_g1 111 284 (x_iconst 3 (x_iload 5 (x_imul (x_aload 0 (x_g1 111 276 (x_iload 6 (x_iconst 1 (x_iadd (x_iaload (x_iastore (x_goto 285 K)))))))))))) := ((xe_aload 0).trans (congrArg (x_aload 0) ((xe_g1 (kk := 111) rfl tl_11_84).trans (congrArg (x_g1 111 284) ((xe_iconst 3).trans (congrArg (x_iconst 3) ((xe_iload 5).trans (congrArg (x_iload 5) ((xe_imul).trans (congrArg (x_imul) ((xe_aload 0).trans (congrArg (x_aload 0) ((xe_g1 (kk := 111) rfl tl_11_76).trans (congrArg (x_g1 111 276) ((xe_iload 6).trans (congrArg (x_iload 6) ((xe_iconst 1).trans (congrArg (x_iconst 1) ((xe_iadd).trans (congrArg (x_iadd) ((xe_iaload).trans (congrArg (x_iaload) ((xe_iastore).trans (congrArg (x_iastore) (xe_goto 285)))))))))))))))))))))))))
theorem bk_X11_say_215 : ck_ fX11 none cX11_say 215 [.aload 0, .tableswitch 0 11 84 #[], .iconst 3, .iload 5, .imul, .aload 0, .tableswitch 0 11 76 #[], .iload 6, .iconst 7, .iadd, .iaload, .iastore, .goto 285] 237 = true := qck_r (nn_ _) (by decide +kernel)
theorem bs_X11_say_215 {P : Zt → Option Zv → Prop} (K : Int → Zl → List Zv → Zt → Prop) : sx_ K P [.aload 0, .tableswitch 0 11 84 #[], .iconst 3, .iload 5, .imul, .aload 0, .tableswitch 0 11 76 #[], .iload 6, .iconst 7, .iadd, .iaload, .iastore, .goto 285] 237 = x_aload 0 (x_g1 111 284 (x_iconst 3 (x_iload 5 (x_imul (x_aload 0 (x_g1 111 276 (x_iload 6 (x_iconst 7 (x_iadd (x_iaload (x_iastore (x_goto 285 K)))))))))))) := ((xe_aload 0).trans (congrArg (x_aload 0) ((xe_g1 (kk := 111) rfl tl_11_84).trans (congrArg (x_g1 111 284) ((xe_iconst 3).trans (congrArg (x_iconst 3) ((xe_iload 5).trans (congrArg (x_iload 5) ((xe_imul).trans (congrArg (x_imul) ((xe_aload 0).trans (congrArg (x_aload 0) ((xe_g1 (kk := 111) rfl tl_11_76).trans (congrArg (x_g1 111 276) ((xe_iload 6).trans (congrArg (x_iload 6) ((xe_iconst 7).trans (congrArg (x_iconst 7) ((xe_iadd).trans (congrArg (x_iadd) ((xe_iaload).trans (congrArg (x_iaload) ((xe_iastore).trans (congrArg (x_iastore) (xe_goto 285)))))))))))))))))))))))))
theorem bk_X11_say_260 : ck_ fX11 none cX11_say 260 [.aload 0, .tableswitch 0 11 84 #[], .iconst 3, .iload 5, .imul, .aload 0, .iload 1, .iconst 15] 272 = true := qck_r (nn_ _) (by decide +kernel)
theorem bs_X11_say_260 {P : Zt → Option Zv → Prop} (K : Int → Zl → List Zv → Zt → Prop) : sx_ K P [.aload 0, .tableswitch 0 11 84 #[], .iconst 3, .iload 5, .imul, .aload 0, .iload 1, .iconst 15] 272 = x_aload 0 (x_g1 111 284 (x_iconst 3 (x_iload 5 (x_imul (x_aload 0 (x_iload 1 (x_iconst 15 (K 272)))))))) := ((xe_aload 0).trans (congrArg (x_aload 0) ((xe_g1 (kk := 111) rfl tl_11_84).trans (congrArg (x_g1 111 284) ((xe_iconst 3).trans (congrArg (x_iconst 3) ((xe_iload 5).trans (congrArg (x_iload 5) ((xe_imul).trans (congrArg (x_imul) ((xe_aload 0).trans (congrArg (x_aload 0) ((xe_iload 1).trans (congrArg (x_iload 1) ((xe_iconst 15).trans (congrArg (x_iconst 15) xe_nil))))))))))))))))
theorem bk_X11_say_275 : ck_ fX11 none cX11_say 275 [.aload 0, .tableswitch 0 11 85 #[], .iload 5] 281 = true := qck_r (nn_ _) (by decide +kernel)
theorem bs_X11_say_275 {P : Zt → Option Zv → Prop} (K : Int → Zl → List Zv → Zt → Prop) : sx_ K P [.aload 0, .tableswitch 0 11 85 #[], .iload 5] 281 = x_aload 0 (x_g0 111 85 0 4095 (x_iload 5 (K 281))) := ((xe_aload 0).trans (congrArg (x_aload 0) ((xe_g0 (kk := 111) rfl tl_11_85).trans (congrArg (x_g0 111 85 0 4095) ((xe_iload 5).trans (congrArg (x_iload 5) xe_nil))))))
set_option maxRecDepth 100000 in
theorem cl_X11_505 : cs_ RX11 505 yX11_lot zX11_lot 3 := ⟨gi_S (lwq_9 (dqc_m (dqc_m (dqc_m (dqc_m (dqc_m (dqc_m (List.mem_of_getElem? (i := 6) rfl))))))) rfl : Cond.methodLink RX11 505 yX11_lot ∈ lw_g) (lwq_9 (dqc_m (dqc_m (dqc_m (dqc_m (dqc_m (dqc_m (List.mem_of_getElem? (i := 7) rfl))))))) rfl : Cond.static yX11_lot ∈ lw_g) (lwq_1 (dqa_m (List.mem_of_getElem? (i := 2) rfl)) rfl : Cond.initialized yX11_lot.cls ∈ lw_g) (lwq_9 (dqc_m (dqc_m (dqc_m (dqc_m (dqc_m (dqc_m (dqa_m (List.mem_of_getElem? (i := 0) rfl)))))))) rfl : Cond.code yX11_lot cX11_lot 5 (some .int) ∈ lw_g), ⟨by decide, by decide, by decide +kernel⟩⟩
theorem bk_X11_say_284 : ck_ fX11 none cX11_say 284 [.iastore] 285 = true := qck_r (nn_ _) (by decide +kernel)
theorem bs_X11_say_284 {P : Zt → Option Zv → Prop} (K : Int → Zl → List Zv → Zt → Prop) : sx_ K P [.iastore] 285 = x_iastore (K 285) := ((xe_iastore).trans (congrArg (x_iastore) xe_nil))
theorem bk_X11_say_237 : ck_ fX11 none cX11_say 237 [.aload 0, .tableswitch 0 11 84 #[], .iconst 3, .iload 5, .imul, .aload 0, .tableswitch 0 11 76 #[], .iload 6, .iconst 8, .iadd, .iaload, .ineg, .iastore, .goto 285] 260 = true := qck_r (nn_ _) (by decide +kernel)
theorem bs_X11_say_237 {P : Zt → Option Zv → Prop} (K : Int → Zl → List Zv → Zt → Prop) : sx_ K P [.aload 0, .tableswitch 0 11 84 #[], .iconst 3, .iload 5, .imul, .aload 0, .tableswitch 0 11 76 #[], .iload 6, .iconst 8, .iadd, .iaload, .ineg, .iastore, .goto 285] 260 = x_aload 0 (x_g1 111 284 (x_iconst 3 (x_iload 5 (x_imul (x_aload 0 (x_g1 111 276 (x_iload 6 (x_iconst 8 (x_iadd (x_iaload (x_ineg (x_iastore (x_goto 285 K))))))))))))) := ((xe_aload 0).trans (congrArg (x_aload 0) ((xe_g1 (kk := 111) rfl tl_11_84).trans (congrArg (x_g1 111 284) ((xe_iconst 3).trans (congrArg (x_iconst 3) ((xe_iload 5).trans (congrArg (x_iload 5) ((xe_imul).trans (congrArg (x_imul) ((xe_aload 0).trans (congrArg (x_aload 0) ((xe_g1 (kk := 111) rfl tl_11_76).trans (congrArg (x_g1 111 276) ((xe_iload 6).trans (congrArg (x_iload 6) ((xe_iconst 8).trans (congrArg (x_iconst 8) ((xe_iadd).trans (congrArg (x_iadd) ((xe_iaload).trans (congrArg (x_iaload) ((xe_ineg).trans (congrArg (x_ineg) ((xe_iastore).trans (congrArg (x_iastore) (xe_goto 285)))))))))))))))))))))))))))
theorem bk_X11_say_22 : ck_ fX11 none cX11_say 22 [.iload 5, .iconst 36, .if_icmp .ge 43, .aload 0, .tableswitch 0 11 84 #[], .iload 5, .iconst 0, .iastore, .iinc 5 1, .goto 22] 43 = true := qck_r (nn_ _) (by decide +kernel)
theorem bs_X11_say_22 {P : Zt → Option Zv → Prop} (K : Int → Zl → List Zv → Zt → Prop) : sx_ K P [.iload 5, .iconst 36, .if_icmp .ge 43, .aload 0, .tableswitch 0 11 84 #[], .iload 5, .iconst 0, .iastore, .iinc 5 1, .goto 22] 43 = x_iload 5 (x_iconst 36 (x_if_icmp .ge 43 K (x_aload 0 (x_g1 111 284 (x_iload 5 (x_iconst 0 (x_iastore (x_iinc 5 1 (x_goto 22 K))))))))) := ((xe_iload 5).trans (congrArg (x_iload 5) ((xe_iconst 36).trans (congrArg (x_iconst 36) ((xe_if_icmp .ge 43).trans (congrArg (x_if_icmp .ge 43 K) ((xe_aload 0).trans (congrArg (x_aload 0) ((xe_g1 (kk := 111) rfl tl_11_84).trans (congrArg (x_g1 111 284) ((xe_iload 5).trans (congrArg (x_iload 5) ((xe_iconst 0).trans (congrArg (x_iconst 0) ((xe_iastore).trans (congrArg (x_iastore) ((xe_iinc 5 1).trans (congrArg (x_iinc 5 1) (xe_goto 22)))))))))))))))))))
theorem bk_X11_say_43 : ck_ fX11 none cX11_say 43 [.iload 4, .iconst 4, .if_icmp .ne 56, .aload 0, .iload 1, .iload 2] 52 = true := qck_r (nn_ _) (by decide +kernel)
theorem bs_X11_say_43 {P : Zt → Option Zv → Prop} (K : Int → Zl → List Zv → Zt → Prop) : sx_ K P [.iload 4, .iconst 4, .if_icmp .ne 56, .aload 0, .iload 1, .iload 2] 52 = x_iload 4 (x_iconst 4 (x_if_icmp .ne 56 K (x_aload 0 (x_iload 1 (x_iload 2 (K 52)))))) := ((xe_iload 4).trans (congrArg (x_iload 4) ((xe_iconst 4).trans (congrArg (x_iconst 4) ((xe_if_icmp .ne 56).trans (congrArg (x_if_icmp .ne 56 K) ((xe_aload 0).trans (congrArg (x_aload 0) ((xe_iload 1).trans (congrArg (x_iload 1) ((xe_iload 2).trans (congrArg (x_iload 2) xe_nil))))))))))))
theorem bk_X11_say_56 : ck_ fX11 none cX11_say 56 [.iconst 0, .istore 5] 59 = true := qck_r (nn_ _) (by decide +kernel)
theorem bs_X11_say_56 {P : Zt → Option Zv → Prop} (K : Int → Zl → List Zv → Zt → Prop) : sx_ K P [.iconst 0, .istore 5] 59 = x_iconst 0 (x_istore 5 (K 59)) := ((xe_iconst 0).trans (congrArg (x_iconst 0) ((xe_istore 5).trans (congrArg (x_istore 5) xe_nil))))
set_option maxRecDepth 100000 in
theorem cl_X11_502 : cv_ RX11 502 yX11_sayHead zX11_sayHead 11 2 := ⟨gi_V (lwq_9 (dqc_m (dqc_m (dqc_m (dqc_m (dqc_m (dqc_m (List.mem_of_getElem? (i := 2) rfl))))))) rfl : Cond.methodLink RX11 502 yX11_sayHead ∈ lw_g) (lwq_9 (dqc_m (dqc_m (dqc_m (dqc_m (dqc_m (dqc_m (List.mem_of_getElem? (i := 4) rfl))))))) rfl : Cond.instanceMethod yX11_sayHead ∈ lw_g) (lw_sel 61 rfl : Cond.selects yX11_sayHead.cls yX11_sayHead yX11_sayHead ∈ lw_g) (lwq_1 (dqa_m (List.mem_of_getElem? (i := 2) rfl)) rfl : Cond.initialized yX11_sayHead.cls ∈ lw_g) (lwq_9 (dqc_m (dqc_m (dqc_m (dqc_m (dqc_m (dqc_m (List.mem_of_getElem? (i := 5) rfl))))))) rfl : Cond.code yX11_sayHead cX11_sayHead 7 none ∈ lw_g), ⟨nmh_1.1, nmh_1.2, pdq_0⟩, ⟨_, _, rfl⟩⟩
theorem bk_X11_say_55 : ck_ fX11 none cX11_say 55 [.return_] 56 = true := qck_r (nn_ _) (by decide +kernel)
theorem bs_X11_say_55 {P : Zt → Option Zv → Prop} (K : Int → Zl → List Zv → Zt → Prop) : sx_ K P [.return_] 56 = x_return_ P := (xe_return_)
theorem bk_X11_say_17 : ck_ fX11 none cX11_say 17 [.istore 4, .iconst 0, .istore 5] 22 = true := qck_r (nn_ _) (by decide +kernel)
theorem bs_X11_say_17 {P : Zt → Option Zv → Prop} (K : Int → Zl → List Zv → Zt → Prop) : sx_ K P [.istore 4, .iconst 0, .istore 5] 22 = x_istore 4 (x_iconst 0 (x_istore 5 (K 22))) := ((xe_istore 4).trans (congrArg (x_istore 4) ((xe_iconst 0).trans (congrArg (x_iconst 0) ((xe_istore 5).trans (congrArg (x_istore 5) xe_nil))))))
theorem bk_X11_say_0 : ck_ fX11 none cX11_say 0 [.iload 3, .ifCond .ne 8, .iconst (-1), .goto 17] 8 = true := qck_r (nn_ _) (by decide +kernel)
theorem bs_X11_say_0 {P : Zt → Option Zv → Prop} (K : Int → Zl → List Zv → Zt → Prop) : sx_ K P [.iload 3, .ifCond .ne 8, .iconst (-1), .goto 17] 8 = x_iload 3 (x_ifCond .ne 8 K (x_iconst (-1) (x_goto 17 K))) := ((xe_iload 3).trans (congrArg (x_iload 3) ((xe_ifCond .ne 8).trans (congrArg (x_ifCond .ne 8 K) ((xe_iconst (-1)).trans (congrArg (x_iconst (-1)) (xe_goto 17)))))))
theorem bk_X11_say_8 : ck_ fX11 none cX11_say 8 [.aload 0, .iload 1, .iconst 15, .iload 3, .iadd] 14 = true := qck_r (nn_ _) (by decide +kernel)
theorem bs_X11_say_8 {P : Zt → Option Zv → Prop} (K : Int → Zl → List Zv → Zt → Prop) : sx_ K P [.aload 0, .iload 1, .iconst 15, .iload 3, .iadd] 14 = x_aload 0 (x_iload 1 (x_iconst 15 (x_iload 3 (x_iadd (K 14))))) := ((xe_aload 0).trans (congrArg (x_aload 0) ((xe_iload 1).trans (congrArg (x_iload 1) ((xe_iconst 15).trans (congrArg (x_iconst 15) ((xe_iload 3).trans (congrArg (x_iload 3) ((xe_iadd).trans (congrArg (x_iadd) xe_nil))))))))))
abbrev po_X11_say (T : Zt) (c d k : Int) : Zt → Option Zv → Prop := fun T' r => r = none ∧ fr_ [(284, []), (111, [82, 83])] T T' ∧ (SB_ T')
set_option maxHeartbeats 4000000 in
theorem ct_X11_say {T : Zt} {c d k : Int} (h1 : 0 ≤ c ∧ c < 4) (hml : ML_ T) (hsc : SC_ T) (hk : 0 ≤ k ∧ k ≤ 7) (htb : TB_ T 150000000) : Ct_ yX11_say zX11_say T [vR 111 0, vI c, vI d, vI k] (po_X11_say T c d k) := by
  refine ct_of pn_11 rfl rfl (Nat.le_of_ble_eq_true rfl) (fun hT hav => ?_)
  have hr_c : -2147483648 ≤ c ∧ c ≤ 2147483647 := hav (vI c) (List.mem_cons_of_mem _ List.mem_cons_self)
  have hr_d : -2147483648 ≤ d ∧ d ≤ 2147483647 := hav (vI d) (List.mem_cons_of_mem _ (List.mem_cons_of_mem _ List.mem_cons_self))
  have hr_k : -2147483648 ≤ k ∧ k ≤ 2147483647 := hav (vI k) (List.mem_cons_of_mem _ (List.mem_cons_of_mem _ (List.mem_cons_of_mem _ List.mem_cons_self)))
  have hz : zX11_say.2.2.2.1 = some .boolean → ∀ (T' : Zt) (x : Int), po_X11_say T c d k T' (some (vI x)) → 0 ≤ x ∧ x ≤ 1 := fun h => by cases h
  have hb_12 : 0 ≤ T 111 0 12 ∧ T 111 0 12 ≤ 12 := bd_f hT 111 12 tl_11_12 0
  show J_ zX11_say T (po_X11_say T c d k) 0 0 0 [some (vR 111 0), some (vI c), some (vI d), some (vI k), none, none, none] [] T
  have c_17 : ∀ (v : Int), J_ zX11_say T (po_X11_say T c d k) 0 0 17 [some (vR 111 0), some (vI c), some (vI d), some (vI k), none, none, none] [vI v] T := by
    intro v 
    have c_59 : ∀ (nn : Nat) (i : Int) (T2 : Zt), ((12 - i).toNat) ≤ nn → (fr_ [(284, [])] T T2) → (((-1 ≤ v ∧ v ≤ 5) → SA_ T2 300000000) ∧ (¬ (-1 ≤ v ∧ v ≤ 5) → SN_ T2)) → (0 ≤ i ∧ v ≠ 4) → J_ zX11_say T (po_X11_say T c d k) 0 0 59 [some (vR 111 0), some (vI c), some (vI d), some (vI k), some (vI v), some (vI i), none] [] T2 := by
      intro nn
      induction nn using Nat.strongRecOn with
      | _ nn ih_59 =>
        intro i T2 hm_59 hf_59 w2 i2
        replace hm_59 := fun (_ : Unit) => hm_59
        have c_285 : ∀ (T3 : Zt), (fr_ [(284, [])] T T3) → (((-1 ≤ v ∧ v ≤ 5) → SA_ T3 300000000) ∧ (¬ (-1 ≤ v ∧ v ≤ 5) → SN_ T3)) → (i < 12) → J_ zX11_say T (po_X11_say T c d k) 0 0 285 [some (vR 111 0), some (vI c), some (vI d), some (vI k), some (vI v), some (vI i), none] [] T3 := by
          intro T3 hf_285 w3 i3
          refine j_blx (F := fX11) tb_X11 (nn_ _) bk_X11_say_285 bs_X11_say_285 hz (fun K hK => ?_)
          refine rg_i (by omega) ?_
          refine hK 59 [some (vR 111 0), some (vI c), some (vI d), some (vI k), some (vI v), some (vI (i + 1)), none] [] T3 ?_
          refine ih_59 _ ?_ (i + 1) T3 (Nat.le_refl _) ?_ ?_ ?_
          · have hm_59 := hm_59 (); omega
          · exact fr_t (fr_0 _ _) (fr_s hf_285 rfl)
          · exact w3
          · omega
        refine j_blx (F := fX11) tb_X11 (nn_ _) bk_X11_say_59 bs_X11_say_59 hz (fun K hK => ?_)
        intro b1 b1b
        have e2 : T2 111 0 12 = T 111 0 12 := hf_59 111 0 12 rfl
        rw [e2] at b1 b1b ⊢
        refine And.intro (fun c3 => ?_) (fun c3 => ?_)
        · refine hK 291 _ [] T2 ?_
          refine j_blx (F := fX11) tb_X11 (nn_ _) bk_X11_say_291 bs_X11_say_291 hz (fun K hK => ?_)
          refine (show po_X11_say T c d k T2 (none) from ?_)
          refine ⟨rfl, fr_t (fr_0 _ _) (fr_s hf_59 rfl), ?_⟩
          by_cases z : (-1 ≤ v ∧ v ≤ 5)
          · exact sb_a (w2.1 z) (by decide)
          · exact sb_n (w2.2 z)
        · have t1 := htb (9 * i + 1) (by omega) (by omega)
          have t4 := htb (9 * i + 4) (by omega) (by omega)
          have t5 := htb (9 * i + 5) (by omega) (by omega)
          have t6 := htb (9 * i + 6) (by omega) (by omega)
          have t7 := htb (9 * i + 7) (by omega) (by omega)
          have t8 := htb (9 * i + 8) (by omega) (by omega)
          refine rg_i (by omega) ?_
          refine hK 77 [some (vR 111 0), some (vI c), some (vI d), some (vI k), some (vI v), some (vI i), some (vI (9 * i))] [vI v] T2 ?_
          by_cases z4_0 : v = (-1)
          · refine j_tsI (pc := 77) 0 (off := 43) (tgt := 120) (by decide) ds_X11_say_77 (by omega) (by decide) rfl (by decide) (by decide) ?_
            refine j_blx (F := fX11) tb_X11 (nn_ _) bk_X11_say_120 bs_X11_say_120 hz (fun K hK => ?_)
            refine rg_i (by omega) ?_
            refine rg_i (by omega) ?_
            refine ix_i (by omega) ?_
            intro b5 b5b
            have e6 : T2 276 0 ((9 * i) + 6) = T 276 0 ((9 * i) + 6) := hf_59 276 0 ((9 * i) + 6) rfl
            rw [e6] at b5 b5b ⊢
            refine iy_i (by omega) (by omega) ?_
            refine x_nm (fun U7 hU7 => ?_)
            have e8 := up_f hU7
            refine hK 285 _ [] U7 ?_
            refine j_drq [some (vR 111 0), some (vI c), some (vI d), some (vI k), some (vI v), some (vI i), none] (drq_s (drq_s (drq_s (drq_s (drq_s (drq_s (drq_n drq_0))))))) ?_
            refine c_285 U7 ?_ ?_ ?_
            · exact fr_u (fr_t (fr_0 _ _) (fr_s hf_59 rfl)) hU7 rfl
            · exact ⟨fun z => sa_v (w2.1 z) hU7 (by omega), fun z => sn_v (w2.2 z) hU7 (by omega)⟩
            · omega
          by_cases z4_1 : v = 0
          · refine j_tsI (pc := 77) 1 (off := 65) (tgt := 142) (by decide) ds_X11_say_77 (by omega) (by decide) rfl (by decide) (by decide) ?_
            refine j_blx (F := fX11) tb_X11 (nn_ _) bk_X11_say_142 bs_X11_say_142 hz (fun K hK => ?_)
            refine rg_i (by omega) ?_
            refine rg_i (by omega) ?_
            refine ix_i (by omega) ?_
            intro b9 b9b
            have e10 : T2 276 0 ((9 * i) + 4) = T 276 0 ((9 * i) + 4) := hf_59 276 0 ((9 * i) + 4) rfl
            rw [e10] at b9 b9b ⊢
            refine rg_i (by omega) ?_
            refine ix_i (by omega) ?_
            intro b11 b11b
            have e12 : T2 276 0 ((9 * i) + 5) = T 276 0 ((9 * i) + 5) := hf_59 276 0 ((9 * i) + 5) rfl
            rw [e12] at b11 b11b ⊢
            refine rg_i (by omega) ?_
            refine iy_i (by omega) (by omega) ?_
            refine x_nm (fun U13 hU13 => ?_)
            have e14 := up_f hU13
            refine hK 285 _ [] U13 ?_
            refine j_drq [some (vR 111 0), some (vI c), some (vI d), some (vI k), some (vI v), some (vI i), none] (drq_s (drq_s (drq_s (drq_s (drq_s (drq_s (drq_n drq_0))))))) ?_
            refine c_285 U13 ?_ ?_ ?_
            · exact fr_u (fr_t (fr_0 _ _) (fr_s hf_59 rfl)) hU13 rfl
            · exact ⟨fun z => sa_v (w2.1 z) hU13 (by omega), fun z => sn_v (w2.2 z) hU13 (by omega)⟩
            · omega
          by_cases z4_2 : v = 1
          · refine j_tsI (pc := 77) 2 (off := 96) (tgt := 173) (by decide) ds_X11_say_77 (by omega) (by decide) rfl (by decide) (by decide) ?_
            refine j_blx (F := fX11) tb_X11 (nn_ _) bk_X11_say_173 bs_X11_say_173 hz (fun K hK => ?_)
            refine rg_i (by omega) ?_
            refine rg_i (by omega) ?_
            refine ix_i (by omega) ?_
            intro b15 b15b
            have e16 : T2 276 0 ((9 * i) + 4) = T 276 0 ((9 * i) + 4) := hf_59 276 0 ((9 * i) + 4) rfl
            rw [e16] at b15 b15b ⊢
            refine iy_i (by omega) (by omega) ?_
            refine x_nm (fun U17 hU17 => ?_)
            have e18 := up_f hU17
            refine hK 285 _ [] U17 ?_
            refine j_drq [some (vR 111 0), some (vI c), some (vI d), some (vI k), some (vI v), some (vI i), none] (drq_s (drq_s (drq_s (drq_s (drq_s (drq_s (drq_n drq_0))))))) ?_
            refine c_285 U17 ?_ ?_ ?_
            · exact fr_u (fr_t (fr_0 _ _) (fr_s hf_59 rfl)) hU17 rfl
            · exact ⟨fun z => sa_v (w2.1 z) hU17 (by omega), fun z => sn_v (w2.2 z) hU17 (by omega)⟩
            · omega
          by_cases z4_3 : v = 2
          · refine j_tsI (pc := 77) 3 (off := 117) (tgt := 194) (by decide) ds_X11_say_77 (by omega) (by decide) rfl (by decide) (by decide) ?_
            refine j_blx (F := fX11) tb_X11 (nn_ _) bk_X11_say_194 bs_X11_say_194 hz (fun K hK => ?_)
            refine rg_i (by omega) ?_
            refine rg_i (by omega) ?_
            refine ix_i (by omega) ?_
            intro b19 b19b
            have e20 : T2 276 0 ((9 * i) + 1) = T 276 0 ((9 * i) + 1) := hf_59 276 0 ((9 * i) + 1) rfl
            rw [e20] at b19 b19b ⊢
            refine iy_i (by omega) (by omega) ?_
            refine x_nm (fun U21 hU21 => ?_)
            have e22 := up_f hU21
            refine hK 285 _ [] U21 ?_
            refine j_drq [some (vR 111 0), some (vI c), some (vI d), some (vI k), some (vI v), some (vI i), none] (drq_s (drq_s (drq_s (drq_s (drq_s (drq_s (drq_n drq_0))))))) ?_
            refine c_285 U21 ?_ ?_ ?_
            · exact fr_u (fr_t (fr_0 _ _) (fr_s hf_59 rfl)) hU21 rfl
            · exact ⟨fun z => sa_v (w2.1 z) hU21 (by omega), fun z => sn_v (w2.2 z) hU21 (by omega)⟩
            · omega
          by_cases z4_4 : v = 3
          · refine j_tsI (pc := 77) 4 (off := 138) (tgt := 215) (by decide) ds_X11_say_77 (by omega) (by decide) rfl (by decide) (by decide) ?_
            refine j_blx (F := fX11) tb_X11 (nn_ _) bk_X11_say_215 bs_X11_say_215 hz (fun K hK => ?_)
            refine rg_i (by omega) ?_
            refine rg_i (by omega) ?_
            refine ix_i (by omega) ?_
            intro b23 b23b
            have e24 : T2 276 0 ((9 * i) + 7) = T 276 0 ((9 * i) + 7) := hf_59 276 0 ((9 * i) + 7) rfl
            rw [e24] at b23 b23b ⊢
            refine iy_i (by omega) (by omega) ?_
            refine x_nm (fun U25 hU25 => ?_)
            have e26 := up_f hU25
            refine hK 285 _ [] U25 ?_
            refine j_drq [some (vR 111 0), some (vI c), some (vI d), some (vI k), some (vI v), some (vI i), none] (drq_s (drq_s (drq_s (drq_s (drq_s (drq_s (drq_n drq_0))))))) ?_
            refine c_285 U25 ?_ ?_ ?_
            · exact fr_u (fr_t (fr_0 _ _) (fr_s hf_59 rfl)) hU25 rfl
            · exact ⟨fun z => sa_v (w2.1 z) hU25 (by omega), fun z => sn_v (w2.2 z) hU25 (by omega)⟩
            · omega
          by_cases z4_5 : v = 4
          · refine j_tsI (pc := 77) 5 (off := 183) (tgt := 260) (by decide) ds_X11_say_77 (by omega) (by decide) rfl (by decide) (by decide) ?_
            refine j_blx (F := fX11) tb_X11 (nn_ _) bk_X11_say_260 bs_X11_say_260 hz (fun K hK => ?_)
            refine rg_i (by omega) ?_
            refine hK 272 _ [vI 15, vI c, vR 111 0, vI (3 * i), vR 284 0] T2 ?_
            refine j_callV (y := yX11_rule0) (Yc := zX11_rule0) (rest := [vI (3 * i), vR 284 0]) [vI c, vI 15] (ct_X11_rule0 (T := T2) (by omega) (by omega)) cl_X11_321 (qd_c (by decide +kernel)) (nn_ _) rfl (rf_of rfl) (Nat.le_of_ble_eq_true rfl) (Nat.le_of_ble_eq_true rfl) (Nat.le_of_ble_eq_true rfl) rfl ?_
            rintro _ _ ⟨rfl, rfl⟩
            have e27 : T2 205 0 (23 * c + 15) = T 205 0 (23 * c + 15) := hf_59 205 0 (23 * c + 15) rfl
            show J_ zX11_say T (po_X11_say T c d k) 0 0 275 _ [vI (T2 205 0 (23 * c + 15)), vI (3 * i), vR 284 0] T2
            refine j_blx (F := fX11) tb_X11 (nn_ _) bk_X11_say_275 bs_X11_say_275 hz (fun K hK => ?_)
            intro b28 b28b
            have e29 : T2 111 0 85 = T 111 0 85 := hf_59 111 0 85 rfl
            rw [e29] at b28 b28b ⊢
            refine hK 281 _ [vI i, vI (T 111 0 85), vI (T2 205 0 (23 * c + 15)), vI (3 * i), vR 284 0] T2 ?_
            refine j_callS (y := yX11_lot) (Yc := zX11_lot) (rest := [vI (3 * i), vR 284 0]) [vI (T2 205 0 (23 * c + 15)), vI (T 111 0 85), vI i] (ct_X11_lot (T := T2)) cl_X11_505 (qd_c (by decide +kernel)) (nn_ _) rfl (rf_of rfl) (Nat.le_of_ble_eq_true rfl) (Nat.le_of_ble_eq_true rfl) (Nat.le_of_ble_eq_true rfl) rfl ?_
            rintro _ _ ⟨rfl, x30, rfl, hx30⟩
            show J_ zX11_say T (po_X11_say T c d k) 0 0 284 _ [vI x30, vI (3 * i), vR 284 0] T2
            refine j_blx (F := fX11) tb_X11 (nn_ _) bk_X11_say_284 bs_X11_say_284 hz (fun K hK => ?_)
            refine iy_i (by omega) (by omega) ?_
            refine x_nm (fun U31 hU31 => ?_)
            have e32 := up_f hU31
            refine hK 285 _ [] U31 ?_
            refine j_drq [some (vR 111 0), some (vI c), some (vI d), some (vI k), some (vI v), some (vI i), none] (drq_s (drq_s (drq_s (drq_s (drq_s (drq_s (drq_n drq_0))))))) ?_
            refine c_285 U31 ?_ ?_ ?_
            · exact fr_u (fr_t (fr_0 _ _) (fr_s hf_59 rfl)) hU31 rfl
            · exact ⟨fun z => sa_v (w2.1 z) hU31 (by omega), fun z => sn_v (w2.2 z) hU31 (by omega)⟩
            · omega
          by_cases z4_6 : v = 5
          · refine j_tsI (pc := 77) 6 (off := 160) (tgt := 237) (by decide) ds_X11_say_77 (by omega) (by decide) rfl (by decide) (by decide) ?_
            refine j_blx (F := fX11) tb_X11 (nn_ _) bk_X11_say_237 bs_X11_say_237 hz (fun K hK => ?_)
            refine rg_i (by omega) ?_
            refine rg_i (by omega) ?_
            refine ix_i (by omega) ?_
            intro b33 b33b
            have e34 : T2 276 0 ((9 * i) + 8) = T 276 0 ((9 * i) + 8) := hf_59 276 0 ((9 * i) + 8) rfl
            rw [e34] at b33 b33b ⊢
            refine rg_i (by omega) ?_
            refine iy_i (by omega) (by omega) ?_
            refine x_nm (fun U35 hU35 => ?_)
            have e36 := up_f hU35
            refine hK 285 _ [] U35 ?_
            refine j_drq [some (vR 111 0), some (vI c), some (vI d), some (vI k), some (vI v), some (vI i), none] (drq_s (drq_s (drq_s (drq_s (drq_s (drq_s (drq_n drq_0))))))) ?_
            refine c_285 U35 ?_ ?_ ?_
            · exact fr_u (fr_t (fr_0 _ _) (fr_s hf_59 rfl)) hU35 rfl
            · exact ⟨fun z => sa_v (w2.1 z) hU35 (by omega), fun z => sn_v (w2.2 z) hU35 (by omega)⟩
            · omega
          refine j_tsO (pc := 77) (tgt := 260) (by decide) ds_X11_say_77 (by omega) (by decide) (by decide) ?_
          refine j_blx (F := fX11) tb_X11 (nn_ _) bk_X11_say_260 bs_X11_say_260 hz (fun K hK => ?_)
          refine rg_i (by omega) ?_
          refine hK 272 _ [vI 15, vI c, vR 111 0, vI (3 * i), vR 284 0] T2 ?_
          refine j_callV (y := yX11_rule0) (Yc := zX11_rule0) (rest := [vI (3 * i), vR 284 0]) [vI c, vI 15] (ct_X11_rule0 (T := T2) (by omega) (by omega)) cl_X11_321 (qd_c (by decide +kernel)) (nn_ _) rfl (rf_of rfl) (Nat.le_of_ble_eq_true rfl) (Nat.le_of_ble_eq_true rfl) (Nat.le_of_ble_eq_true rfl) rfl ?_
          rintro _ _ ⟨rfl, rfl⟩
          have e37 : T2 205 0 (23 * c + 15) = T 205 0 (23 * c + 15) := hf_59 205 0 (23 * c + 15) rfl
          show J_ zX11_say T (po_X11_say T c d k) 0 0 275 _ [vI (T2 205 0 (23 * c + 15)), vI (3 * i), vR 284 0] T2
          refine j_blx (F := fX11) tb_X11 (nn_ _) bk_X11_say_275 bs_X11_say_275 hz (fun K hK => ?_)
          intro b38 b38b
          have e39 : T2 111 0 85 = T 111 0 85 := hf_59 111 0 85 rfl
          rw [e39] at b38 b38b ⊢
          refine hK 281 _ [vI i, vI (T 111 0 85), vI (T2 205 0 (23 * c + 15)), vI (3 * i), vR 284 0] T2 ?_
          refine j_callS (y := yX11_lot) (Yc := zX11_lot) (rest := [vI (3 * i), vR 284 0]) [vI (T2 205 0 (23 * c + 15)), vI (T 111 0 85), vI i] (ct_X11_lot (T := T2)) cl_X11_505 (qd_c (by decide +kernel)) (nn_ _) rfl (rf_of rfl) (Nat.le_of_ble_eq_true rfl) (Nat.le_of_ble_eq_true rfl) (Nat.le_of_ble_eq_true rfl) rfl ?_
          rintro _ _ ⟨rfl, x40, rfl, hx40⟩
          show J_ zX11_say T (po_X11_say T c d k) 0 0 284 _ [vI x40, vI (3 * i), vR 284 0] T2
          refine j_blx (F := fX11) tb_X11 (nn_ _) bk_X11_say_284 bs_X11_say_284 hz (fun K hK => ?_)
          refine iy_i (by omega) (by omega) ?_
          refine x_nm (fun U41 hU41 => ?_)
          have e42 := up_f hU41
          refine hK 285 _ [] U41 ?_
          refine j_drq [some (vR 111 0), some (vI c), some (vI d), some (vI k), some (vI v), some (vI i), none] (drq_s (drq_s (drq_s (drq_s (drq_s (drq_s (drq_n drq_0))))))) ?_
          refine c_285 U41 ?_ ?_ ?_
          · exact fr_u (fr_t (fr_0 _ _) (fr_s hf_59 rfl)) hU41 rfl
          · exact ⟨fun z => sa_v (w2.1 z) hU41 (by omega), fun z => sn_v (w2.2 z) hU41 (by omega)⟩
          · omega
    have c_22 : ∀ (nn : Nat) (i : Int) (T1 : Zt), ((36 - i).toNat) ≤ nn → (fr_ [(284, [])] T T1) → (∀ j, 0 ≤ j → j < i → T1 284 0 j = 0) → (0 ≤ i ∧ i ≤ 36) → J_ zX11_say T (po_X11_say T c d k) 0 0 22 [some (vR 111 0), some (vI c), some (vI d), some (vI k), some (vI v), some (vI i), none] [] T1 := by
      intro nn
      induction nn using Nat.strongRecOn with
      | _ nn ih_22 =>
        intro i T1 hm_22 hf_22 z1 i1
        replace hm_22 := fun (_ : Unit) => hm_22
        refine j_blx (F := fX11) tb_X11 (nn_ _) bk_X11_say_22 bs_X11_say_22 hz (fun K hK => ?_)
        refine And.intro (fun c43 => ?_) (fun c43 => ?_)
        · refine hK 43 _ [] T1 ?_
          refine j_blx (F := fX11) tb_X11 (nn_ _) bk_X11_say_43 bs_X11_say_43 hz (fun K hK => ?_)
          refine And.intro (fun c44 => ?_) (fun c44 => ?_)
          · refine hK 56 _ [] T1 ?_
            refine j_blx (F := fX11) tb_X11 (nn_ _) bk_X11_say_56 bs_X11_say_56 hz (fun K hK => ?_)
            refine hK 59 [some (vR 111 0), some (vI c), some (vI d), some (vI k), some (vI v), some (vI 0), none] [] T1 ?_
            refine c_59 _ 0 T1 (Nat.le_refl _) ?_ ?_ ?_
            · exact fr_t (fr_0 _ _) (fr_s hf_22 rfl)
            · exact ⟨fun _ j a b => by have := z1 j a (by omega); omega, fun _ j a b => by have := z1 j a (by omega); omega⟩
            · omega
          · refine hK 52 [some (vR 111 0), some (vI c), some (vI d), some (vI k), some (vI v), some (vI i), none] [vI d, vI c, vR 111 0] T1 ?_
            refine j_callV (y := yX11_sayHead) (Yc := zX11_sayHead) (rest := []) [vI c, vI d] (ct_X11_sayHead (T := T1) (bb := 0) (by omega) (ML__f (ws := [(284, [])]) hml (fr_t (fr_0 _ _) (fr_s hf_22 rfl)) ⟨fun _ => rfl, fun _ => rfl, rfl, trivial⟩) (SC__f (ws := [(284, [])]) hsc (fr_t (fr_0 _ _) (fr_s hf_22 rfl)) ⟨fun _ => rfl, fun _ => rfl, trivial⟩) (by omega) (fun j a b => by have := z1 j a (by omega); omega)) cl_X11_502 (qd_c (by decide +kernel)) (nn_ _) rfl (rf_of rfl) (Nat.le_of_ble_eq_true rfl) (Nat.le_of_ble_eq_true rfl) (Nat.le_of_ble_eq_true rfl) rfl ?_
            rintro U45 _ ⟨rfl, fU45, qU45⟩
            show J_ zX11_say T (po_X11_say T c d k) 0 0 55 _ [] U45
            refine j_blx (F := fX11) tb_X11 (nn_ _) bk_X11_say_55 bs_X11_say_55 hz (fun K hK => ?_)
            refine (show po_X11_say T c d k U45 (none) from ?_)
            exact ⟨rfl, fr_t (fr_t (fr_0 _ _) (fr_s hf_22 rfl)) (fr_s fU45 rfl), sb_a qU45 (by decide)⟩
        · refine iy_i (by omega) (by omega) ?_
          refine x_nm (fun U46 hU46 => ?_)
          have e47 := up_f hU46
          refine rg_i (by omega) ?_
          refine hK 22 [some (vR 111 0), some (vI c), some (vI d), some (vI k), some (vI v), some (vI (i + 1)), none] [] U46 ?_
          refine ih_22 _ ?_ (i + 1) U46 (Nat.le_refl _) ?_ ?_ ?_
          · have hm_22 := hm_22 (); omega
          · exact fr_u (fr_t (fr_0 _ _) (fr_s hf_22 rfl)) hU46 rfl
          · intro j a b
            by_cases z : j = i
            · rw [z]; exact up_f hU46
            · rw [up_g hU46 (fun q => z q.2.2)]; exact z1 j a (by omega)
          · omega
    refine j_blx (F := fX11) tb_X11 (nn_ _) bk_X11_say_17 bs_X11_say_17 hz (fun K hK => ?_)
    refine hK 22 [some (vR 111 0), some (vI c), some (vI d), some (vI k), some (vI v), some (vI 0), none] [] T ?_
    refine c_22 _ 0 T (Nat.le_refl _) ?_ ?_ ?_
    · exact fr_0 _ _
    · intro j a b; omega
    · omega
  refine j_blx (F := fX11) tb_X11 (nn_ _) bk_X11_say_0 bs_X11_say_0 hz (fun K hK => ?_)
  refine And.intro (fun c48 => ?_) (fun c48 => ?_)
  · refine hK 8 _ [] T ?_
    refine j_blx (F := fX11) tb_X11 (nn_ _) bk_X11_say_8 bs_X11_say_8 hz (fun K hK => ?_)
    refine rg_i (by omega) ?_
    refine hK 14 _ [vI (15 + k), vI c, vR 111 0] T ?_
    refine j_callV (y := yX11_rule0) (Yc := zX11_rule0) (rest := []) [vI c, vI (15 + k)] (ct_X11_rule0 (T := T) (by omega) (by omega)) cl_X11_321 (qd_c (by decide +kernel)) (nn_ _) rfl (rf_of rfl) (Nat.le_of_ble_eq_true rfl) (Nat.le_of_ble_eq_true rfl) (Nat.le_of_ble_eq_true rfl) rfl ?_
    rintro _ _ ⟨rfl, rfl⟩
    show J_ zX11_say T (po_X11_say T c d k) 0 0 17 _ [vI (T 205 0 (23 * c + (15 + k)))] T
    exact c_17 (T 205 0 (23 * c + (15 + k)))
  · refine hK 17 _ [vI (-1)] T ?_
    exact c_17 (-1)
