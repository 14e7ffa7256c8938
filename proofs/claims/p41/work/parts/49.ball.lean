abbrev RJ6 : String := "java/lang/Integer"
def fJ6 : Zf := ([], [], [(265, 1431655765), (266, 858993459), (267, 252645135), (264, 65536)], [])
set_option maxRecDepth 100000 in
set_option maxHeartbeats 4000000 in
theorem tg_J6 : ∀ q ∈ fJ6.1, fl_ RJ6 q.1 q.2.1 q.2.2 := fun _ h => absurd h List.not_mem_nil
set_option maxRecDepth 100000 in
set_option maxHeartbeats 4000000 in
theorem tp_J6 : ∀ q ∈ fJ6.2.1, fp_ RJ6 q.1 q.2.1 q.2.2 := fun _ h => absurd h List.not_mem_nil
theorem tb_J6 : tb_ RJ6 fJ6 := ⟨tg_J6, tp_J6, List.forall_mem_cons.mpr ⟨⟨lw_b5 110 (by decide +kernel) rfl, by decide, by decide⟩, List.forall_mem_cons.mpr ⟨⟨lw_b5 111 (by decide +kernel) rfl, by decide, by decide⟩, List.forall_mem_cons.mpr ⟨⟨lw_b5 112 (by decide +kernel) rfl, by decide, by decide⟩, List.forall_mem_cons.mpr ⟨⟨lw_b6 86 (by decide +kernel) rfl, by decide, by decide⟩, fun _ h => absurd h List.not_mem_nil⟩⟩⟩⟩, fun _ h => absurd h List.not_mem_nil⟩
theorem an_63b (x : Int) : 0 ≤ an_ x 63 ∧ an_ x 63 ≤ 63 := by
  have h : ((Int32.ofInt x).toBitVec &&& (Int32.ofInt 63).toBitVec).toNat ≤ 63 := by
    rw [BitVec.toNat_and]; exact Nat.and_le_right
  show 0 ≤ ((Int32.ofInt x).toBitVec &&& (Int32.ofInt 63).toBitVec).toInt ∧ ((Int32.ofInt x).toBitVec &&& (Int32.ofInt 63).toBitVec).toInt ≤ 63
  rw [BitVec.toInt_eq_toNat_cond]
  split <;> omega
abbrev cJ6_bitCount_0f7a4 : ByteArray := prog_15_method_49_code
def yJ6_bitCount_0f7a4 : MethodName := ⟨RJ6, "bitCount", "(I)I"⟩
def zJ6_bitCount_0f7a4 : Zm := (RJ6, cJ6_bitCount_0f7a4, 1, (some .int), { frames := 0, cells := 0, slots := 0, locals := 0 })
theorem bk_J6_bitCount_0f7a4_0 : ck_ fJ6 (some .int) cJ6_bitCount_0f7a4 0 [.iload 0, .iload 0, .iconst 1, .iushr, .iconst 1431655765, .iand, .fsub, .istore 0, .iload 0, .iconst 858993459, .iand, .iload 0, .iconst 2, .iushr, .iconst 858993459, .iand, .fadd, .istore 0, .iload 0, .iload 0, .iconst 4, .iushr, .fadd, .iconst 252645135, .iand, .istore 0, .iload 0, .iload 0, .iconst 8, .iushr, .fadd, .istore 0, .iload 0, .iload 0, .iconst 16, .iushr, .fadd, .istore 0, .iload 0, .iconst 63, .iand, .ireturn] 53 = true := qck_r (by decide) (by decide +kernel)
theorem bs_J6_bitCount_0f7a4_0 {P : Zt → Option Zv → Prop} (K : Int → Zl → List Zv → Zt → Prop) : sx_ K P [.iload 0, .iload 0, .iconst 1, .iushr, .iconst 1431655765, .iand, .fsub, .istore 0, .iload 0, .iconst 858993459, .iand, .iload 0, .iconst 2, .iushr, .iconst 858993459, .iand, .fadd, .istore 0, .iload 0, .iload 0, .iconst 4, .iushr, .fadd, .iconst 252645135, .iand, .istore 0, .iload 0, .iload 0, .iconst 8, .iushr, .fadd, .istore 0, .iload 0, .iload 0, .iconst 16, .iushr, .fadd, .istore 0, .iload 0, .iconst 63, .iand, .ireturn] 53 = x_iload 0 (x_iload 0 (x_iconst 1 (x_iushr (x_iconst 1431655765 (x_iand (x_fsub (x_istore 0 (x_iload 0 (x_iconst 858993459 (x_iand (x_iload 0 (x_iconst 2 (x_iushr (x_iconst 858993459 (x_iand (x_fadd (x_istore 0 (x_iload 0 (x_iload 0 (x_iconst 4 (x_iushr (x_fadd (x_iconst 252645135 (x_iand (x_istore 0 (x_iload 0 (x_iload 0 (x_iconst 8 (x_iushr (x_fadd (x_istore 0 (x_iload 0 (x_iload 0 (x_iconst 16 (x_iushr (x_fadd (x_istore 0 (x_iload 0 (x_iconst 63 (x_iand (x_ireturn P))))))))))))))))))))))))))))))))))))))))) := ((xe_iload 0).trans (congrArg (x_iload 0) ((xe_iload 0).trans (congrArg (x_iload 0) ((xe_iconst 1).trans (congrArg (x_iconst 1) ((xe_iushr).trans (congrArg (x_iushr) ((xe_iconst 1431655765).trans (congrArg (x_iconst 1431655765) ((xe_iand).trans (congrArg (x_iand) ((xe_fsub).trans (congrArg (x_fsub) ((xe_istore 0).trans (congrArg (x_istore 0) ((xe_iload 0).trans (congrArg (x_iload 0) ((xe_iconst 858993459).trans (congrArg (x_iconst 858993459) ((xe_iand).trans (congrArg (x_iand) ((xe_iload 0).trans (congrArg (x_iload 0) ((xe_iconst 2).trans (congrArg (x_iconst 2) ((xe_iushr).trans (congrArg (x_iushr) ((xe_iconst 858993459).trans (congrArg (x_iconst 858993459) ((xe_iand).trans (congrArg (x_iand) ((xe_fadd).trans (congrArg (x_fadd) ((xe_istore 0).trans (congrArg (x_istore 0) ((xe_iload 0).trans (congrArg (x_iload 0) ((xe_iload 0).trans (congrArg (x_iload 0) ((xe_iconst 4).trans (congrArg (x_iconst 4) ((xe_iushr).trans (congrArg (x_iushr) ((xe_fadd).trans (congrArg (x_fadd) ((xe_iconst 252645135).trans (congrArg (x_iconst 252645135) ((xe_iand).trans (congrArg (x_iand) ((xe_istore 0).trans (congrArg (x_istore 0) ((xe_iload 0).trans (congrArg (x_iload 0) ((xe_iload 0).trans (congrArg (x_iload 0) ((xe_iconst 8).trans (congrArg (x_iconst 8) ((xe_iushr).trans (congrArg (x_iushr) ((xe_fadd).trans (congrArg (x_fadd) ((xe_istore 0).trans (congrArg (x_istore 0) ((xe_iload 0).trans (congrArg (x_iload 0) ((xe_iload 0).trans (congrArg (x_iload 0) ((xe_iconst 16).trans (congrArg (x_iconst 16) ((xe_iushr).trans (congrArg (x_iushr) ((xe_fadd).trans (congrArg (x_fadd) ((xe_istore 0).trans (congrArg (x_istore 0) ((xe_iload 0).trans (congrArg (x_iload 0) ((xe_iconst 63).trans (congrArg (x_iconst 63) ((xe_iand).trans (congrArg (x_iand) (xe_ireturn)))))))))))))))))))))))))))))))))))))))))))))))))))))))))))))))))))))))))))))))))))
abbrev po_J6_bitCount_0f7a4 (T : Zt) (a : Int) : Zt → Option Zv → Prop := fun T' r => T = T' ∧ ∃ x : Int, r = some (vI x) ∧ (0 ≤ x ∧ x ≤ 63)
set_option maxHeartbeats 4000000 in
theorem ct_J6_bitCount_0f7a4 {T : Zt} {a : Int} : Ct_ yJ6_bitCount_0f7a4 zJ6_bitCount_0f7a4 T [vI a] (po_J6_bitCount_0f7a4 T a) := by
  refine ct_of (by decide) rfl rfl (Nat.le_of_ble_eq_true rfl) (fun hT hav => ?_)
  have hr_a : -2147483648 ≤ a ∧ a ≤ 2147483647 := hav (vI a) (by simp)
  have hz : zJ6_bitCount_0f7a4.2.2.2.1 = some .boolean → ∀ (T' : Zt) (x : Int), po_J6_bitCount_0f7a4 T a T' (some (vI x)) → 0 ≤ x ∧ x ≤ 1 := fun h => by cases h
  show J_ zJ6_bitCount_0f7a4 T (po_J6_bitCount_0f7a4 T a) 0 0 0 [some (vI a)] [] T
  refine j_blx (F := fJ6) tb_J6 (by decide) bk_J6_bitCount_0f7a4_0 bs_J6_bitCount_0f7a4_0 hz (fun K hK => ?_)
  intro w1 w1b
  intro w2 w2b
  intro w3 w3b
  intro w4 w4b
  intro w5 w5b
  intro w6 w6b
  intro w7 w7b
  intro w8 w8b
  intro w9 w9b
  intro w10 w10b
  intro w11 w11b
  intro w12 w12b
  intro w13 w13b
  intro w14 w14b
  intro w15 w15b
  refine (show po_J6_bitCount_0f7a4 T a T (some (vI (an_ (wr_ ((wr_ ((an_ (wr_ ((wr_ ((an_ (wr_ (a - (an_ (us_ a 1) 1431655765))) 858993459) + (an_ (us_ (wr_ (a - (an_ (us_ a 1) 1431655765))) 2) 858993459))) + (us_ (wr_ ((an_ (wr_ (a - (an_ (us_ a 1) 1431655765))) 858993459) + (an_ (us_ (wr_ (a - (an_ (us_ a 1) 1431655765))) 2) 858993459))) 4))) 252645135) + (us_ (an_ (wr_ ((wr_ ((an_ (wr_ (a - (an_ (us_ a 1) 1431655765))) 858993459) + (an_ (us_ (wr_ (a - (an_ (us_ a 1) 1431655765))) 2) 858993459))) + (us_ (wr_ ((an_ (wr_ (a - (an_ (us_ a 1) 1431655765))) 858993459) + (an_ (us_ (wr_ (a - (an_ (us_ a 1) 1431655765))) 2) 858993459))) 4))) 252645135) 8))) + (us_ (wr_ ((an_ (wr_ ((wr_ ((an_ (wr_ (a - (an_ (us_ a 1) 1431655765))) 858993459) + (an_ (us_ (wr_ (a - (an_ (us_ a 1) 1431655765))) 2) 858993459))) + (us_ (wr_ ((an_ (wr_ (a - (an_ (us_ a 1) 1431655765))) 858993459) + (an_ (us_ (wr_ (a - (an_ (us_ a 1) 1431655765))) 2) 858993459))) 4))) 252645135) + (us_ (an_ (wr_ ((wr_ ((an_ (wr_ (a - (an_ (us_ a 1) 1431655765))) 858993459) + (an_ (us_ (wr_ (a - (an_ (us_ a 1) 1431655765))) 2) 858993459))) + (us_ (wr_ ((an_ (wr_ (a - (an_ (us_ a 1) 1431655765))) 858993459) + (an_ (us_ (wr_ (a - (an_ (us_ a 1) 1431655765))) 2) 858993459))) 4))) 252645135) 8))) 16))) 63))) from ?_)
  exact ⟨rfl, _, rfl, an_63b _⟩
abbrev cX3_hit : ByteArray := prog_5_method_23_code
def yX3_hit : MethodName := ⟨RX3, "hit", "(II)V"⟩
def zX3_hit : Zm := (RX3, cX3_hit, 4, none, { frames := 2, cells := 0, slots := 0, locals := 45 })
theorem bk_X3_hit_0 : ck_ fX3 none cX3_hit 0 [.aload 0, .tableswitch 0 3 7 #[], .iconst 1, .iaload, .iload 2, .ishl, .iconst 1, .iload 2, .iconst 1, .fsub, .ishl, .ior, .istore 3, .aload 0, .tableswitch 0 3 7 #[], .iconst 1, .iload 3, .iconst 7, .iand, .iastore, .aload 0, .iload 1, .iload 3, .iconst 3, .ishr] 30 = true := qck_r (by decide) (by decide +kernel)
theorem bs_X3_hit_0 {P : Zt → Option Zv → Prop} (K : Int → Zl → List Zv → Zt → Prop) : sx_ K P [.aload 0, .tableswitch 0 3 7 #[], .iconst 1, .iaload, .iload 2, .ishl, .iconst 1, .iload 2, .iconst 1, .fsub, .ishl, .ior, .istore 3, .aload 0, .tableswitch 0 3 7 #[], .iconst 1, .iload 3, .iconst 7, .iand, .iastore, .aload 0, .iload 1, .iload 3, .iconst 3, .ishr] 30 = x_aload 0 (x_g2 103 467 (x_iconst 1 (x_iaload (x_iload 2 (x_ishl (x_iconst 1 (x_iload 2 (x_iconst 1 (x_fsub (x_ishl (x_ior (x_istore 3 (x_aload 0 (x_g2 103 467 (x_iconst 1 (x_iload 3 (x_iconst 7 (x_iand (x_iastore (x_aload 0 (x_iload 1 (x_iload 3 (x_iconst 3 (x_ishr (K 30))))))))))))))))))))))))) := ((xe_aload 0).trans (congrArg (x_aload 0) ((xe_g2 (kk := 103) rfl tl_3_7).trans (congrArg (x_g2 103 467) ((xe_iconst 1).trans (congrArg (x_iconst 1) ((xe_iaload).trans (congrArg (x_iaload) ((xe_iload 2).trans (congrArg (x_iload 2) ((xe_ishl).trans (congrArg (x_ishl) ((xe_iconst 1).trans (congrArg (x_iconst 1) ((xe_iload 2).trans (congrArg (x_iload 2) ((xe_iconst 1).trans (congrArg (x_iconst 1) ((xe_fsub).trans (congrArg (x_fsub) ((xe_ishl).trans (congrArg (x_ishl) ((xe_ior).trans (congrArg (x_ior) ((xe_istore 3).trans (congrArg (x_istore 3) ((xe_aload 0).trans (congrArg (x_aload 0) ((xe_g2 (kk := 103) rfl tl_3_7).trans (congrArg (x_g2 103 467) ((xe_iconst 1).trans (congrArg (x_iconst 1) ((xe_iload 3).trans (congrArg (x_iload 3) ((xe_iconst 7).trans (congrArg (x_iconst 7) ((xe_iand).trans (congrArg (x_iand) ((xe_iastore).trans (congrArg (x_iastore) ((xe_aload 0).trans (congrArg (x_aload 0) ((xe_iload 1).trans (congrArg (x_iload 1) ((xe_iload 3).trans (congrArg (x_iload 3) ((xe_iconst 3).trans (congrArg (x_iconst 3) ((xe_ishr).trans (congrArg (x_ishr) xe_nil))))))))))))))))))))))))))))))))))))))))))))))))))
set_option maxRecDepth 100000 in
theorem cl_X3_138 : cs_ RX3 138 yJ6_bitCount_0f7a4 zJ6_bitCount_0f7a4 1 := ⟨gi_S (lw_b5 107 (by decide +kernel) rfl : Cond.methodLink RX3 138 yJ6_bitCount_0f7a4 ∈ lw_g) (lw_b5 108 (by decide +kernel) rfl : Cond.static yJ6_bitCount_0f7a4 ∈ lw_g) (lw_b1 19 (by decide +kernel) rfl : Cond.initialized yJ6_bitCount_0f7a4.cls ∈ lw_g) (lw_b5 109 rfl rfl : Cond.code yJ6_bitCount_0f7a4 cJ6_bitCount_0f7a4 1 (some .int) ∈ lw_g), ⟨by decide, by decide, by decide +kernel⟩⟩
theorem bk_X3_hit_36 : ck_ fX3 none cX3_hit 36 [.return_] 37 = true := qck_r (by decide) (by decide +kernel)
theorem bs_X3_hit_36 {P : Zt → Option Zv → Prop} (K : Int → Zl → List Zv → Zt → Prop) : sx_ K P [.return_] 37 = x_return_ P := (xe_return_)
abbrev po_X3_hit (T : Zt) (p : Int) (s v : Int) : Zt → Option Zv → Prop := fun T' r => r = none ∧ fr_ [(103, [3]), (466, []), (468, []), (467, [])] T T' ∧ (oi_ T T' p ∧ (T' 103 p 3 = 0 → 1 ≤ T' 470 p 0 ∧ 1 ≤ T' 470 p 1))
set_option maxHeartbeats 4000000 in
theorem ct_X3_hit {T : Zt} {p : Int} {s v : Int} (hs : 0 ≤ s ∧ s ≤ 1) (hfd : 1 ≤ T 470 p 0 ∧ 1 ≤ T 470 p 1) : Ct_ yX3_hit zX3_hit T [vR 103 p, vI s, vI v] (po_X3_hit T p s v) := by
  refine ct_of (by decide) rfl rfl (Nat.le_of_ble_eq_true rfl) (fun hT hav => ?_)
  have hr_s : -2147483648 ≤ s ∧ s ≤ 2147483647 := hav (vI s) (by simp)
  have hr_v : -2147483648 ≤ v ∧ v ≤ 2147483647 := hav (vI v) (by simp)
  have hz : zX3_hit.2.2.2.1 = some .boolean → ∀ (T' : Zt) (x : Int), po_X3_hit T p s v T' (some (vI x)) → 0 ≤ x ∧ x ≤ 1 := fun h => by cases h
  show J_ zX3_hit T (po_X3_hit T p s v) 0 0 0 [some (vR 103 p), some (vI s), some (vI v), none] [] T
  refine j_blx (F := fX3) tb_X3 (by decide) bk_X3_hit_0 bs_X3_hit_0 hz (fun K hK => ?_)
  refine ix_i (by omega) ?_
  intro b1 b1b
  intro w2 w2b
  intro w3 w3b
  intro w4 w4b
  intro w5 w5b
  intro w6 w6b
  refine iy_i (by omega) (by omega) ?_
  refine x_nm (fun U7 hU7 => ?_)
  have e8 := up_f hU7
  intro w9 w9b
  refine hK 30 [some (vR 103 p), some (vI s), some (vI v), some (vI (or_ (sl_ (T 467 p 1) v) (sl_ 1 (wr_ (v - 1)))))] [vI (sr_ (or_ (sl_ (T 467 p 1) v) (sl_ 1 (wr_ (v - 1)))) 3), vI s, vR 103 p] U7 ?_
  refine j_callS (y := yJ6_bitCount_0f7a4) (Yc := zJ6_bitCount_0f7a4) (rest := [vI s, vR 103 p]) [vI (sr_ (or_ (sl_ (T 467 p 1) v) (sl_ 1 (wr_ (v - 1)))) 3)] (ct_J6_bitCount_0f7a4 (T := U7)) cl_X3_138 (qd_c (by decide +kernel)) (by decide) rfl (by decide +kernel) (Nat.le_of_ble_eq_true rfl) (by decide) (by decide) rfl ?_
  rintro _ _ ⟨rfl, x10, rfl, hx10⟩
  show J_ zX3_hit T (po_X3_hit T p s v) 0 0 33 [some (vR 103 p), some (vI s), some (vI v), some (vI (or_ (sl_ (T 467 p 1) v) (sl_ 1 (wr_ (v - 1)))))] [vI x10, vI s, vR 103 p] U7
  have e11 : U7 470 p 0 = T 470 p 0 := up_k hU7 (by decide) p 0
  have e12 : U7 470 p 1 = T 470 p 1 := up_k hU7 (by decide) p 1
  refine j_callV (y := yX3_goOnBase) (Yc := zX3_goOnBase) (rest := []) [vI s, vI x10] (ct_X3_goOnBase (T := U7) (by omega) (by omega)) cl_X3_144 (qd_c (by decide +kernel)) (by decide) rfl (by decide +kernel) (Nat.le_of_ble_eq_true rfl) (by decide) (by decide) rfl ?_
  rintro U13 _ ⟨rfl, fU13, qU13o, qU13⟩
  show J_ zX3_hit T (po_X3_hit T p s v) 0 0 36 [some (vR 103 p), some (vI s), some (vI v), some (vI (or_ (sl_ (T 467 p 1) v) (sl_ 1 (wr_ (v - 1)))))] [] U13
  refine j_blx (F := fX3) tb_X3 (by decide) bk_X3_hit_36 bs_X3_hit_36 hz (fun K hK => ?_)
  refine (show po_X3_hit T p s v U13 (none) from ?_)
  have e14 : U13 470 p 0 = T 470 p 0 := (fU13 470 p 0 rfl).trans (up_k hU7 (by decide) p 0)
  have e15 : U13 470 p 1 = T 470 p 1 := (fU13 470 p 1 rfl).trans (up_k hU7 (by decide) p 1)
  have g16 : U13 470 p 0 = T 470 p 0 := (fU13 470 p 0 rfl).trans (up_k hU7 (by decide) p 0)
  have g17 : U13 470 p 1 = T 470 p 1 := (fU13 470 p 1 rfl).trans (up_k hU7 (by decide) p 1)
  exact ⟨rfl, fr_t (fr_u (fr_0 _ _) hU7 rfl) (fr_s fU13 rfl), oi_t (oi_u (oi_r) hU7) qU13o, by exact fun _ => by omega⟩
abbrev cX3_playBaseball : ByteArray := prog_5_method_22_code
def yX3_playBaseball : MethodName := ⟨RX3, "playBaseball", "(III)V"⟩
def zX3_playBaseball : Zm := (RX3, cX3_playBaseball, 4, none, { frames := 3, cells := 0, slots := 0, locals := 68 })
theorem bk_X3_playBaseball_0 : ck_ fX3 none cX3_playBaseball 0 [.iload 1] 1 = true := qck_r (by decide) (by decide +kernel)
theorem bs_X3_playBaseball_0 {P : Zt → Option Zv → Prop} (K : Int → Zl → List Zv → Zt → Prop) : sx_ K P [.iload 1] 1 = x_iload 1 (K 1) := ((xe_iload 1).trans (congrArg (x_iload 1) xe_nil))
theorem ds_X3_playBaseball_1 : decode cX3_playBaseball 1 = .ok (.tableswitch 91 1 3 #[27, 36, 64], 27) := by decide +kernel
theorem bk_X3_playBaseball_28 : ck_ fX3 none cX3_playBaseball 28 [.aload 0, .iload 2, .iload 3] 31 = true := qck_r (by decide) (by decide +kernel)
theorem bs_X3_playBaseball_28 {P : Zt → Option Zv → Prop} (K : Int → Zl → List Zv → Zt → Prop) : sx_ K P [.aload 0, .iload 2, .iload 3] 31 = x_aload 0 (x_iload 2 (x_iload 3 (K 31))) := ((xe_aload 0).trans (congrArg (x_aload 0) ((xe_iload 2).trans (congrArg (x_iload 2) ((xe_iload 3).trans (congrArg (x_iload 3) xe_nil))))))
set_option maxRecDepth 100000 in
theorem cl_X3_129 : cv_ RX3 129 yX3_hit zX3_hit 3 2 := ⟨gi_V (lw_b5 103 (by decide +kernel) rfl : Cond.methodLink RX3 129 yX3_hit ∈ lw_g) (lw_b5 105 (by decide +kernel) rfl : Cond.instanceMethod yX3_hit ∈ lw_g) (lw_sel 89 rfl : Cond.selects yX3_hit.cls yX3_hit yX3_hit ∈ lw_g) (lw_b1 18 (by decide +kernel) rfl : Cond.initialized yX3_hit.cls ∈ lw_g) (lw_b5 106 rfl rfl : Cond.code yX3_hit cX3_hit 4 none ∈ lw_g), ⟨by decide, by decide, by decide +kernel⟩, ⟨_, _, rfl⟩⟩
theorem bk_X3_playBaseball_34 : ck_ fX3 none cX3_playBaseball 34 [.goto 96] 37 = true := qck_r (by decide) (by decide +kernel)
theorem bs_X3_playBaseball_34 {P : Zt → Option Zv → Prop} (K : Int → Zl → List Zv → Zt → Prop) : sx_ K P [.goto 96] 37 = x_goto 96 K := (xe_goto 96)
theorem bk_X3_playBaseball_96 : ck_ fX3 none cX3_playBaseball 96 [.return_] 97 = true := qck_r (by decide) (by decide +kernel)
theorem bs_X3_playBaseball_96 {P : Zt → Option Zv → Prop} (K : Int → Zl → List Zv → Zt → Prop) : sx_ K P [.return_] 97 = x_return_ P := (xe_return_)
theorem bk_X3_playBaseball_37 : ck_ fX3 none cX3_playBaseball 37 [.aload 0, .tableswitch 0 3 6 #[], .iconst 0, .dup2, .iaload, .iconst 1, .fadd, .iastore, .aload 0, .tableswitch 0 3 6 #[], .iconst 0, .iaload, .iconst 4, .if_icmp .ne 96, .aload 0, .iload 2] 59 = true := qck_r (by decide) (by decide +kernel)
theorem bs_X3_playBaseball_37 {P : Zt → Option Zv → Prop} (K : Int → Zl → List Zv → Zt → Prop) : sx_ K P [.aload 0, .tableswitch 0 3 6 #[], .iconst 0, .dup2, .iaload, .iconst 1, .fadd, .iastore, .aload 0, .tableswitch 0 3 6 #[], .iconst 0, .iaload, .iconst 4, .if_icmp .ne 96, .aload 0, .iload 2] 59 = x_aload 0 (x_g2 103 466 (x_iconst 0 (x_dup2 (x_iaload (x_iconst 1 (x_fadd (x_iastore (x_aload 0 (x_g2 103 466 (x_iconst 0 (x_iaload (x_iconst 4 (x_if_icmp .ne 96 K (x_aload 0 (x_iload 2 (K 59)))))))))))))))) := ((xe_aload 0).trans (congrArg (x_aload 0) ((xe_g2 (kk := 103) rfl tl_3_6).trans (congrArg (x_g2 103 466) ((xe_iconst 0).trans (congrArg (x_iconst 0) ((xe_dup2).trans (congrArg (x_dup2) ((xe_iaload).trans (congrArg (x_iaload) ((xe_iconst 1).trans (congrArg (x_iconst 1) ((xe_fadd).trans (congrArg (x_fadd) ((xe_iastore).trans (congrArg (x_iastore) ((xe_aload 0).trans (congrArg (x_aload 0) ((xe_g2 (kk := 103) rfl tl_3_6).trans (congrArg (x_g2 103 466) ((xe_iconst 0).trans (congrArg (x_iconst 0) ((xe_iaload).trans (congrArg (x_iaload) ((xe_iconst 4).trans (congrArg (x_iconst 4) ((xe_if_icmp .ne 96).trans (congrArg (x_if_icmp .ne 96 K) ((xe_aload 0).trans (congrArg (x_aload 0) ((xe_iload 2).trans (congrArg (x_iload 2) xe_nil))))))))))))))))))))))))))))))))
set_option maxRecDepth 100000 in
theorem cl_X3_132 : cv_ RX3 132 yX3_walk zX3_walk 3 1 := ⟨gi_V (lw_b5 121 (by decide +kernel) rfl : Cond.methodLink RX3 132 yX3_walk ∈ lw_g) (lw_b5 123 (by decide +kernel) rfl : Cond.instanceMethod yX3_walk ∈ lw_g) (lw_sel 102 rfl : Cond.selects yX3_walk.cls yX3_walk yX3_walk ∈ lw_g) (lw_b1 18 (by decide +kernel) rfl : Cond.initialized yX3_walk.cls ∈ lw_g) (lw_b5 124 rfl rfl : Cond.code yX3_walk cX3_walk 3 none ∈ lw_g), ⟨by decide, by decide, by decide +kernel⟩, ⟨_, _, rfl⟩⟩
theorem bk_X3_playBaseball_62 : ck_ fX3 none cX3_playBaseball 62 [.goto 96] 65 = true := qck_r (by decide) (by decide +kernel)
theorem bs_X3_playBaseball_62 {P : Zt → Option Zv → Prop} (K : Int → Zl → List Zv → Zt → Prop) : sx_ K P [.goto 96] 65 = x_goto 96 K := (xe_goto 96)
theorem bk_X3_playBaseball_65 : ck_ fX3 none cX3_playBaseball 65 [.aload 0, .tableswitch 0 3 6 #[], .iconst 1, .dup2, .iaload, .iconst 1, .fadd, .iastore, .aload 0, .tableswitch 0 3 6 #[], .iconst 1, .iaload, .iconst 3, .if_icmp .ne 96, .aload 0] 86 = true := qck_r (by decide) (by decide +kernel)
theorem bs_X3_playBaseball_65 {P : Zt → Option Zv → Prop} (K : Int → Zl → List Zv → Zt → Prop) : sx_ K P [.aload 0, .tableswitch 0 3 6 #[], .iconst 1, .dup2, .iaload, .iconst 1, .fadd, .iastore, .aload 0, .tableswitch 0 3 6 #[], .iconst 1, .iaload, .iconst 3, .if_icmp .ne 96, .aload 0] 86 = x_aload 0 (x_g2 103 466 (x_iconst 1 (x_dup2 (x_iaload (x_iconst 1 (x_fadd (x_iastore (x_aload 0 (x_g2 103 466 (x_iconst 1 (x_iaload (x_iconst 3 (x_if_icmp .ne 96 K (x_aload 0 (K 86))))))))))))))) := ((xe_aload 0).trans (congrArg (x_aload 0) ((xe_g2 (kk := 103) rfl tl_3_6).trans (congrArg (x_g2 103 466) ((xe_iconst 1).trans (congrArg (x_iconst 1) ((xe_dup2).trans (congrArg (x_dup2) ((xe_iaload).trans (congrArg (x_iaload) ((xe_iconst 1).trans (congrArg (x_iconst 1) ((xe_fadd).trans (congrArg (x_fadd) ((xe_iastore).trans (congrArg (x_iastore) ((xe_aload 0).trans (congrArg (x_aload 0) ((xe_g2 (kk := 103) rfl tl_3_6).trans (congrArg (x_g2 103 466) ((xe_iconst 1).trans (congrArg (x_iconst 1) ((xe_iaload).trans (congrArg (x_iaload) ((xe_iconst 3).trans (congrArg (x_iconst 3) ((xe_if_icmp .ne 96).trans (congrArg (x_if_icmp .ne 96 K) ((xe_aload 0).trans (congrArg (x_aload 0) xe_nil))))))))))))))))))))))))))))))
set_option maxRecDepth 100000 in
theorem cl_X3_135 : cv_ RX3 135 yX3_countOut zX3_countOut 3 0 := ⟨gi_V (lw_b5 125 (by decide +kernel) rfl : Cond.methodLink RX3 135 yX3_countOut ∈ lw_g) (lw_b5 127 (by decide +kernel) rfl : Cond.instanceMethod yX3_countOut ∈ lw_g) (lw_sel 85 rfl : Cond.selects yX3_countOut.cls yX3_countOut yX3_countOut ∈ lw_g) (lw_b1 18 (by decide +kernel) rfl : Cond.initialized yX3_countOut.cls ∈ lw_g) (lw_b5 128 rfl rfl : Cond.code yX3_countOut cX3_countOut 1 none ∈ lw_g), ⟨by decide, by decide, by decide +kernel⟩, ⟨_, _, rfl⟩⟩
theorem bk_X3_playBaseball_89 : ck_ fX3 none cX3_playBaseball 89 [.goto 96] 92 = true := qck_r (by decide) (by decide +kernel)
theorem bs_X3_playBaseball_89 {P : Zt → Option Zv → Prop} (K : Int → Zl → List Zv → Zt → Prop) : sx_ K P [.goto 96] 92 = x_goto 96 K := (xe_goto 96)
theorem bk_X3_playBaseball_92 : ck_ fX3 none cX3_playBaseball 92 [.aload 0] 93 = true := qck_r (by decide) (by decide +kernel)
theorem bs_X3_playBaseball_92 {P : Zt → Option Zv → Prop} (K : Int → Zl → List Zv → Zt → Prop) : sx_ K P [.aload 0] 93 = x_aload 0 (K 93) := ((xe_aload 0).trans (congrArg (x_aload 0) xe_nil))
abbrev po_X3_playBaseball (T : Zt) (p : Int) (k s v : Int) : Zt → Option Zv → Prop := fun T' r => r = none ∧ fr_ [(103, [3, 4, 5]), (466, []), (467, []), (468, [])] T T' ∧ (oi_ T T' p ∧ (T' 103 p 3 = 0 → 1 ≤ T' 470 p 0 ∧ 1 ≤ T' 470 p 1))
set_option maxHeartbeats 4000000 in
theorem ct_X3_playBaseball {T : Zt} {p : Int} {k s v : Int} (hs : 0 ≤ s ∧ s ≤ 1) (hfd : 1 ≤ T 470 p 0 ∧ 1 ≤ T 470 p 1) : Ct_ yX3_playBaseball zX3_playBaseball T [vR 103 p, vI k, vI s, vI v] (po_X3_playBaseball T p k s v) := by
  refine ct_of (by decide) rfl rfl (Nat.le_of_ble_eq_true rfl) (fun hT hav => ?_)
  have hr_k : -2147483648 ≤ k ∧ k ≤ 2147483647 := hav (vI k) (by simp)
  have hr_s : -2147483648 ≤ s ∧ s ≤ 2147483647 := hav (vI s) (by simp)
  have hr_v : -2147483648 ≤ v ∧ v ≤ 2147483647 := hav (vI v) (by simp)
  have hz : zX3_playBaseball.2.2.2.1 = some .boolean → ∀ (T' : Zt) (x : Int), po_X3_playBaseball T p k s v T' (some (vI x)) → 0 ≤ x ∧ x ≤ 1 := fun h => by cases h
  show J_ zX3_playBaseball T (po_X3_playBaseball T p k s v) 0 0 0 [some (vR 103 p), some (vI k), some (vI s), some (vI v)] [] T
  refine j_blx (F := fX3) tb_X3 (by decide) bk_X3_playBaseball_0 bs_X3_playBaseball_0 hz (fun K hK => ?_)
  refine hK 1 [some (vR 103 p), some (vI k), some (vI s), some (vI v)] [vI k] T ?_
  by_cases z1_0 : k = 1
  · refine j_tsI (pc := 1) 0 (off := 27) (tgt := 28) (by decide) ds_X3_playBaseball_1 (by omega) (by decide) rfl (by decide) (by decide) ?_
    refine j_blx (F := fX3) tb_X3 (by decide) bk_X3_playBaseball_28 bs_X3_playBaseball_28 hz (fun K hK => ?_)
    refine hK 31 [some (vR 103 p), some (vI k), some (vI s), some (vI v)] [vI v, vI s, vR 103 p] T ?_
    refine j_callV (y := yX3_hit) (Yc := zX3_hit) (rest := []) [vI s, vI v] (ct_X3_hit (T := T) (by omega) (by omega)) cl_X3_129 (qd_c (by decide +kernel)) (by decide) rfl (by decide +kernel) (Nat.le_of_ble_eq_true rfl) (by decide) (by decide) rfl ?_
    rintro U2 _ ⟨rfl, fU2, qU2o, qU2⟩
    show J_ zX3_playBaseball T (po_X3_playBaseball T p k s v) 0 0 34 [some (vR 103 p), some (vI k), some (vI s), some (vI v)] [] U2
    refine j_blx (F := fX3) tb_X3 (by decide) bk_X3_playBaseball_34 bs_X3_playBaseball_34 hz (fun K hK => ?_)
    refine hK 96 [some (vR 103 p), some (vI k), some (vI s), some (vI v)] [] U2 ?_
    refine j_blx (F := fX3) tb_X3 (by decide) bk_X3_playBaseball_96 bs_X3_playBaseball_96 hz (fun K hK => ?_)
    refine (show po_X3_playBaseball T p k s v U2 (none) from ?_)
    have e3 : U2 470 p 0 = T 470 p 0 := fU2 470 p 0 rfl
    have e4 : U2 470 p 1 = T 470 p 1 := fU2 470 p 1 rfl
    have g5 : U2 470 p 0 = T 470 p 0 := fU2 470 p 0 rfl
    have g6 : U2 470 p 1 = T 470 p 1 := fU2 470 p 1 rfl
    exact ⟨rfl, fr_t (fr_0 _ _) (fr_s fU2 rfl), oi_t (oi_r) qU2o, by exact fun _ => by omega⟩
  by_cases z1_1 : k = 2
  · refine j_tsI (pc := 1) 1 (off := 36) (tgt := 37) (by decide) ds_X3_playBaseball_1 (by omega) (by decide) rfl (by decide) (by decide) ?_
    refine j_blx (F := fX3) tb_X3 (by decide) bk_X3_playBaseball_37 bs_X3_playBaseball_37 hz (fun K hK => ?_)
    refine ix_i (by omega) ?_
    intro b7 b7b
    intro w8 w8b
    refine iy_i (by omega) (by omega) ?_
    refine x_nm (fun U9 hU9 => ?_)
    have e10 := up_f hU9
    refine ix_i (by omega) ?_
    intro b11 b11b
    have e12 : U9 466 p 0 = wr_ ((T 466 p 0) + 1) := up_f hU9
    rw [e12] at b11 b11b ⊢
    refine And.intro (fun c13 => ?_) (fun c13 => ?_)
    · refine hK 96 [some (vR 103 p), some (vI k), some (vI s), some (vI v)] [] U9 ?_
      refine j_blx (F := fX3) tb_X3 (by decide) bk_X3_playBaseball_96 bs_X3_playBaseball_96 hz (fun K hK => ?_)
      refine (show po_X3_playBaseball T p k s v U9 (none) from ?_)
      have e14 : U9 103 p 3 = T 103 p 3 := up_k hU9 (by decide) p 3
      have e15 : U9 470 p 0 = T 470 p 0 := up_k hU9 (by decide) p 0
      have e16 : U9 470 p 1 = T 470 p 1 := up_k hU9 (by decide) p 1
      have g17 : U9 470 p 0 = T 470 p 0 := up_k hU9 (by decide) p 0
      have g18 : U9 470 p 1 = T 470 p 1 := up_k hU9 (by decide) p 1
      have e19 : U9 103 p 3 = T 103 p 3 := up_k hU9 (by decide) p 3
      exact ⟨rfl, fr_u (fr_0 _ _) hU9 rfl, oi_u (oi_r) hU9, by exact fun _ => by omega⟩
    · refine hK 59 [some (vR 103 p), some (vI k), some (vI s), some (vI v)] [vI s, vR 103 p] U9 ?_
      have e20 : U9 470 p 0 = T 470 p 0 := up_k hU9 (by decide) p 0
      have e21 : U9 470 p 1 = T 470 p 1 := up_k hU9 (by decide) p 1
      refine j_callV (y := yX3_walk) (Yc := zX3_walk) (rest := []) [vI s] (ct_X3_walk (T := U9) (by omega) (by omega)) cl_X3_132 (qd_c (by decide +kernel)) (by decide) rfl (by decide +kernel) (Nat.le_of_ble_eq_true rfl) (by decide) (by decide) rfl ?_
      rintro U22 _ ⟨rfl, fU22, qU22o, qU22⟩
      show J_ zX3_playBaseball T (po_X3_playBaseball T p k s v) 0 0 62 [some (vR 103 p), some (vI k), some (vI s), some (vI v)] [] U22
      refine j_blx (F := fX3) tb_X3 (by decide) bk_X3_playBaseball_62 bs_X3_playBaseball_62 hz (fun K hK => ?_)
      refine hK 96 [some (vR 103 p), some (vI k), some (vI s), some (vI v)] [] U22 ?_
      refine j_blx (F := fX3) tb_X3 (by decide) bk_X3_playBaseball_96 bs_X3_playBaseball_96 hz (fun K hK => ?_)
      refine (show po_X3_playBaseball T p k s v U22 (none) from ?_)
      have e23 : U22 470 p 0 = T 470 p 0 := (fU22 470 p 0 rfl).trans (up_k hU9 (by decide) p 0)
      have e24 : U22 470 p 1 = T 470 p 1 := (fU22 470 p 1 rfl).trans (up_k hU9 (by decide) p 1)
      have g25 : U22 470 p 0 = T 470 p 0 := (fU22 470 p 0 rfl).trans (up_k hU9 (by decide) p 0)
      have g26 : U22 470 p 1 = T 470 p 1 := (fU22 470 p 1 rfl).trans (up_k hU9 (by decide) p 1)
      exact ⟨rfl, fr_t (fr_u (fr_0 _ _) hU9 rfl) (fr_s fU22 rfl), oi_t (oi_u (oi_r) hU9) qU22o, by exact fun _ => by omega⟩
  by_cases z1_2 : k = 3
  · refine j_tsI (pc := 1) 2 (off := 64) (tgt := 65) (by decide) ds_X3_playBaseball_1 (by omega) (by decide) rfl (by decide) (by decide) ?_
    refine j_blx (F := fX3) tb_X3 (by decide) bk_X3_playBaseball_65 bs_X3_playBaseball_65 hz (fun K hK => ?_)
    refine ix_i (by omega) ?_
    intro b27 b27b
    intro w28 w28b
    refine iy_i (by omega) (by omega) ?_
    refine x_nm (fun U29 hU29 => ?_)
    have e30 := up_f hU29
    refine ix_i (by omega) ?_
    intro b31 b31b
    have e32 : U29 466 p 1 = wr_ ((T 466 p 1) + 1) := up_f hU29
    rw [e32] at b31 b31b ⊢
    refine And.intro (fun c33 => ?_) (fun c33 => ?_)
    · refine hK 96 [some (vR 103 p), some (vI k), some (vI s), some (vI v)] [] U29 ?_
      refine j_blx (F := fX3) tb_X3 (by decide) bk_X3_playBaseball_96 bs_X3_playBaseball_96 hz (fun K hK => ?_)
      refine (show po_X3_playBaseball T p k s v U29 (none) from ?_)
      have e34 : U29 103 p 3 = T 103 p 3 := up_k hU29 (by decide) p 3
      have e35 : U29 470 p 0 = T 470 p 0 := up_k hU29 (by decide) p 0
      have e36 : U29 470 p 1 = T 470 p 1 := up_k hU29 (by decide) p 1
      have g37 : U29 470 p 0 = T 470 p 0 := up_k hU29 (by decide) p 0
      have g38 : U29 470 p 1 = T 470 p 1 := up_k hU29 (by decide) p 1
      have e39 : U29 103 p 3 = T 103 p 3 := up_k hU29 (by decide) p 3
      exact ⟨rfl, fr_u (fr_0 _ _) hU29 rfl, oi_u (oi_r) hU29, by exact fun _ => by omega⟩
    · refine hK 86 [some (vR 103 p), some (vI k), some (vI s), some (vI v)] [vR 103 p] U29 ?_
      have e40 : U29 470 p 0 = T 470 p 0 := up_k hU29 (by decide) p 0
      have e41 : U29 470 p 1 = T 470 p 1 := up_k hU29 (by decide) p 1
      refine j_callV (y := yX3_countOut) (Yc := zX3_countOut) (rest := []) [] (ct_X3_countOut (T := U29) (by omega)) cl_X3_135 (qd_c (by decide +kernel)) (by decide) rfl (by decide +kernel) (Nat.le_of_ble_eq_true rfl) (by decide) (by decide) rfl ?_
      rintro U42 _ ⟨rfl, fU42, qU42o, qU42⟩
      show J_ zX3_playBaseball T (po_X3_playBaseball T p k s v) 0 0 89 [some (vR 103 p), some (vI k), some (vI s), some (vI v)] [] U42
      refine j_blx (F := fX3) tb_X3 (by decide) bk_X3_playBaseball_89 bs_X3_playBaseball_89 hz (fun K hK => ?_)
      refine hK 96 [some (vR 103 p), some (vI k), some (vI s), some (vI v)] [] U42 ?_
      refine j_blx (F := fX3) tb_X3 (by decide) bk_X3_playBaseball_96 bs_X3_playBaseball_96 hz (fun K hK => ?_)
      refine (show po_X3_playBaseball T p k s v U42 (none) from ?_)
      have e43 : U42 470 p 0 = T 470 p 0 := (fU42 470 p 0 rfl).trans (up_k hU29 (by decide) p 0)
      have e44 : U42 470 p 1 = T 470 p 1 := (fU42 470 p 1 rfl).trans (up_k hU29 (by decide) p 1)
      have g45 : U42 470 p 0 = T 470 p 0 := (fU42 470 p 0 rfl).trans (up_k hU29 (by decide) p 0)
      have g46 : U42 470 p 1 = T 470 p 1 := (fU42 470 p 1 rfl).trans (up_k hU29 (by decide) p 1)
      exact ⟨rfl, fr_t (fr_u (fr_0 _ _) hU29 rfl) (fr_s fU42 rfl), oi_t (oi_u (oi_r) hU29) qU42o, by exact fun _ => by omega⟩
  refine j_tsO (pc := 1) (tgt := 92) (by decide) ds_X3_playBaseball_1 (by omega) (by decide) (by decide) ?_
  refine j_blx (F := fX3) tb_X3 (by decide) bk_X3_playBaseball_92 bs_X3_playBaseball_92 hz (fun K hK => ?_)
  refine hK 93 [some (vR 103 p), some (vI k), some (vI s), some (vI v)] [vR 103 p] T ?_
  refine j_callV (y := yX3_countOut) (Yc := zX3_countOut) (rest := []) [] (ct_X3_countOut (T := T) (by omega)) cl_X3_135 (qd_c (by decide +kernel)) (by decide) rfl (by decide +kernel) (Nat.le_of_ble_eq_true rfl) (by decide) (by decide) rfl ?_
  rintro U47 _ ⟨rfl, fU47, qU47o, qU47⟩
  show J_ zX3_playBaseball T (po_X3_playBaseball T p k s v) 0 0 96 [some (vR 103 p), some (vI k), some (vI s), some (vI v)] [] U47
  refine j_blx (F := fX3) tb_X3 (by decide) bk_X3_playBaseball_96 bs_X3_playBaseball_96 hz (fun K hK => ?_)
  refine (show po_X3_playBaseball T p k s v U47 (none) from ?_)
  have e48 : U47 470 p 0 = T 470 p 0 := fU47 470 p 0 rfl
  have e49 : U47 470 p 1 = T 470 p 1 := fU47 470 p 1 rfl
  have g50 : U47 470 p 0 = T 470 p 0 := fU47 470 p 0 rfl
  have g51 : U47 470 p 1 = T 470 p 1 := fU47 470 p 1 rfl
  exact ⟨rfl, fr_t (fr_0 _ _) (fr_s fU47 rfl), oi_t (oi_r) qU47o, by exact fun _ => by omega⟩
abbrev cX3_carryOut : ByteArray := prog_5_method_12_code
def yX3_carryOut : MethodName := ⟨RX3, "carryOut", "(IIII)V"⟩
def zX3_carryOut : Zm := (RX3, cX3_carryOut, 5, none, { frames := 4, cells := 0, slots := 0, locals := 91 })
theorem bk_X3_carryOut_0 : ck_ fX3 none cX3_carryOut 0 [.iload 1, .iconst 5, .if_icmp .ne 14, .aload 0, .iload 2, .iload 3, .iload 4] 10 = true := qck_r (by decide) (by decide +kernel)
theorem bs_X3_carryOut_0 {P : Zt → Option Zv → Prop} (K : Int → Zl → List Zv → Zt → Prop) : sx_ K P [.iload 1, .iconst 5, .if_icmp .ne 14, .aload 0, .iload 2, .iload 3, .iload 4] 10 = x_iload 1 (x_iconst 5 (x_if_icmp .ne 14 K (x_aload 0 (x_iload 2 (x_iload 3 (x_iload 4 (K 10))))))) := ((xe_iload 1).trans (congrArg (x_iload 1) ((xe_iconst 5).trans (congrArg (x_iconst 5) ((xe_if_icmp .ne 14).trans (congrArg (x_if_icmp .ne 14 K) ((xe_aload 0).trans (congrArg (x_aload 0) ((xe_iload 2).trans (congrArg (x_iload 2) ((xe_iload 3).trans (congrArg (x_iload 3) ((xe_iload 4).trans (congrArg (x_iload 4) xe_nil))))))))))))))
theorem bk_X3_carryOut_14 : ck_ fX3 none cX3_carryOut 14 [.aload 0, .tableswitch 0 3 0 #[], .iconst 0, .iaload] 20 = true := qck_r (by decide) (by decide +kernel)
theorem bs_X3_carryOut_14 {P : Zt → Option Zv → Prop} (K : Int → Zl → List Zv → Zt → Prop) : sx_ K P [.aload 0, .tableswitch 0 3 0 #[], .iconst 0, .iaload] 20 = x_aload 0 (x_g3 103 401 0 (x_iconst 0 (x_iaload (K 20)))) := ((xe_aload 0).trans (congrArg (x_aload 0) ((xe_g3 (kk := 103) rfl tl_3_0).trans (congrArg (x_g3 103 401 0) ((xe_iconst 0).trans (congrArg (x_iconst 0) ((xe_iaload).trans (congrArg (x_iaload) xe_nil))))))))
theorem ds_X3_carryOut_20 : decode cX3_carryOut 20 = .ok (.tableswitch 55 0 2 #[28, 38, 46], 28) := by decide +kernel
theorem bk_X3_carryOut_48 : ck_ fX3 none cX3_carryOut 48 [.aload 0, .iload 1, .iload 2, .iload 3] 52 = true := qck_r (by decide) (by decide +kernel)
theorem bs_X3_carryOut_48 {P : Zt → Option Zv → Prop} (K : Int → Zl → List Zv → Zt → Prop) : sx_ K P [.aload 0, .iload 1, .iload 2, .iload 3] 52 = x_aload 0 (x_iload 1 (x_iload 2 (x_iload 3 (K 52)))) := ((xe_aload 0).trans (congrArg (x_aload 0) ((xe_iload 1).trans (congrArg (x_iload 1) ((xe_iload 2).trans (congrArg (x_iload 2) ((xe_iload 3).trans (congrArg (x_iload 3) xe_nil))))))))
set_option maxRecDepth 100000 in
theorem cl_X3_99 : cv_ RX3 99 yX3_playFootball zX3_playFootball 3 3 := ⟨gi_V (lw_b5 68 (by decide +kernel) rfl : Cond.methodLink RX3 99 yX3_playFootball ∈ lw_g) (lw_b5 70 (by decide +kernel) rfl : Cond.instanceMethod yX3_playFootball ∈ lw_g) (lw_sel 94 rfl : Cond.selects yX3_playFootball.cls yX3_playFootball yX3_playFootball ∈ lw_g) (lw_b1 18 (by decide +kernel) rfl : Cond.initialized yX3_playFootball.cls ∈ lw_g) (lw_b5 71 rfl rfl : Cond.code yX3_playFootball cX3_playFootball 4 none ∈ lw_g), ⟨by decide, by decide, by decide +kernel⟩, ⟨_, _, rfl⟩⟩
theorem bk_X3_carryOut_55 : ck_ fX3 none cX3_carryOut 55 [.goto 83] 58 = true := qck_r (by decide) (by decide +kernel)
theorem bs_X3_carryOut_55 {P : Zt → Option Zv → Prop} (K : Int → Zl → List Zv → Zt → Prop) : sx_ K P [.goto 83] 58 = x_goto 83 K := (xe_goto 83)
theorem bk_X3_carryOut_83 : ck_ fX3 none cX3_carryOut 83 [.return_] 84 = true := qck_r (by decide) (by decide +kernel)
theorem bs_X3_carryOut_83 {P : Zt → Option Zv → Prop} (K : Int → Zl → List Zv → Zt → Prop) : sx_ K P [.return_] 84 = x_return_ P := (xe_return_)
theorem bk_X3_carryOut_58 : ck_ fX3 none cX3_carryOut 58 [.aload 0, .iload 2] 60 = true := qck_r (by decide) (by decide +kernel)
theorem bs_X3_carryOut_58 {P : Zt → Option Zv → Prop} (K : Int → Zl → List Zv → Zt → Prop) : sx_ K P [.aload 0, .iload 2] 60 = x_aload 0 (x_iload 2 (K 60)) := ((xe_aload 0).trans (congrArg (x_aload 0) ((xe_iload 2).trans (congrArg (x_iload 2) xe_nil))))
set_option maxRecDepth 100000 in
theorem cl_X3_102 : cv_ RX3 102 yX3_playVolleyball zX3_playVolleyball 3 1 := ⟨gi_V (lw_b5 84 (by decide +kernel) rfl : Cond.methodLink RX3 102 yX3_playVolleyball ∈ lw_g) (lw_b5 86 (by decide +kernel) rfl : Cond.instanceMethod yX3_playVolleyball ∈ lw_g) (lw_sel 96 rfl : Cond.selects yX3_playVolleyball.cls yX3_playVolleyball yX3_playVolleyball ∈ lw_g) (lw_b1 18 (by decide +kernel) rfl : Cond.initialized yX3_playVolleyball.cls ∈ lw_g) (lw_b5 87 rfl rfl : Cond.code yX3_playVolleyball cX3_playVolleyball 3 none ∈ lw_g), ⟨by decide, by decide, by decide +kernel⟩, ⟨_, _, rfl⟩⟩
theorem bk_X3_carryOut_63 : ck_ fX3 none cX3_carryOut 63 [.goto 83] 66 = true := qck_r (by decide) (by decide +kernel)
theorem bs_X3_carryOut_63 {P : Zt → Option Zv → Prop} (K : Int → Zl → List Zv → Zt → Prop) : sx_ K P [.goto 83] 66 = x_goto 83 K := (xe_goto 83)
theorem bk_X3_carryOut_66 : ck_ fX3 none cX3_carryOut 66 [.aload 0, .iload 1, .iload 2] 69 = true := qck_r (by decide) (by decide +kernel)
theorem bs_X3_carryOut_66 {P : Zt → Option Zv → Prop} (K : Int → Zl → List Zv → Zt → Prop) : sx_ K P [.aload 0, .iload 1, .iload 2] 69 = x_aload 0 (x_iload 1 (x_iload 2 (K 69))) := ((xe_aload 0).trans (congrArg (x_aload 0) ((xe_iload 1).trans (congrArg (x_iload 1) ((xe_iload 2).trans (congrArg (x_iload 2) xe_nil))))))
set_option maxRecDepth 100000 in
theorem cl_X3_106 : cv_ RX3 106 yX3_playTennis zX3_playTennis 3 2 := ⟨gi_V (lw_b5 95 (by decide +kernel) rfl : Cond.methodLink RX3 106 yX3_playTennis ∈ lw_g) (lw_b5 97 (by decide +kernel) rfl : Cond.instanceMethod yX3_playTennis ∈ lw_g) (lw_sel 95 rfl : Cond.selects yX3_playTennis.cls yX3_playTennis yX3_playTennis ∈ lw_g) (lw_b1 18 (by decide +kernel) rfl : Cond.initialized yX3_playTennis.cls ∈ lw_g) (lw_b5 98 rfl rfl : Cond.code yX3_playTennis cX3_playTennis 5 none ∈ lw_g), ⟨by decide, by decide, by decide +kernel⟩, ⟨_, _, rfl⟩⟩
theorem bk_X3_carryOut_72 : ck_ fX3 none cX3_carryOut 72 [.goto 83] 75 = true := qck_r (by decide) (by decide +kernel)
theorem bs_X3_carryOut_72 {P : Zt → Option Zv → Prop} (K : Int → Zl → List Zv → Zt → Prop) : sx_ K P [.goto 83] 75 = x_goto 83 K := (xe_goto 83)
theorem bk_X3_carryOut_75 : ck_ fX3 none cX3_carryOut 75 [.aload 0, .iload 1, .iload 2, .iload 4] 80 = true := qck_r (by decide) (by decide +kernel)
theorem bs_X3_carryOut_75 {P : Zt → Option Zv → Prop} (K : Int → Zl → List Zv → Zt → Prop) : sx_ K P [.aload 0, .iload 1, .iload 2, .iload 4] 80 = x_aload 0 (x_iload 1 (x_iload 2 (x_iload 4 (K 80)))) := ((xe_aload 0).trans (congrArg (x_aload 0) ((xe_iload 1).trans (congrArg (x_iload 1) ((xe_iload 2).trans (congrArg (x_iload 2) ((xe_iload 4).trans (congrArg (x_iload 4) xe_nil))))))))
set_option maxRecDepth 100000 in
theorem cl_X3_110 : cv_ RX3 110 yX3_playBaseball zX3_playBaseball 3 3 := ⟨gi_V (lw_b5 99 (by decide +kernel) rfl : Cond.methodLink RX3 110 yX3_playBaseball ∈ lw_g) (lw_b5 101 (by decide +kernel) rfl : Cond.instanceMethod yX3_playBaseball ∈ lw_g) (lw_sel 93 rfl : Cond.selects yX3_playBaseball.cls yX3_playBaseball yX3_playBaseball ∈ lw_g) (lw_b1 18 (by decide +kernel) rfl : Cond.initialized yX3_playBaseball.cls ∈ lw_g) (lw_b5 102 rfl rfl : Cond.code yX3_playBaseball cX3_playBaseball 4 none ∈ lw_g), ⟨by decide, by decide, by decide +kernel⟩, ⟨_, _, rfl⟩⟩
set_option maxRecDepth 100000 in
theorem cl_X3_95 : cv_ RX3 95 yX3_substitute zX3_substitute 3 3 := ⟨gi_V (lw_b5 64 (by decide +kernel) rfl : Cond.methodLink RX3 95 yX3_substitute ∈ lw_g) (lw_b5 66 (by decide +kernel) rfl : Cond.instanceMethod yX3_substitute ∈ lw_g) (lw_sel 101 rfl : Cond.selects yX3_substitute.cls yX3_substitute yX3_substitute ∈ lw_g) (lw_b1 18 (by decide +kernel) rfl : Cond.initialized yX3_substitute.cls ∈ lw_g) (lw_b5 67 rfl rfl : Cond.code yX3_substitute cX3_substitute 6 none ∈ lw_g), ⟨by decide, by decide, by decide +kernel⟩, ⟨_, _, rfl⟩⟩
theorem bk_X3_carryOut_13 : ck_ fX3 none cX3_carryOut 13 [.return_] 14 = true := qck_r (by decide) (by decide +kernel)
theorem bs_X3_carryOut_13 {P : Zt → Option Zv → Prop} (K : Int → Zl → List Zv → Zt → Prop) : sx_ K P [.return_] 14 = x_return_ P := (xe_return_)
abbrev po_X3_carryOut (T : Zt) (p : Int) (k s a b : Int) : Zt → Option Zv → Prop := fun T' r => r = none ∧ fr_ [(103, [3, 4, 5]), (466, []), (467, []), (468, []), (472, []), (471, []), (469, []), (470, []), (473, [])] T T' ∧ (oi_ T T' p ∧ (T' 103 p 3 = 0 → 1 ≤ T' 470 p 0 ∧ 1 ≤ T' 470 p 1))
set_option maxHeartbeats 4000000 in
theorem ct_X3_carryOut {T : Zt} {p : Int} {k s a b : Int} (hfm : (k = 0 ∨ (0 ≤ s ∧ s ≤ 1)) ∧ ((T 401 (T 103 p 0) 0 = 0 ∧ 0 ≤ k ∧ k ≤ 5) ∨ (T 401 (T 103 p 0) 0 = 1 ∧ (k = 1 ∨ k = 5)) ∨ (T 401 (T 103 p 0) 0 = 2 ∧ (k = 1 ∨ k = 6)) ∨ (¬ T 401 (T 103 p 0) 0 = 0 ∧ ¬ T 401 (T 103 p 0) 0 = 1 ∧ ¬ T 401 (T 103 p 0) 0 = 2 ∧ 1 ≤ k ∧ k ≤ 4))) (hf : 1 ≤ T 401 (T 103 p 0) 9 ∧ T 401 (T 103 p 0) 9 ≤ 6) (hfd : 1 ≤ T 470 p 0 ∧ 1 ≤ T 470 p 1) : Ct_ yX3_carryOut zX3_carryOut T [vR 103 p, vI k, vI s, vI a, vI b] (po_X3_carryOut T p k s a b) := by
  refine ct_of (by decide) rfl rfl (Nat.le_of_ble_eq_true rfl) (fun hT hav => ?_)
  have hr_k : -2147483648 ≤ k ∧ k ≤ 2147483647 := hav (vI k) (by simp)
  have hr_s : -2147483648 ≤ s ∧ s ≤ 2147483647 := hav (vI s) (by simp)
  have hr_a : -2147483648 ≤ a ∧ a ≤ 2147483647 := hav (vI a) (by simp)
  have hr_b : -2147483648 ≤ b ∧ b ≤ 2147483647 := hav (vI b) (by simp)
  have hz : zX3_carryOut.2.2.2.1 = some .boolean → ∀ (T' : Zt) (x : Int), po_X3_carryOut T p k s a b T' (some (vI x)) → 0 ≤ x ∧ x ≤ 1 := fun h => by cases h
  show J_ zX3_carryOut T (po_X3_carryOut T p k s a b) 0 0 0 [some (vR 103 p), some (vI k), some (vI s), some (vI a), some (vI b)] [] T
  refine j_blx (F := fX3) tb_X3 (by decide) bk_X3_carryOut_0 bs_X3_carryOut_0 hz (fun K hK => ?_)
  refine And.intro (fun c1 => ?_) (fun c1 => ?_)
  · refine hK 14 [some (vR 103 p), some (vI k), some (vI s), some (vI a), some (vI b)] [] T ?_
    refine j_blx (F := fX3) tb_X3 (by decide) bk_X3_carryOut_14 bs_X3_carryOut_14 hz (fun K hK => ?_)
    refine ix_i (by omega) ?_
    intro b3 b3b
    refine hK 20 [some (vR 103 p), some (vI k), some (vI s), some (vI a), some (vI b)] [vI (T 401 (T 103 p 0) 0)] T ?_
    by_cases z4_0 : (T 401 (T 103 p 0) 0) = 0
    · refine j_tsI (pc := 20) 0 (off := 28) (tgt := 48) (by decide) ds_X3_carryOut_20 (by omega) (by decide) rfl (by decide) (by decide) ?_
      refine j_blx (F := fX3) tb_X3 (by decide) bk_X3_carryOut_48 bs_X3_carryOut_48 hz (fun K hK => ?_)
      refine hK 52 [some (vR 103 p), some (vI k), some (vI s), some (vI a), some (vI b)] [vI a, vI s, vI k, vR 103 p] T ?_
      refine j_callV (y := yX3_playFootball) (Yc := zX3_playFootball) (rest := []) [vI k, vI s, vI a] (ct_X3_playFootball (T := T) (by omega) (by omega) (by omega) (by omega)) cl_X3_99 (qd_c (by decide +kernel)) (by decide) rfl (by decide +kernel) (Nat.le_of_ble_eq_true rfl) (by decide) (by decide) rfl ?_
      rintro U5 _ ⟨rfl, fU5, qU5o, qU5⟩
      show J_ zX3_carryOut T (po_X3_carryOut T p k s a b) 0 0 55 [some (vR 103 p), some (vI k), some (vI s), some (vI a), some (vI b)] [] U5
      refine j_blx (F := fX3) tb_X3 (by decide) bk_X3_carryOut_55 bs_X3_carryOut_55 hz (fun K hK => ?_)
      refine hK 83 [some (vR 103 p), some (vI k), some (vI s), some (vI a), some (vI b)] [] U5 ?_
      refine j_blx (F := fX3) tb_X3 (by decide) bk_X3_carryOut_83 bs_X3_carryOut_83 hz (fun K hK => ?_)
      refine (show po_X3_carryOut T p k s a b U5 (none) from ?_)
      exact ⟨rfl, fr_t (fr_0 _ _) (fr_s fU5 rfl), oi_t (oi_r) qU5o, by exact fun z9 => by have y9 := qU5; omega⟩
    by_cases z4_1 : (T 401 (T 103 p 0) 0) = 1
    · refine j_tsI (pc := 20) 1 (off := 38) (tgt := 58) (by decide) ds_X3_carryOut_20 (by omega) (by decide) rfl (by decide) (by decide) ?_
      refine j_blx (F := fX3) tb_X3 (by decide) bk_X3_carryOut_58 bs_X3_carryOut_58 hz (fun K hK => ?_)
      refine hK 60 [some (vR 103 p), some (vI k), some (vI s), some (vI a), some (vI b)] [vI s, vR 103 p] T ?_
      refine j_callV (y := yX3_playVolleyball) (Yc := zX3_playVolleyball) (rest := []) [vI s] (ct_X3_playVolleyball (T := T) (by omega) (by omega)) cl_X3_102 (qd_c (by decide +kernel)) (by decide) rfl (by decide +kernel) (Nat.le_of_ble_eq_true rfl) (by decide) (by decide) rfl ?_
      rintro U6 _ ⟨rfl, fU6, qU6o, qU6⟩
      show J_ zX3_carryOut T (po_X3_carryOut T p k s a b) 0 0 63 [some (vR 103 p), some (vI k), some (vI s), some (vI a), some (vI b)] [] U6
      refine j_blx (F := fX3) tb_X3 (by decide) bk_X3_carryOut_63 bs_X3_carryOut_63 hz (fun K hK => ?_)
      refine hK 83 [some (vR 103 p), some (vI k), some (vI s), some (vI a), some (vI b)] [] U6 ?_
      refine j_blx (F := fX3) tb_X3 (by decide) bk_X3_carryOut_83 bs_X3_carryOut_83 hz (fun K hK => ?_)
      refine (show po_X3_carryOut T p k s a b U6 (none) from ?_)
      have e7 : U6 470 p 0 = T 470 p 0 := fU6 470 p 0 rfl
      have e8 : U6 470 p 1 = T 470 p 1 := fU6 470 p 1 rfl
      have g9 : U6 470 p 0 = T 470 p 0 := fU6 470 p 0 rfl
      have g10 : U6 470 p 1 = T 470 p 1 := fU6 470 p 1 rfl
      exact ⟨rfl, fr_t (fr_0 _ _) (fr_s fU6 rfl), oi_t (oi_r) qU6o, by exact fun _ => by omega⟩
    by_cases z4_2 : (T 401 (T 103 p 0) 0) = 2
    · refine j_tsI (pc := 20) 2 (off := 46) (tgt := 66) (by decide) ds_X3_carryOut_20 (by omega) (by decide) rfl (by decide) (by decide) ?_
      refine j_blx (F := fX3) tb_X3 (by decide) bk_X3_carryOut_66 bs_X3_carryOut_66 hz (fun K hK => ?_)
      refine hK 69 [some (vR 103 p), some (vI k), some (vI s), some (vI a), some (vI b)] [vI s, vI k, vR 103 p] T ?_
      refine j_callV (y := yX3_playTennis) (Yc := zX3_playTennis) (rest := []) [vI k, vI s] (ct_X3_playTennis (T := T) (by omega) (by omega)) cl_X3_106 (qd_c (by decide +kernel)) (by decide) rfl (by decide +kernel) (Nat.le_of_ble_eq_true rfl) (by decide) (by decide) rfl ?_
      rintro U11 _ ⟨rfl, fU11, qU11o, qU11⟩
      show J_ zX3_carryOut T (po_X3_carryOut T p k s a b) 0 0 72 [some (vR 103 p), some (vI k), some (vI s), some (vI a), some (vI b)] [] U11
      refine j_blx (F := fX3) tb_X3 (by decide) bk_X3_carryOut_72 bs_X3_carryOut_72 hz (fun K hK => ?_)
      refine hK 83 [some (vR 103 p), some (vI k), some (vI s), some (vI a), some (vI b)] [] U11 ?_
      refine j_blx (F := fX3) tb_X3 (by decide) bk_X3_carryOut_83 bs_X3_carryOut_83 hz (fun K hK => ?_)
      refine (show po_X3_carryOut T p k s a b U11 (none) from ?_)
      have e12 : U11 470 p 0 = T 470 p 0 := fU11 470 p 0 rfl
      have e13 : U11 470 p 1 = T 470 p 1 := fU11 470 p 1 rfl
      have g14 : U11 470 p 0 = T 470 p 0 := fU11 470 p 0 rfl
      have g15 : U11 470 p 1 = T 470 p 1 := fU11 470 p 1 rfl
      exact ⟨rfl, fr_t (fr_0 _ _) (fr_s fU11 rfl), oi_t (oi_r) qU11o, by exact fun _ => by omega⟩
    refine j_tsO (pc := 20) (tgt := 75) (by decide) ds_X3_carryOut_20 (by omega) (by decide) (by decide) ?_
    refine j_blx (F := fX3) tb_X3 (by decide) bk_X3_carryOut_75 bs_X3_carryOut_75 hz (fun K hK => ?_)
    refine hK 80 [some (vR 103 p), some (vI k), some (vI s), some (vI a), some (vI b)] [vI b, vI s, vI k, vR 103 p] T ?_
    refine j_callV (y := yX3_playBaseball) (Yc := zX3_playBaseball) (rest := []) [vI k, vI s, vI b] (ct_X3_playBaseball (T := T) (by omega) (by omega)) cl_X3_110 (qd_c (by decide +kernel)) (by decide) rfl (by decide +kernel) (Nat.le_of_ble_eq_true rfl) (by decide) (by decide) rfl ?_
    rintro U16 _ ⟨rfl, fU16, qU16o, qU16⟩
    show J_ zX3_carryOut T (po_X3_carryOut T p k s a b) 0 0 83 [some (vR 103 p), some (vI k), some (vI s), some (vI a), some (vI b)] [] U16
    refine j_blx (F := fX3) tb_X3 (by decide) bk_X3_carryOut_83 bs_X3_carryOut_83 hz (fun K hK => ?_)
    refine (show po_X3_carryOut T p k s a b U16 (none) from ?_)
    have e17 : U16 470 p 0 = T 470 p 0 := fU16 470 p 0 rfl
    have e18 : U16 470 p 1 = T 470 p 1 := fU16 470 p 1 rfl
    have g19 : U16 470 p 0 = T 470 p 0 := fU16 470 p 0 rfl
    have g20 : U16 470 p 1 = T 470 p 1 := fU16 470 p 1 rfl
    exact ⟨rfl, fr_t (fr_0 _ _) (fr_s fU16 rfl), oi_t (oi_r) qU16o, by exact fun _ => by omega⟩
  · refine hK 10 [some (vR 103 p), some (vI k), some (vI s), some (vI a), some (vI b)] [vI b, vI a, vI s, vR 103 p] T ?_
    refine j_callV (y := yX3_substitute) (Yc := zX3_substitute) (rest := []) [vI s, vI a, vI b] (ct_X3_substitute (T := T) (by omega)) cl_X3_95 (qd_c (by decide +kernel)) (by decide) rfl (by decide +kernel) (Nat.le_of_ble_eq_true rfl) (by decide) (by decide) rfl ?_
    rintro U21 _ ⟨rfl, fU21, qU21o, qU21⟩
    show J_ zX3_carryOut T (po_X3_carryOut T p k s a b) 0 0 13 [some (vR 103 p), some (vI k), some (vI s), some (vI a), some (vI b)] [] U21
    refine j_blx (F := fX3) tb_X3 (by decide) bk_X3_carryOut_13 bs_X3_carryOut_13 hz (fun K hK => ?_)
    refine (show po_X3_carryOut T p k s a b U21 (none) from ?_)
    have e22 : U21 103 p 3 = T 103 p 3 := fU21 103 p 3 rfl
    have e23 : U21 470 p 0 = T 470 p 0 := fU21 470 p 0 rfl
    have e24 : U21 470 p 1 = T 470 p 1 := fU21 470 p 1 rfl
    have g25 : U21 470 p 0 = T 470 p 0 := fU21 470 p 0 rfl
    have g26 : U21 470 p 1 = T 470 p 1 := fU21 470 p 1 rfl
    have e27 : U21 103 p 3 = T 103 p 3 := fU21 103 p 3 rfl
    exact ⟨rfl, fr_t (fr_0 _ _) (fr_s fU21 rfl), oi_t (oi_r) qU21o, by exact fun _ => by omega⟩

