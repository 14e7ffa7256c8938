theorem pbb9__6 {r : Int → Int} {a : Sg_} {k s v : Int} (h0 : ¬ (k = 1)) (h1 : ¬ (k = 2)) (h2 : ¬ (k = 3)) : pbb9_ r a k s v = co9_ r a := by
  unfold pbb9_
  rw [cz_f h0, cz_f h1, cz_f h2]
noncomputable def ca9_ (r : Int → Int) (a : Sg_) (k s q o : Int) : Sg_ := (cz_ (k = 5) (su9_ r a s q o) (cz_ (r 0 = 0) (pf9_ r a k s q) (cz_ (r 0 = 1) (pv9_ r a s) (cz_ (r 0 = 2) (pt9_ r a k s) (pbb9_ r a k s o)))))
theorem ca9__1 {r : Int → Int} {a : Sg_} {k s q o : Int} (h0 : k = 5) : ca9_ r a k s q o = su9_ r a s q o := by
  unfold ca9_
  rw [cz_t h0]
theorem ca9__2 {r : Int → Int} {a : Sg_} {k s q o : Int} (h0 : ¬ (k = 5)) (h1 : r 0 = 0) : ca9_ r a k s q o = pf9_ r a k s q := by
  unfold ca9_
  rw [cz_f h0, cz_t h1]
theorem ca9__3 {r : Int → Int} {a : Sg_} {k s q o : Int} (h0 : ¬ (k = 5)) (h1 : ¬ (r 0 = 0)) (h2 : r 0 = 1) : ca9_ r a k s q o = pv9_ r a s := by
  unfold ca9_
  rw [cz_f h0, cz_f h1, cz_t h2]
theorem ca9__4 {r : Int → Int} {a : Sg_} {k s q o : Int} (h0 : ¬ (k = 5)) (h1 : ¬ (r 0 = 0)) (h2 : ¬ (r 0 = 1)) (h3 : r 0 = 2) : ca9_ r a k s q o = pt9_ r a k s := by
  unfold ca9_
  rw [cz_f h0, cz_f h1, cz_f h2, cz_t h3]
theorem ca9__5 {r : Int → Int} {a : Sg_} {k s q o : Int} (h0 : ¬ (k = 5)) (h1 : ¬ (r 0 = 0)) (h2 : ¬ (r 0 = 1)) (h3 : ¬ (r 0 = 2)) : ca9_ r a k s q o = pbb9_ r a k s o := by
  unfold ca9_
  rw [cz_f h0, cz_f h1, cz_f h2, cz_f h3]
/-- the rules that a play goes by -/
def RLP_ (T : Zt) (p : Int) (r : Int → Int) : Prop := ∀ w, 0 ≤ w → w < 16 → T 401 (T 103 p 0) w = r w
theorem rl_f {ws : List (Nat × List Int)} {T T' : Zt} {p : Int} {r : Int → Int} (h : RLP_ T p r) (f : fr_ ws T T') (w : fw_ ws 103 0 = false) (w2 : ∀ j, fw_ ws 401 j = false) : RLP_ T' p r := fun x a b => by
  rw [f 103 p 0 w, f 401 _ x (w2 x)]
  exact h x a b
theorem bk_J6_bitCount_e_0 : ck_ fJ6 (some .int) cJ6_bitCount_0f7a4 0 [.iload 0, .iload 0, .iconst 1, .iushr, .iconst 1431655765, .iand, .fsub, .istore 0, .iload 0, .iconst 858993459, .iand, .iload 0, .iconst 2, .iushr, .iconst 858993459, .iand, .fadd, .istore 0, .iload 0, .iload 0, .iconst 4, .iushr, .fadd, .iconst 252645135, .iand, .istore 0, .iload 0, .iload 0, .iconst 8, .iushr, .fadd, .istore 0, .iload 0, .iload 0, .iconst 16, .iushr, .fadd, .istore 0, .iload 0, .iconst 63, .iand, .ireturn] 53 = true := qck_r (nn_ _) (by decide +kernel)
theorem bs_J6_bitCount_e_0 {P : Zt → Option Zv → Prop} (K : Int → Zl → List Zv → Zt → Prop) : sx_ K P [.iload 0, .iload 0, .iconst 1, .iushr, .iconst 1431655765, .iand, .fsub, .istore 0, .iload 0, .iconst 858993459, .iand, .iload 0, .iconst 2, .iushr, .iconst 858993459, .iand, .fadd, .istore 0, .iload 0, .iload 0, .iconst 4, .iushr, .fadd, .iconst 252645135, .iand, .istore 0, .iload 0, .iload 0, .iconst 8, .iushr, .fadd, .istore 0, .iload 0, .iload 0, .iconst 16, .iushr, .fadd, .istore 0, .iload 0, .iconst 63, .iand, .ireturn] 53 = x_iload 0 (x_iload 0 (x_iconst 1 (x_iushr (x_iconst 1431655765 (x_iand (x_fsub (x_istore 0 (x_iload 0 (x_iconst 858993459 (x_iand (x_iload 0 (x_iconst 2 (x_iushr (x_iconst 858993459 (x_iand (x_fadd (x_istore 0 (x_iload 0 (x_iload 0 (x_iconst 4 (x_iushr (x_fadd (x_iconst 252645135 (x_iand (x_istore 0 (x_iload 0 (x_iload 0 (x_iconst 8 (x_iushr (x_fadd (x_istore 0 (x_iload 0 (x_iload 0 (x_iconst 16 (x_iushr (x_fadd (x_istore 0 (x_iload 0 (x_iconst 63 (x_iand (x_ireturn P))))))))))))))))))))))))))))))))))))))))) := ((xe_iload 0).trans (congrArg (x_iload 0) ((xe_iload 0).trans (congrArg (x_iload 0) ((xe_iconst 1).trans (congrArg (x_iconst 1) ((xe_iushr).trans (congrArg (x_iushr) ((xe_iconst 1431655765).trans (congrArg (x_iconst 1431655765) ((xe_iand).trans (congrArg (x_iand) ((xe_fsub).trans (congrArg (x_fsub) ((xe_istore 0).trans (congrArg (x_istore 0) ((xe_iload 0).trans (congrArg (x_iload 0) ((xe_iconst 858993459).trans (congrArg (x_iconst 858993459) ((xe_iand).trans (congrArg (x_iand) ((xe_iload 0).trans (congrArg (x_iload 0) ((xe_iconst 2).trans (congrArg (x_iconst 2) ((xe_iushr).trans (congrArg (x_iushr) ((xe_iconst 858993459).trans (congrArg (x_iconst 858993459) ((xe_iand).trans (congrArg (x_iand) ((xe_fadd).trans (congrArg (x_fadd) ((xe_istore 0).trans (congrArg (x_istore 0) ((xe_iload 0).trans (congrArg (x_iload 0) ((xe_iload 0).trans (congrArg (x_iload 0) ((xe_iconst 4).trans (congrArg (x_iconst 4) ((xe_iushr).trans (congrArg (x_iushr) ((xe_fadd).trans (congrArg (x_fadd) ((xe_iconst 252645135).trans (congrArg (x_iconst 252645135) ((xe_iand).trans (congrArg (x_iand) ((xe_istore 0).trans (congrArg (x_istore 0) ((xe_iload 0).trans (congrArg (x_iload 0) ((xe_iload 0).trans (congrArg (x_iload 0) ((xe_iconst 8).trans (congrArg (x_iconst 8) ((xe_iushr).trans (congrArg (x_iushr) ((xe_fadd).trans (congrArg (x_fadd) ((xe_istore 0).trans (congrArg (x_istore 0) ((xe_iload 0).trans (congrArg (x_iload 0) ((xe_iload 0).trans (congrArg (x_iload 0) ((xe_iconst 16).trans (congrArg (x_iconst 16) ((xe_iushr).trans (congrArg (x_iushr) ((xe_fadd).trans (congrArg (x_fadd) ((xe_istore 0).trans (congrArg (x_istore 0) ((xe_iload 0).trans (congrArg (x_iload 0) ((xe_iconst 63).trans (congrArg (x_iconst 63) ((xe_iand).trans (congrArg (x_iand) (xe_ireturn)))))))))))))))))))))))))))))))))))))))))))))))))))))))))))))))))))))))))))))))))))
abbrev po_J6_bitCount_e (T : Zt) (bx : Int) : Zt → Option Zv → Prop := fun T' r => T = T' ∧ r = some (vI (bc9_ bx))
set_option maxHeartbeats 4000000 in
theorem ct_J6_bitCount_e {T : Zt} {bx : Int} : Ct_ yJ6_bitCount_0f7a4 zJ6_bitCount_0f7a4 T [vI bx] (po_J6_bitCount_e T bx) := by
  refine ct_of (by decide) rfl rfl (Nat.le_of_ble_eq_true rfl) (fun hT hav => ?_)
  have hr_bx : -2147483648 ≤ bx ∧ bx ≤ 2147483647 := hav (vI bx) List.mem_cons_self
  have hz : zJ6_bitCount_0f7a4.2.2.2.1 = some .boolean → ∀ (T' : Zt) (x : Int), po_J6_bitCount_e T bx T' (some (vI x)) → 0 ≤ x ∧ x ≤ 1 := fun h => by cases h
  show J_ zJ6_bitCount_0f7a4 T (po_J6_bitCount_e T bx) 0 0 0 [some (vI bx)] [] T
  refine j_blx (F := fJ6) tb_J6 (nn_ _) bk_J6_bitCount_e_0 bs_J6_bitCount_e_0 hz (fun K hK => ?_)
  intro w1 w1b
  intro w2 w2b
  intro w3 w3b
  intro w4 w4b
  intro w5 w5b
  intro w6 w6b
  intro w7 w7b
  intro w8 w8b
  intro w9 w9b
  intro w10 w10b
  intro w11 w11b
  intro w12 w12b
  intro w13 w13b
  intro w14 w14b
  intro w15 w15b
  refine (show po_J6_bitCount_e T bx T (some (vI (an_ (wr_ ((wr_ ((an_ (wr_ ((wr_ ((an_ (wr_ (bx - (an_ (us_ bx 1) 1431655765))) 858993459) + (an_ (us_ (wr_ (bx - (an_ (us_ bx 1) 1431655765))) 2) 858993459))) + (us_ (wr_ ((an_ (wr_ (bx - (an_ (us_ bx 1) 1431655765))) 858993459) + (an_ (us_ (wr_ (bx - (an_ (us_ bx 1) 1431655765))) 2) 858993459))) 4))) 252645135) + (us_ (an_ (wr_ ((wr_ ((an_ (wr_ (bx - (an_ (us_ bx 1) 1431655765))) 858993459) + (an_ (us_ (wr_ (bx - (an_ (us_ bx 1) 1431655765))) 2) 858993459))) + (us_ (wr_ ((an_ (wr_ (bx - (an_ (us_ bx 1) 1431655765))) 858993459) + (an_ (us_ (wr_ (bx - (an_ (us_ bx 1) 1431655765))) 2) 858993459))) 4))) 252645135) 8))) + (us_ (wr_ ((an_ (wr_ ((wr_ ((an_ (wr_ (bx - (an_ (us_ bx 1) 1431655765))) 858993459) + (an_ (us_ (wr_ (bx - (an_ (us_ bx 1) 1431655765))) 2) 858993459))) + (us_ (wr_ ((an_ (wr_ (bx - (an_ (us_ bx 1) 1431655765))) 858993459) + (an_ (us_ (wr_ (bx - (an_ (us_ bx 1) 1431655765))) 2) 858993459))) 4))) 252645135) + (us_ (an_ (wr_ ((wr_ ((an_ (wr_ (bx - (an_ (us_ bx 1) 1431655765))) 858993459) + (an_ (us_ (wr_ (bx - (an_ (us_ bx 1) 1431655765))) 2) 858993459))) + (us_ (wr_ ((an_ (wr_ (bx - (an_ (us_ bx 1) 1431655765))) 858993459) + (an_ (us_ (wr_ (bx - (an_ (us_ bx 1) 1431655765))) 2) 858993459))) 4))) 252645135) 8))) 16))) 63))) from ?_)
  exact ⟨rfl, rfl⟩
