abbrev cJ7_copyOf_59c91 : ByteArray := prog_21_method_123_code
def yJ7_copyOf_59c91 : MethodName := ⟨RJ7, "copyOf", "([II)[I"⟩
def zJ7_copyOf_59c91 (sl : Nat) : Zm := (RJ7, cJ7_copyOf_59c91, 3, (some (.array .int)), { frames := 1, cells := 1, slots := 2 * sl, locals := 70 })
theorem bk_J7_copyOf_59c91_0 : ck_ fJ7 (some (.array .int)) cJ7_copyOf_59c91 0 [.iload 1, .aload 0, .arraylength, .if_icmp .ne 14, .aload 0] 7 = true := qck_r (by decide) (by decide +kernel)
theorem bs_J7_copyOf_59c91_0 {P : Zt → Option Zv → Prop} (K : Int → Zl → List Zv → Zt → Prop) : sx_ K P [.iload 1, .aload 0, .arraylength, .if_icmp .ne 14, .aload 0] 7 = x_iload 1 (x_aload 0 (x_arraylength (x_if_icmp .ne 14 K (x_aload 0 (K 7))))) := ((xe_iload 1).trans (congrArg (x_iload 1) ((xe_aload 0).trans (congrArg (x_aload 0) ((xe_arraylength).trans (congrArg (x_arraylength) ((xe_if_icmp .ne 14).trans (congrArg (x_if_icmp .ne 14 K) ((xe_aload 0).trans (congrArg (x_aload 0) xe_nil))))))))))
theorem bk_J7_copyOf_59c91_14 : ck_ fJ7 (some (.array .int)) cJ7_copyOf_59c91 14 [.iload 1] 15 = true := qck_r (by decide) (by decide +kernel)
theorem bs_J7_copyOf_59c91_14 {P : Zt → Option Zv → Prop} (K : Int → Zl → List Zv → Zt → Prop) : sx_ K P [.iload 1] 15 = x_iload 1 (K 15) := ((xe_iload 1).trans (congrArg (x_iload 1) xe_nil))
theorem bk_J7_copyOf_59c91_17 : ck_ fJ7 (some (.array .int)) cJ7_copyOf_59c91 17 [.astore 2, .aload 0, .iconst 0, .aload 2, .iconst 0, .aload 0, .arraylength, .iload 1] 25 = true := qck_r (by decide) (by decide +kernel)
theorem bs_J7_copyOf_59c91_17 {P : Zt → Option Zv → Prop} (K : Int → Zl → List Zv → Zt → Prop) : sx_ K P [.astore 2, .aload 0, .iconst 0, .aload 2, .iconst 0, .aload 0, .arraylength, .iload 1] 25 = x_astore 2 (x_aload 0 (x_iconst 0 (x_aload 2 (x_iconst 0 (x_aload 0 (x_arraylength (x_iload 1 (K 25)))))))) := ((xe_astore 2).trans (congrArg (x_astore 2) ((xe_aload 0).trans (congrArg (x_aload 0) ((xe_iconst 0).trans (congrArg (x_iconst 0) ((xe_aload 2).trans (congrArg (x_aload 2) ((xe_iconst 0).trans (congrArg (x_iconst 0) ((xe_aload 0).trans (congrArg (x_aload 0) ((xe_arraylength).trans (congrArg (x_arraylength) ((xe_iload 1).trans (congrArg (x_iload 1) xe_nil))))))))))))))))
theorem bk_J7_copyOf_59c91_31 : ck_ fJ7 (some (.array .int)) cJ7_copyOf_59c91 31 [.aload 2] 32 = true := qck_r (by decide) (by decide +kernel)
theorem bs_J7_copyOf_59c91_31 {P : Zt → Option Zv → Prop} (K : Int → Zl → List Zv → Zt → Prop) : sx_ K P [.aload 2] 32 = x_aload 2 (K 32) := ((xe_aload 2).trans (congrArg (x_aload 2) xe_nil))
abbrev po_J7_copyOf_59c91 (T : Zt) (sl : Nat) (a : Int) (n : Int) : Zt → Option Zv → Prop := fun T' r => r = some (vR 190 (T 191 0 0)) ∧ fr_ [(190, []), (191, [0])] T T' ∧ T' 191 0 0 = T 191 0 0 + 1 ∧ T' 190 (T 191 0 0) (-2) = n ∧ ∀ x j, x ≠ T 191 0 0 → T' 190 x j = T 190 x j
set_option maxHeartbeats 4000000 in
theorem ct_J7_copyOf_59c91 {T : Zt} {sl : Nat} {a : Int} {n : Int} (h1 : T 190 a (-2) < n ∧ n ≤ 100000 ∧ 0 ≤ T 190 a (-2)) (h2 : n.toNat ≤ 2 * sl) (h3 : a < T 191 0 0) : Ct_ yJ7_copyOf_59c91 (zJ7_copyOf_59c91 sl) T [vR 190 a, vI n] (po_J7_copyOf_59c91 T sl a n) := by
  refine ct_of (by decide) rfl rfl (Nat.le_of_ble_eq_true rfl) (fun hT hav => ?_) (hi := fun h => absurd ((im_ev _).symm.trans h) (by decide))
  have hr_n : -2147483648 ≤ n ∧ n ≤ 2147483647 := hav (vI n) (by simp)
  have hz : (zJ7_copyOf_59c91 sl).2.2.2.1 = some .boolean → ∀ (T' : Zt) (x : Int), po_J7_copyOf_59c91 T sl a n T' (some (vI x)) → 0 ≤ x ∧ x ≤ 1 := fun h => by cases h
  show J_ (zJ7_copyOf_59c91 sl) T (po_J7_copyOf_59c91 T sl a n) 1 (2 * sl) 0 [some (vR 190 a), some (vI n), none] [] T
  refine j_blx (F := fJ7) tb_J7 (by decide) bk_J7_copyOf_59c91_0 bs_J7_copyOf_59c91_0 hz (fun K hK => ?_)
  intro b1 b1b
  refine And.intro (fun c2 => ?_) (fun c2 => ?_)
  · refine hK 14 [some (vR 190 a), some (vI n), none] [] T ?_
    refine j_blx (F := fJ7) tb_J7 (by decide) bk_J7_copyOf_59c91_14 bs_J7_copyOf_59c91_14 hz (fun K hK => ?_)
    refine hK 15 [some (vR 190 a), some (vI n), none] [vI n] T ?_
    refine j_newL (bc' := 0) (bs' := 0) (pc := 15) (by decide) (by omega) (by omega) (by omega) (by show decode cJ7_copyOf_59c91 (Int.toNat 15) = _; decide +kernel) (lw_b1 72 (by decide +kernel) rfl : Cond.arrayClass .int ∈ lw_g) ?_
    refine j_nm (fun U3 hU3 => ?_)
    have fU3 := nv_fr hU3
    have aU3 := nv_t9 hU3
    have lU3 := nv_tl hU3
    have oU3 := nv_to hU3
    show J_ (zJ7_copyOf_59c91 sl) T (po_J7_copyOf_59c91 T sl a n) 0 0 17 [some (vR 190 a), some (vI n), none] [vR 190 (T 191 0 0)] U3
    refine j_blx (F := fJ7) tb_J7 (by decide) bk_J7_copyOf_59c91_17 bs_J7_copyOf_59c91_17 hz (fun K hK => ?_)
    have y8 : U3 190 a (-2) = T 190 a (-2) := oU3 a (-2) (by omega)
    intro b4 b4b
    refine hK 25 [some (vR 190 a), some (vI n), some (vR 190 (T 191 0 0))] [vI n, vI (U3 190 a (-2)), vI 0, vR 190 (T 191 0 0), vI 0, vR 190 a] U3 ?_
    obtain ⟨x5, e6, hx5⟩ : ∃ x5 : Int, (if n < (U3 190 a (-2)) then n else (U3 190 a (-2))) = x5 ∧ ((x5 = U3 190 a (-2) ∨ x5 = n) ∧ x5 ≤ U3 190 a (-2) ∧ x5 ≤ n) := ⟨_, rfl, by split <;> omega⟩
    refine j_mn (pc := 25) (lw_b5 142 (by decide +kernel) rfl : Cond.methodLink RJ7 304 Lib.Math.min.name ∈ lw_g) (lw_b4 117 (by decide +kernel) rfl : Cond.static Lib.Math.min.name ∈ lw_g) (lw_b1 17 (by decide +kernel) rfl : Cond.initialized "java/lang/Math" ∈ lw_g) (lw_b4 118 (by decide +kernel) rfl : Cond.code Lib.Math.min.name Lib.Math.min.code 2 (some .int) ∈ lw_g) (by show decode cJ7_copyOf_59c91 (Int.toNat 25) = _; decide +kernel) (by decide) (Nat.le_of_ble_eq_true rfl) (Nat.le_of_ble_eq_true rfl) (Nat.le_of_ble_eq_true rfl) ?_
    rw [e6]
    show J_ (zJ7_copyOf_59c91 sl) T (po_J7_copyOf_59c91 T sl a n) 0 0 28 [some (vR 190 a), some (vI n), some (vR 190 (T 191 0 0))] [vI x5, vI 0, vR 190 (T 191 0 0), vI 0, vR 190 a] U3
    have y9 : U3 190 a (-2) = T 190 a (-2) := oU3 a (-2) (by omega)
    refine j_acp (pc := 28) (by decide) (by omega) (by omega) (by omega) (lw_b5 143 (by decide +kernel) rfl : Cond.methodLink RJ7 150 arraycopyName ∈ lw_g) (lw_b5 145 (by decide +kernel) rfl : Cond.native arraycopyName ∈ lw_g) (lw_b5 144 (by decide +kernel) rfl : Cond.static arraycopyName ∈ lw_g) (lw_b1 20 (by decide +kernel) rfl : Cond.initialized "java/lang/System" ∈ lw_g) (by show decode cJ7_copyOf_59c91 (Int.toNat 28) = _; decide +kernel) (by show 1 ≤ 1; omega) (by show 8 + (nativeFrameWords "java/lang/System" "arraycopy" 5 + 11) ≤ 70; decide) (by decide) ?_
    refine j_nm (fun U7 hU7 => ?_)
    have fU7 := cp_fr hU7
    have lU7 := cp_l hU7
    have oU7 := cp_o hU7
    show J_ (zJ7_copyOf_59c91 sl) T (po_J7_copyOf_59c91 T sl a n) 0 0 31 [some (vR 190 a), some (vI n), some (vR 190 (T 191 0 0))] [] U7
    refine j_blx (F := fJ7) tb_J7 (by decide) bk_J7_copyOf_59c91_31 bs_J7_copyOf_59c91_31 hz (fun K hK => ?_)
    refine hK 32 [some (vR 190 a), some (vI n), some (vR 190 (T 191 0 0))] [vR 190 (T 191 0 0)] U7 ?_
    refine j_aret (pc := 32) rfl (Or.inr ⟨_, rfl⟩) (by show decode cJ7_copyOf_59c91 (Int.toNat 32) = _; decide +kernel) ?_
    refine (show po_J7_copyOf_59c91 T sl a n U7 (some (vR 190 (T 191 0 0))) from ?_)
    have e8 : U7 191 0 0 = U3 191 0 0 := fU7 191 0 0 rfl
    exact ⟨rfl, fr_t (fr_s fU3 rfl) (fr_s fU7 rfl), (fU7 191 0 0 rfl).trans aU3, (lU7 _).trans lU3, fun x j hx => (oU7 x j hx).trans (oU3 x j hx)⟩
  · exact absurd c2 (by omega)
/-- only what has the index p has changed, rows of any length aside -/
def oq_ (T T1 : Zt) (p : Int) : Prop := ∀ k i j, i ≠ p → k ≠ 190 → k ≠ 191 → T1 k i j = T k i j
theorem oq_r {T : Zt} {p : Int} : oq_ T T p := fun _ _ _ _ _ _ => rfl
theorem oq_u {T T1 T2 : Zt} {p j v : Int} {k : Nat} (h : oq_ T T1 p) (e : T2 = up_ T1 k p j v) : oq_ T T2 p := fun k' i j' hi a b => (up_g e (fun q => hi q.2.1)).trans (h k' i j' hi a b)
theorem oq_i {T T1 T2 : Zt} {p : Int} (h : oq_ T T1 p) (g : oi_ T1 T2 p) : oq_ T T2 p := fun k i j hi a b => (g k i j hi).trans (h k i j hi a b)
theorem oq_t {T T1 T2 : Zt} {p : Int} (h : oq_ T T1 p) (g : oq_ T1 T2 p) : oq_ T T2 p := fun k i j hi a b => (g k i j hi a b).trans (h k i j hi a b)
theorem oq_9 {T T1 T2 : Zt} {p : Int} (h : oq_ T T1 p) (g : fr_ [(190, []), (191, [0])] T1 T2) : oq_ T T2 p := fun k i j hi a b => (g k i j (by simp [fw_, a, b])).trans (h k i j hi a b)
theorem oq_1 {T T1 T2 : Zt} {p : Int} (h : oq_ T T1 p) (g : fr_ [(190, [])] T1 T2) : oq_ T T2 p := oq_9 h (fr_s g rfl)
/-- the lengths that a log has -/
def lz_ (x : Int) : Prop := x = 16 ∨ x = 32 ∨ x = 64 ∨ x = 128 ∨ x = 256 ∨ x = 512 ∨ x = 1024 ∨ x = 2048
theorem lz_b {x : Int} (h : lz_ x) : 16 ≤ x ∧ x ≤ 2048 := by unfold lz_ at h; omega
theorem lz_h {x : Int} (h : lz_ x) (g : x < 2048) : x ≤ 1024 := by unfold lz_ at h; omega
theorem lz_d {x : Int} (h : lz_ x) (g : x < 2048) : lz_ (2 * x) := by unfold lz_ at h ⊢; omega
theorem oq_w {T T1 T2 : Zt} {p i j v : Int} (h : oq_ T T1 p) (e : T2 = up_ T1 190 i j v) : oq_ T T2 p := fun k' i' j' hi a b => (up_g e (fun q => a q.1)).trans (h k' i' j' hi a b)
abbrev cX3_writeRow : ByteArray := prog_5_method_31_code
def yX3_writeRow : MethodName := ⟨RX3, "writeRow", "([IIIIII)V"⟩
def zX3_writeRow : Zm := (RX3, cX3_writeRow, 6, none, { frames := 0, cells := 0, slots := 0, locals := 0 })
theorem bk_X3_writeRow_0 : ck_ fX3 none cX3_writeRow 0 [.aload 0, .iload 1, .iconst 4, .imul, .iload 2, .iastore, .aload 0, .iload 1, .iconst 4, .imul, .iconst 1, .iadd, .iload 3, .iastore, .aload 0, .iload 1, .iconst 4, .imul, .iconst 2, .iadd, .iload 4, .iastore, .aload 0, .iload 1, .iconst 4, .imul, .iconst 3, .iadd, .iload 5, .iastore, .return_] 33 = true := qck_r (by decide) (by decide +kernel)
theorem bs_X3_writeRow_0 {P : Zt → Option Zv → Prop} (K : Int → Zl → List Zv → Zt → Prop) : sx_ K P [.aload 0, .iload 1, .iconst 4, .imul, .iload 2, .iastore, .aload 0, .iload 1, .iconst 4, .imul, .iconst 1, .iadd, .iload 3, .iastore, .aload 0, .iload 1, .iconst 4, .imul, .iconst 2, .iadd, .iload 4, .iastore, .aload 0, .iload 1, .iconst 4, .imul, .iconst 3, .iadd, .iload 5, .iastore, .return_] 33 = x_aload 0 (x_iload 1 (x_iconst 4 (x_imul (x_iload 2 (x_iastore (x_aload 0 (x_iload 1 (x_iconst 4 (x_imul (x_iconst 1 (x_iadd (x_iload 3 (x_iastore (x_aload 0 (x_iload 1 (x_iconst 4 (x_imul (x_iconst 2 (x_iadd (x_iload 4 (x_iastore (x_aload 0 (x_iload 1 (x_iconst 4 (x_imul (x_iconst 3 (x_iadd (x_iload 5 (x_iastore (x_return_ P)))))))))))))))))))))))))))))) := ((xe_aload 0).trans (congrArg (x_aload 0) ((xe_iload 1).trans (congrArg (x_iload 1) ((xe_iconst 4).trans (congrArg (x_iconst 4) ((xe_imul).trans (congrArg (x_imul) ((xe_iload 2).trans (congrArg (x_iload 2) ((xe_iastore).trans (congrArg (x_iastore) ((xe_aload 0).trans (congrArg (x_aload 0) ((xe_iload 1).trans (congrArg (x_iload 1) ((xe_iconst 4).trans (congrArg (x_iconst 4) ((xe_imul).trans (congrArg (x_imul) ((xe_iconst 1).trans (congrArg (x_iconst 1) ((xe_iadd).trans (congrArg (x_iadd) ((xe_iload 3).trans (congrArg (x_iload 3) ((xe_iastore).trans (congrArg (x_iastore) ((xe_aload 0).trans (congrArg (x_aload 0) ((xe_iload 1).trans (congrArg (x_iload 1) ((xe_iconst 4).trans (congrArg (x_iconst 4) ((xe_imul).trans (congrArg (x_imul) ((xe_iconst 2).trans (congrArg (x_iconst 2) ((xe_iadd).trans (congrArg (x_iadd) ((xe_iload 4).trans (congrArg (x_iload 4) ((xe_iastore).trans (congrArg (x_iastore) ((xe_aload 0).trans (congrArg (x_aload 0) ((xe_iload 1).trans (congrArg (x_iload 1) ((xe_iconst 4).trans (congrArg (x_iconst 4) ((xe_imul).trans (congrArg (x_imul) ((xe_iconst 3).trans (congrArg (x_iconst 3) ((xe_iadd).trans (congrArg (x_iadd) ((xe_iload 5).trans (congrArg (x_iload 5) ((xe_iastore).trans (congrArg (x_iastore) (xe_return_)))))))))))))))))))))))))))))))))))))))))))))))))))))))))))))
abbrev po_X3_writeRow (T : Zt) (a : Int) (i k s v w : Int) : Zt → Option Zv → Prop := fun T' r => r = none ∧ fr_ [(190, [])] T T' ∧ (∀ x, T' 190 x (-2) = T 190 x (-2)) ∧ ∀ x j, x ≠ a → T' 190 x j = T 190 x j
set_option maxHeartbeats 4000000 in
theorem ct_X3_writeRow {T : Zt} {a : Int} {i k s v w : Int} (h1 : 0 ≤ i ∧ i ≤ 1000 ∧ i * 4 + 3 < T 190 a (-2)) : Ct_ yX3_writeRow zX3_writeRow T [vR 190 a, vI i, vI k, vI s, vI v, vI w] (po_X3_writeRow T a i k s v w) := by
  refine ct_of (by decide) rfl rfl (Nat.le_of_ble_eq_true rfl) (fun hT hav => ?_)
  have hr_i : -2147483648 ≤ i ∧ i ≤ 2147483647 := hav (vI i) (by simp)
  have hr_k : -2147483648 ≤ k ∧ k ≤ 2147483647 := hav (vI k) (by simp)
  have hr_s : -2147483648 ≤ s ∧ s ≤ 2147483647 := hav (vI s) (by simp)
  have hr_v : -2147483648 ≤ v ∧ v ≤ 2147483647 := hav (vI v) (by simp)
  have hr_w : -2147483648 ≤ w ∧ w ≤ 2147483647 := hav (vI w) (by simp)
  have hz : zX3_writeRow.2.2.2.1 = some .boolean → ∀ (T' : Zt) (x : Int), po_X3_writeRow T a i k s v w T' (some (vI x)) → 0 ≤ x ∧ x ≤ 1 := fun h => by cases h
  show J_ zX3_writeRow T (po_X3_writeRow T a i k s v w) 0 0 0 [some (vR 190 a), some (vI i), some (vI k), some (vI s), some (vI v), some (vI w)] [] T
  refine j_blx (F := fX3) tb_X3 (by decide) bk_X3_writeRow_0 bs_X3_writeRow_0 hz (fun K hK => ?_)
  refine rg_i (by omega) ?_
  refine iy_i (by omega) (by omega) ?_
  refine x_nm (fun U1 hU1 => ?_)
  have e2 := up_f hU1
  refine rg_i (by omega) ?_
  refine rg_i (by omega) ?_
  have y3 : U1 190 a (-2) = T 190 a (-2) := up_g hU1 (fun z => by omega)
  refine iy_i (by omega) (by omega) ?_
  refine x_nm (fun U4 hU4 => ?_)
  have e5 := up_f hU4
  refine rg_i (by omega) ?_
  refine rg_i (by omega) ?_
  have y6 : U4 190 a (-2) = T 190 a (-2) := (up_g hU4 (fun z => by omega)).trans (up_g hU1 (fun z => by omega))
  refine iy_i (by omega) (by omega) ?_
  refine x_nm (fun U7 hU7 => ?_)
  have e8 := up_f hU7
  refine rg_i (by omega) ?_
  refine rg_i (by omega) ?_
  have y9 : U7 190 a (-2) = T 190 a (-2) := (up_g hU7 (fun z => by omega)).trans ((up_g hU4 (fun z => by omega)).trans (up_g hU1 (fun z => by omega)))
  refine iy_i (by omega) (by omega) ?_
  refine x_nm (fun U10 hU10 => ?_)
  have e11 := up_f hU10
  refine (show po_X3_writeRow T a i k s v w U10 (none) from ?_)
  exact ⟨rfl, fr_u (fr_u (fr_u (fr_u (fr_0 _ _) hU1 rfl) hU4 rfl) hU7 rfl) hU10 rfl, fun x => (up_g hU10 (fun z => by omega)).trans ((up_g hU7 (fun z => by omega)).trans ((up_g hU4 (fun z => by omega)).trans (up_g hU1 (fun z => by omega)))), fun x j hx => (up_g hU10 (fun z => hx z.2.1)).trans ((up_g hU7 (fun z => hx z.2.1)).trans ((up_g hU4 (fun z => hx z.2.1)).trans (up_g hU1 (fun z => hx z.2.1))))⟩
abbrev cX3_keepRow : ByteArray := prog_5_method_29_code
def yX3_keepRow : MethodName := ⟨RX3, "keepRow", "(IIII)V"⟩
def zX3_keepRow : Zm := (RX3, cX3_keepRow, 5, none, { frames := 2, cells := 1, slots := 2048, locals := 92 })
theorem bk_X3_keepRow_0 : ck_ fX3 none cX3_keepRow 0 [.aload 0, .tableswitch 0 3 15 #[], .iconst 4, .imul, .iconst 4, .iadd, .aload 0, .tableswitch 0 3 14 #[], .arraylength, .if_icmp .le 34, .aload 0, .aload 0, .tableswitch 0 3 14 #[], .aload 0, .tableswitch 0 3 14 #[], .arraylength, .iconst 2, .imul] 28 = true := qck_r (by decide) (by decide +kernel)
theorem bs_X3_keepRow_0 {P : Zt → Option Zv → Prop} (K : Int → Zl → List Zv → Zt → Prop) : sx_ K P [.aload 0, .tableswitch 0 3 15 #[], .iconst 4, .imul, .iconst 4, .iadd, .aload 0, .tableswitch 0 3 14 #[], .arraylength, .if_icmp .le 34, .aload 0, .aload 0, .tableswitch 0 3 14 #[], .aload 0, .tableswitch 0 3 14 #[], .arraylength, .iconst 2, .imul] 28 = x_aload 0 (x_g0 103 15 0 3000 (x_iconst 4 (x_imul (x_iconst 4 (x_iadd (x_aload 0 (x_g3 103 190 14 (x_arraylength (x_if_icmp .le 34 K (x_aload 0 (x_aload 0 (x_g3 103 190 14 (x_aload 0 (x_g3 103 190 14 (x_arraylength (x_iconst 2 (x_imul (K 28)))))))))))))))))) := ((xe_aload 0).trans (congrArg (x_aload 0) ((xe_g0 (kk := 103) rfl tl_3_15).trans (congrArg (x_g0 103 15 0 3000) ((xe_iconst 4).trans (congrArg (x_iconst 4) ((xe_imul).trans (congrArg (x_imul) ((xe_iconst 4).trans (congrArg (x_iconst 4) ((xe_iadd).trans (congrArg (x_iadd) ((xe_aload 0).trans (congrArg (x_aload 0) ((xe_g3 (kk := 103) rfl tl_3_14).trans (congrArg (x_g3 103 190 14) ((xe_arraylength).trans (congrArg (x_arraylength) ((xe_if_icmp .le 34).trans (congrArg (x_if_icmp .le 34 K) ((xe_aload 0).trans (congrArg (x_aload 0) ((xe_aload 0).trans (congrArg (x_aload 0) ((xe_g3 (kk := 103) rfl tl_3_14).trans (congrArg (x_g3 103 190 14) ((xe_aload 0).trans (congrArg (x_aload 0) ((xe_g3 (kk := 103) rfl tl_3_14).trans (congrArg (x_g3 103 190 14) ((xe_arraylength).trans (congrArg (x_arraylength) ((xe_iconst 2).trans (congrArg (x_iconst 2) ((xe_imul).trans (congrArg (x_imul) xe_nil))))))))))))))))))))))))))))))))))))
theorem bk_X3_keepRow_34 : ck_ fX3 none cX3_keepRow 34 [.aload 0, .tableswitch 0 3 14 #[], .aload 0, .tableswitch 0 3 15 #[], .iload 1, .iload 2, .iload 3, .iload 4] 47 = true := qck_r (by decide) (by decide +kernel)
theorem bs_X3_keepRow_34 {P : Zt → Option Zv → Prop} (K : Int → Zl → List Zv → Zt → Prop) : sx_ K P [.aload 0, .tableswitch 0 3 14 #[], .aload 0, .tableswitch 0 3 15 #[], .iload 1, .iload 2, .iload 3, .iload 4] 47 = x_aload 0 (x_g3 103 190 14 (x_aload 0 (x_g0 103 15 0 3000 (x_iload 1 (x_iload 2 (x_iload 3 (x_iload 4 (K 47)))))))) := ((xe_aload 0).trans (congrArg (x_aload 0) ((xe_g3 (kk := 103) rfl tl_3_14).trans (congrArg (x_g3 103 190 14) ((xe_aload 0).trans (congrArg (x_aload 0) ((xe_g0 (kk := 103) rfl tl_3_15).trans (congrArg (x_g0 103 15 0 3000) ((xe_iload 1).trans (congrArg (x_iload 1) ((xe_iload 2).trans (congrArg (x_iload 2) ((xe_iload 3).trans (congrArg (x_iload 3) ((xe_iload 4).trans (congrArg (x_iload 4) xe_nil))))))))))))))))
set_option maxRecDepth 100000 in
theorem cl_X3_161 : cs_ RX3 161 yX3_writeRow zX3_writeRow 6 := ⟨gi_S (lw_b5 146 (by decide +kernel) rfl : Cond.methodLink RX3 161 yX3_writeRow ∈ lw_g) (lw_b5 147 (by decide +kernel) rfl : Cond.static yX3_writeRow ∈ lw_g) (lw_b1 18 (by decide +kernel) rfl : Cond.initialized yX3_writeRow.cls ∈ lw_g) (lw_b5 148 rfl rfl : Cond.code yX3_writeRow cX3_writeRow 6 none ∈ lw_g), ⟨by decide, by decide, by decide +kernel⟩⟩
theorem bk_X3_keepRow_50 : ck_ fX3 none cX3_keepRow 50 [.aload 0, .dup, .tableswitch 0 3 15 #[], .iconst 1, .iadd, .tableswitch 1 3 15 #[], .return_] 61 = true := qck_r (by decide) (by decide +kernel)
theorem bs_X3_keepRow_50 {P : Zt → Option Zv → Prop} (K : Int → Zl → List Zv → Zt → Prop) : sx_ K P [.aload 0, .dup, .tableswitch 0 3 15 #[], .iconst 1, .iadd, .tableswitch 1 3 15 #[], .return_] 61 = x_aload 0 (x_dup (x_g0 103 15 0 3000 (x_iconst 1 (x_iadd (x_p 103 15 0 3000 (x_return_ P)))))) := ((xe_aload 0).trans (congrArg (x_aload 0) ((xe_dup).trans (congrArg (x_dup) ((xe_g0 (kk := 103) rfl tl_3_15).trans (congrArg (x_g0 103 15 0 3000) ((xe_iconst 1).trans (congrArg (x_iconst 1) ((xe_iadd).trans (congrArg (x_iadd) ((xe_p (kk := 103) rfl tl_3_15).trans (congrArg (x_p 103 15 0 3000) (xe_return_)))))))))))))
set_option maxRecDepth 100000 in
theorem cl_X3_157 (sl : Nat) : cs_ RX3 157 yJ7_copyOf_59c91 (zJ7_copyOf_59c91 sl) 2 := ⟨gi_S (lw_b5 137 (by decide +kernel) rfl : Cond.methodLink RX3 157 yJ7_copyOf_59c91 ∈ lw_g) (lw_b5 138 (by decide +kernel) rfl : Cond.static yJ7_copyOf_59c91 ∈ lw_g) (lw_b1 7 (by decide +kernel) rfl : Cond.initialized yJ7_copyOf_59c91.cls ∈ lw_g) (lw_b5 139 rfl rfl : Cond.code yJ7_copyOf_59c91 cJ7_copyOf_59c91 3 (some (.array .int)) ∈ lw_g), ⟨by decide, by decide, by decide +kernel⟩⟩
theorem fr5_X3_36 : fr5_ RX3 36 3 14 := ⟨_, _, _, rfl, by decide, by decide, (lw_b4 209 (by decide +kernel) rfl : Cond.fieldLink RX3 36 _ _ _ ∈ lw_g), rfl, fun a => ⟨.array .int, by decide +kernel, rfl, rfl⟩⟩
abbrev po_X3_keepRow (T : Zt) (p : Int) (k s v w : Int) : Zt → Option Zv → Prop := fun T' r => r = none ∧ fr_ [(103, [14, 15]), (190, []), (191, [0])] T T' ∧ (oq_ T T' p ∧ T' 103 p 15 = T 103 p 15 + 1 ∧ (∀ x, x < T 191 0 0 → T' 190 x (-2) = T 190 x (-2)) ∧ T 191 0 0 ≤ T' 191 0 0 ∧ T' 191 0 0 ≤ T 191 0 0 + 1 ∧ lz_ (T' 190 (T' 103 p 14) (-2)) ∧ T' 103 p 14 < T' 191 0 0 ∧ 4 * (T 103 p 15 + 1) ≤ T' 190 (T' 103 p 14) (-2) ∧ T' 190 (T' 103 p 14) (-2) ≤ 2 * T 190 (T 103 p 14) (-2))
set_option maxHeartbeats 4000000 in
theorem ct_X3_keepRow {T : Zt} {p : Int} {k s v w : Int} (h1 : 0 ≤ T 103 p 15 ∧ T 103 p 15 < 512 ∧ 4 * T 103 p 15 ≤ T 190 (T 103 p 14) (-2)) (h2 : T 103 p 14 < T 191 0 0 ∧ T 191 0 0 ≤ 2000000000 ∧ -2147483648 ≤ T 103 p 14) (hz9 : lz_ (T 190 (T 103 p 14) (-2))) : Ct_ yX3_keepRow zX3_keepRow T [vR 103 p, vI k, vI s, vI v, vI w] (po_X3_keepRow T p k s v w) := by
  refine ct_of (by decide) rfl rfl (Nat.le_of_ble_eq_true rfl) (fun hT hav => ?_)
  have hr_k : -2147483648 ≤ k ∧ k ≤ 2147483647 := hav (vI k) (by simp)
  have hr_s : -2147483648 ≤ s ∧ s ≤ 2147483647 := hav (vI s) (by simp)
  have hr_v : -2147483648 ≤ v ∧ v ≤ 2147483647 := hav (vI v) (by simp)
  have hr_w : -2147483648 ≤ w ∧ w ≤ 2147483647 := hav (vI w) (by simp)
  have hz : zX3_keepRow.2.2.2.1 = some .boolean → ∀ (T' : Zt) (x : Int), po_X3_keepRow T p k s v w T' (some (vI x)) → 0 ≤ x ∧ x ≤ 1 := fun h => by cases h
  have hb9 := lz_b hz9
  show J_ zX3_keepRow T (po_X3_keepRow T p k s v w) 1 2048 0 [some (vR 103 p), some (vI k), some (vI s), some (vI v), some (vI w)] [] T
  refine j_blx (F := fX3) tb_X3 (by decide) bk_X3_keepRow_0 bs_X3_keepRow_0 hz (fun K hK => ?_)
  intro b1 b1b
  refine rg_i (by omega) ?_
  refine rg_i (by omega) ?_
  intro b3 b3b
  refine And.intro (fun c4 => ?_) (fun c4 => ?_)
  · refine hK 34 [some (vR 103 p), some (vI k), some (vI s), some (vI v), some (vI w)] [] T ?_
    refine j_blx (F := fX3) tb_X3 (by decide) bk_X3_keepRow_34 bs_X3_keepRow_34 hz (fun K hK => ?_)
    intro b6 b6b
    refine hK 47 [some (vR 103 p), some (vI k), some (vI s), some (vI v), some (vI w)] [vI w, vI v, vI s, vI k, vI (T 103 p 15), vR 190 (T 103 p 14)] T ?_
    refine j_callS (y := yX3_writeRow) (Yc := zX3_writeRow) (rest := []) [vR 190 (T 103 p 14), vI (T 103 p 15), vI k, vI s, vI v, vI w] (ct_X3_writeRow (T := T) (by omega)) cl_X3_161 (qd_c (by decide +kernel)) (by decide) rfl (by decide +kernel) (Nat.le_of_ble_eq_true rfl) (by decide) (by decide) rfl ?_
    rintro U7 _ ⟨rfl, fU7, lU7, oU7⟩
    show J_ zX3_keepRow T (po_X3_keepRow T p k s v w) 1 2048 50 [some (vR 103 p), some (vI k), some (vI s), some (vI v), some (vI w)] [] U7
    refine j_blx (F := fX3) tb_X3 (by decide) bk_X3_keepRow_50 bs_X3_keepRow_50 hz (fun K hK => ?_)
    intro b8 b8b
    have e9 : U7 103 p 15 = T 103 p 15 := fU7 103 p 15 rfl
    rw [e9] at b8 b8b ⊢
    refine rg_i (by omega) ?_
    refine bd_i (by omega) ?_
    refine x_nm (fun U10 hU10 => ?_)
    have e11 := up_f hU10
    refine (show po_X3_keepRow T p k s v w U10 (none) from ?_)
    have e12 : U10 103 p 15 = (T 103 p 15) + 1 := up_f hU10
    have e13 : U10 103 p 14 = T 103 p 14 := (up_j hU10 (by decide) 103 p).trans (fU7 103 p 14 rfl)
    have e14 : U10 191 0 0 = T 191 0 0 := (up_k hU10 (by decide) 0 0).trans (fU7 191 0 0 rfl)
    have e15 : U10 103 p 14 = T 103 p 14 := (up_j hU10 (by decide) 103 p).trans (fU7 103 p 14 rfl)
    have e16 : U10 103 p 15 = (T 103 p 15) + 1 := up_f hU10
    have d1 : U10 103 p 14 = T 103 p 14 := by omega
    have d2 : U10 190 (U10 103 p 14) (-2) = T 190 (T 103 p 14) (-2) := by rw [d1]; exact (up_k hU10 (by decide) _ (-2)).trans (lU7 _)
    have e17 : U10 191 0 0 = T 191 0 0 := (up_k hU10 (by decide) 0 0).trans (fU7 191 0 0 rfl)
    have d6 : lz_ (U10 190 (U10 103 p 14) (-2)) := by rw [d2]; exact hz9
    exact ⟨rfl, fr_u (fr_t (fr_0 _ _) (fr_s fU7 rfl)) hU10 rfl, oq_u (oq_1 (oq_r) fU7) hU10, by omega, fun x hx => (up_k hU10 (by decide) _ (-2)).trans (lU7 _), by omega, by omega, d6, by omega, by omega, by omega⟩
  · have hg9 : T 190 (T 103 p 14) (-2) ≤ 1024 := lz_h hz9 (by omega)
    intro b20 b20b
    refine rg_i (by omega) ?_
    refine hK 28 [some (vR 103 p), some (vI k), some (vI s), some (vI v), some (vI w)] [vI ((T 190 (T 103 p 14) (-2)) * 2), vR 190 (T 103 p 14), vR 103 p] T ?_
    refine j_callS (pc := 28) (y := yJ7_copyOf_59c91) (Yc := (zJ7_copyOf_59c91 1024)) (rest := [vR 103 p]) [vR 190 (T 103 p 14), vI ((T 190 (T 103 p 14) (-2)) * 2)] (ct_J7_copyOf_59c91 (T := T) (sl := 1024) (by omega) (by omega) (by omega)) (cl_X3_157 _) (qd_c (by decide +kernel)) (by decide) rfl rfl (Nat.le_of_ble_eq_true rfl) (by first | decide | (simp only [zJ7_copyOf_59c91]; omega)) (by first | decide | (simp only [zJ7_copyOf_59c91]; omega)) rfl ?_
    rintro U21 _ ⟨rfl, fU21, aU21, lU21, oU21⟩
    show J_ zX3_keepRow T (po_X3_keepRow T p k s v w) 0 0 31 [some (vR 103 p), some (vI k), some (vI s), some (vI v), some (vI w)] [vR 190 (T 191 0 0), vR 103 p] U21
    refine j_putV (pc := 31) (ci := 3) (j := 14) (z := T 191 0 0) (by decide) fr5_X3_36 (by decide +kernel : (tf_ 103)[14]? = some (3, 190, (-2147483648), 2147483647)) (by decide +kernel) rfl (by omega) (by omega) ?_
    refine j_nm (fun U22 hU22 => ?_)
    have e23 := up_f hU22
    show J_ zX3_keepRow T (po_X3_keepRow T p k s v w) 0 0 34 [some (vR 103 p), some (vI k), some (vI s), some (vI v), some (vI w)] [] U22
    refine j_blx (F := fX3) tb_X3 (by decide) bk_X3_keepRow_34 bs_X3_keepRow_34 hz (fun K hK => ?_)
    have e25 : U22 103 p 14 = T 191 0 0 := up_f hU22
    intro b26 b26b
    have e27 : U22 103 p 15 = T 103 p 15 := (up_j hU22 (by decide) 103 p).trans (fU21 103 p 15 rfl)
    rw [e27] at b26 b26b ⊢
    refine hK 47 [some (vR 103 p), some (vI k), some (vI s), some (vI v), some (vI w)] [vI w, vI v, vI s, vI k, vI (T 103 p 15), vR 190 (U22 103 p 14)] U22 ?_
    have y28 : U22 190 (U22 103 p 14) (-2) = (T 190 (T 103 p 14) (-2)) * 2 := by rw [e25]; exact (up_k hU22 (by decide) _ (-2)).trans lU21
    refine j_callS (y := yX3_writeRow) (Yc := zX3_writeRow) (rest := []) [vR 190 (U22 103 p 14), vI (T 103 p 15), vI k, vI s, vI v, vI w] (ct_X3_writeRow (T := U22) (by omega)) cl_X3_161 (qd_c (by decide +kernel)) (by decide) rfl (by decide +kernel) (Nat.le_of_ble_eq_true rfl) (by decide) (by decide) rfl ?_
    rintro U29 _ ⟨rfl, fU29, lU29, oU29⟩
    show J_ zX3_keepRow T (po_X3_keepRow T p k s v w) 0 0 50 [some (vR 103 p), some (vI k), some (vI s), some (vI v), some (vI w)] [] U29
    refine j_blx (F := fX3) tb_X3 (by decide) bk_X3_keepRow_50 bs_X3_keepRow_50 hz (fun K hK => ?_)
    intro b30 b30b
    have e31 : U29 103 p 15 = T 103 p 15 := (fU29 103 p 15 rfl).trans ((up_j hU22 (by decide) 103 p).trans (fU21 103 p 15 rfl))
    rw [e31] at b30 b30b ⊢
    refine rg_i (by omega) ?_
    refine bd_i (by omega) ?_
    refine x_nm (fun U32 hU32 => ?_)
    have e33 := up_f hU32
    refine (show po_X3_keepRow T p k s v w U32 (none) from ?_)
    have e34 : U32 103 p 15 = (T 103 p 15) + 1 := up_f hU32
    have e35 : U32 103 p 14 = T 191 0 0 := (up_j hU32 (by decide) 103 p).trans ((fU29 103 p 14 rfl).trans (up_f hU22))
    have e36 : U32 191 0 0 = U21 191 0 0 := (up_k hU32 (by decide) 0 0).trans ((fU29 191 0 0 rfl).trans (up_k hU22 (by decide) 0 0))
    have e37 : U32 103 p 14 = T 191 0 0 := (up_j hU32 (by decide) 103 p).trans ((fU29 103 p 14 rfl).trans (up_f hU22))
    have e38 : U32 103 p 15 = (T 103 p 15) + 1 := up_f hU32
    have d1 : U32 103 p 14 = T 191 0 0 := by omega
    have d2 : U32 190 (U32 103 p 14) (-2) = (T 190 (T 103 p 14) (-2)) * 2 := by rw [d1]; exact ((up_k hU32 (by decide) _ (-2)).trans ((lU29 _).trans (up_k hU22 (by decide) _ (-2)))).trans lU21
    have e39 : U32 191 0 0 = U21 191 0 0 := (up_k hU32 (by decide) 0 0).trans ((fU29 191 0 0 rfl).trans (up_k hU22 (by decide) 0 0))
    have d5 : T 190 (T 103 p 14) (-2) < 2048 := by omega
    have d6 : lz_ (U32 190 (U32 103 p 14) (-2)) := by rw [d2, show (T 190 (T 103 p 14) (-2)) * 2 = 2 * (T 190 (T 103 p 14) (-2)) by omega]; exact lz_d hz9 d5
    exact ⟨rfl, fr_u (fr_t (fr_u (fr_t (fr_0 _ _) (fr_s fU21 rfl)) hU22 rfl) (fr_s fU29 rfl)) hU32 rfl, oq_u (oq_1 (oq_u (oq_9 (oq_r) fU21) hU22) fU29) hU32, by omega, fun x hx => ((up_k hU32 (by decide) _ (-2)).trans ((lU29 _).trans (up_k hU22 (by decide) _ (-2)))).trans (oU21 x (-2) (by omega)), by omega, by omega, d6, by omega, by omega, by omega⟩
def zX3_keepRow0 : Zm := (RX3, cX3_keepRow, 5, none, { frames := 2, cells := 0, slots := 0, locals := 92 })
abbrev po_X3_keepRow0 (T : Zt) (p : Int) (k s v w : Int) : Zt → Option Zv → Prop := fun T' r => r = none ∧ fr_ [(103, [15]), (190, [])] T T' ∧ (oq_ T T' p ∧ T' 103 p 15 = T 103 p 15 + 1 ∧ (∀ x, x < T 191 0 0 → T' 190 x (-2) = T 190 x (-2)) ∧ True)
set_option maxHeartbeats 4000000 in
theorem ct_X3_keepRow0 {T : Zt} {p : Int} {k s v w : Int} (h1 : 0 ≤ T 103 p 15 ∧ T 103 p 15 < 512 ∧ 4 * T 103 p 15 ≤ T 190 (T 103 p 14) (-2)) (h2 : T 103 p 14 < T 191 0 0 ∧ T 191 0 0 ≤ 2000000000 ∧ -2147483648 ≤ T 103 p 14) (h3 : 4 * T 103 p 15 + 4 ≤ T 190 (T 103 p 14) (-2)) : Ct_ yX3_keepRow zX3_keepRow0 T [vR 103 p, vI k, vI s, vI v, vI w] (po_X3_keepRow0 T p k s v w) := by
  refine ct_of (by decide) rfl rfl (Nat.le_of_ble_eq_true rfl) (fun hT hav => ?_)
  have hr_k : -2147483648 ≤ k ∧ k ≤ 2147483647 := hav (vI k) (by simp)
  have hr_s : -2147483648 ≤ s ∧ s ≤ 2147483647 := hav (vI s) (by simp)
  have hr_v : -2147483648 ≤ v ∧ v ≤ 2147483647 := hav (vI v) (by simp)
  have hr_w : -2147483648 ≤ w ∧ w ≤ 2147483647 := hav (vI w) (by simp)
  have hz : zX3_keepRow0.2.2.2.1 = some .boolean → ∀ (T' : Zt) (x : Int), po_X3_keepRow0 T p k s v w T' (some (vI x)) → 0 ≤ x ∧ x ≤ 1 := fun h => by cases h
  show J_ zX3_keepRow0 T (po_X3_keepRow0 T p k s v w) 0 0 0 [some (vR 103 p), some (vI k), some (vI s), some (vI v), some (vI w)] [] T
  refine j_blx (F := fX3) tb_X3 (by decide) bk_X3_keepRow_0 bs_X3_keepRow_0 hz (fun K hK => ?_)
  intro b1 b1b
  refine rg_i (by omega) ?_
  refine rg_i (by omega) ?_
  intro b3 b3b
  refine And.intro (fun c4 => ?_) (fun c4 => ?_)
  · refine hK 34 [some (vR 103 p), some (vI k), some (vI s), some (vI v), some (vI w)] [] T ?_
    refine j_blx (F := fX3) tb_X3 (by decide) bk_X3_keepRow_34 bs_X3_keepRow_34 hz (fun K hK => ?_)
    intro b6 b6b
    refine hK 47 [some (vR 103 p), some (vI k), some (vI s), some (vI v), some (vI w)] [vI w, vI v, vI s, vI k, vI (T 103 p 15), vR 190 (T 103 p 14)] T ?_
    refine j_callS (y := yX3_writeRow) (Yc := zX3_writeRow) (rest := []) [vR 190 (T 103 p 14), vI (T 103 p 15), vI k, vI s, vI v, vI w] (ct_X3_writeRow (T := T) (by omega)) cl_X3_161 (qd_c (by decide +kernel)) (by decide) rfl (by decide +kernel) (Nat.le_of_ble_eq_true rfl) (by decide) (by decide) rfl ?_
    rintro U7 _ ⟨rfl, fU7, lU7, oU7⟩
    show J_ zX3_keepRow0 T (po_X3_keepRow0 T p k s v w) 0 0 50 [some (vR 103 p), some (vI k), some (vI s), some (vI v), some (vI w)] [] U7
    refine j_blx (F := fX3) tb_X3 (by decide) bk_X3_keepRow_50 bs_X3_keepRow_50 hz (fun K hK => ?_)
    intro b8 b8b
    have e9 : U7 103 p 15 = T 103 p 15 := fU7 103 p 15 rfl
    rw [e9] at b8 b8b ⊢
    refine rg_i (by omega) ?_
    refine bd_i (by omega) ?_
    refine x_nm (fun U10 hU10 => ?_)
    have e11 := up_f hU10
    refine (show po_X3_keepRow0 T p k s v w U10 (none) from ?_)
    have e12 : U10 103 p 15 = (T 103 p 15) + 1 := up_f hU10
    have e13 : U10 103 p 14 = T 103 p 14 := (up_j hU10 (by decide) 103 p).trans (fU7 103 p 14 rfl)
    have e14 : U10 103 p 15 = (T 103 p 15) + 1 := up_f hU10
    exact ⟨rfl, fr_u (fr_t (fr_0 _ _) (fr_s fU7 rfl)) hU10 rfl, oq_u (oq_1 (oq_r) fU7) hU10, by omega, fun x hx => (up_k hU10 (by decide) _ (-2)).trans (lU7 _), trivial⟩
  · exact absurd c4 (by omega)
abbrev cX3_putAside : ByteArray := prog_5_method_30_code
def yX3_putAside : MethodName := ⟨RX3, "putAside", "(IIII)V"⟩
def zX3_putAside0 : Zm := (RX3, cX3_putAside, 5, none, { frames := 2, cells := 0, slots := 0, locals := 92 })
theorem bk_X3_putAside_0 : ck_ fX3 none cX3_putAside 0 [.aload 0, .tableswitch 0 3 17 #[], .iconst 4, .imul, .iconst 4, .iadd, .aload 0, .tableswitch 0 3 16 #[], .arraylength, .if_icmp .le 34, .aload 0, .aload 0, .tableswitch 0 3 16 #[], .aload 0, .tableswitch 0 3 16 #[], .arraylength, .iconst 2, .imul] 28 = true := qck_r (by decide) (by decide +kernel)
theorem bs_X3_putAside_0 {P : Zt → Option Zv → Prop} (K : Int → Zl → List Zv → Zt → Prop) : sx_ K P [.aload 0, .tableswitch 0 3 17 #[], .iconst 4, .imul, .iconst 4, .iadd, .aload 0, .tableswitch 0 3 16 #[], .arraylength, .if_icmp .le 34, .aload 0, .aload 0, .tableswitch 0 3 16 #[], .aload 0, .tableswitch 0 3 16 #[], .arraylength, .iconst 2, .imul] 28 = x_aload 0 (x_g0 103 17 0 3000 (x_iconst 4 (x_imul (x_iconst 4 (x_iadd (x_aload 0 (x_g3 103 190 16 (x_arraylength (x_if_icmp .le 34 K (x_aload 0 (x_aload 0 (x_g3 103 190 16 (x_aload 0 (x_g3 103 190 16 (x_arraylength (x_iconst 2 (x_imul (K 28)))))))))))))))))) := ((xe_aload 0).trans (congrArg (x_aload 0) ((xe_g0 (kk := 103) rfl tl_3_17).trans (congrArg (x_g0 103 17 0 3000) ((xe_iconst 4).trans (congrArg (x_iconst 4) ((xe_imul).trans (congrArg (x_imul) ((xe_iconst 4).trans (congrArg (x_iconst 4) ((xe_iadd).trans (congrArg (x_iadd) ((xe_aload 0).trans (congrArg (x_aload 0) ((xe_g3 (kk := 103) rfl tl_3_16).trans (congrArg (x_g3 103 190 16) ((xe_arraylength).trans (congrArg (x_arraylength) ((xe_if_icmp .le 34).trans (congrArg (x_if_icmp .le 34 K) ((xe_aload 0).trans (congrArg (x_aload 0) ((xe_aload 0).trans (congrArg (x_aload 0) ((xe_g3 (kk := 103) rfl tl_3_16).trans (congrArg (x_g3 103 190 16) ((xe_aload 0).trans (congrArg (x_aload 0) ((xe_g3 (kk := 103) rfl tl_3_16).trans (congrArg (x_g3 103 190 16) ((xe_arraylength).trans (congrArg (x_arraylength) ((xe_iconst 2).trans (congrArg (x_iconst 2) ((xe_imul).trans (congrArg (x_imul) xe_nil))))))))))))))))))))))))))))))))))))
theorem bk_X3_putAside_34 : ck_ fX3 none cX3_putAside 34 [.aload 0, .tableswitch 0 3 16 #[], .aload 0, .tableswitch 0 3 17 #[], .iload 1, .iload 2, .iload 3, .iload 4] 47 = true := qck_r (by decide) (by decide +kernel)
theorem bs_X3_putAside_34 {P : Zt → Option Zv → Prop} (K : Int → Zl → List Zv → Zt → Prop) : sx_ K P [.aload 0, .tableswitch 0 3 16 #[], .aload 0, .tableswitch 0 3 17 #[], .iload 1, .iload 2, .iload 3, .iload 4] 47 = x_aload 0 (x_g3 103 190 16 (x_aload 0 (x_g0 103 17 0 3000 (x_iload 1 (x_iload 2 (x_iload 3 (x_iload 4 (K 47)))))))) := ((xe_aload 0).trans (congrArg (x_aload 0) ((xe_g3 (kk := 103) rfl tl_3_16).trans (congrArg (x_g3 103 190 16) ((xe_aload 0).trans (congrArg (x_aload 0) ((xe_g0 (kk := 103) rfl tl_3_17).trans (congrArg (x_g0 103 17 0 3000) ((xe_iload 1).trans (congrArg (x_iload 1) ((xe_iload 2).trans (congrArg (x_iload 2) ((xe_iload 3).trans (congrArg (x_iload 3) ((xe_iload 4).trans (congrArg (x_iload 4) xe_nil))))))))))))))))
theorem bk_X3_putAside_50 : ck_ fX3 none cX3_putAside 50 [.aload 0, .dup, .tableswitch 0 3 17 #[], .iconst 1, .iadd, .tableswitch 1 3 17 #[], .return_] 61 = true := qck_r (by decide) (by decide +kernel)
theorem bs_X3_putAside_50 {P : Zt → Option Zv → Prop} (K : Int → Zl → List Zv → Zt → Prop) : sx_ K P [.aload 0, .dup, .tableswitch 0 3 17 #[], .iconst 1, .iadd, .tableswitch 1 3 17 #[], .return_] 61 = x_aload 0 (x_dup (x_g0 103 17 0 3000 (x_iconst 1 (x_iadd (x_p 103 17 0 3000 (x_return_ P)))))) := ((xe_aload 0).trans (congrArg (x_aload 0) ((xe_dup).trans (congrArg (x_dup) ((xe_g0 (kk := 103) rfl tl_3_17).trans (congrArg (x_g0 103 17 0 3000) ((xe_iconst 1).trans (congrArg (x_iconst 1) ((xe_iadd).trans (congrArg (x_iadd) ((xe_p (kk := 103) rfl tl_3_17).trans (congrArg (x_p 103 17 0 3000) (xe_return_)))))))))))))
abbrev po_X3_putAside0 (T : Zt) (p : Int) (k s v w : Int) : Zt → Option Zv → Prop := fun T' r => r = none ∧ fr_ [(103, [17]), (190, [])] T T' ∧ (oq_ T T' p ∧ T' 103 p 17 = T 103 p 17 + 1 ∧ (∀ x, x < T 191 0 0 → T' 190 x (-2) = T 190 x (-2)) ∧ True)
set_option maxHeartbeats 4000000 in
theorem ct_X3_putAside0 {T : Zt} {p : Int} {k s v w : Int} (h1 : 0 ≤ T 103 p 17 ∧ T 103 p 17 < 512 ∧ 4 * T 103 p 17 ≤ T 190 (T 103 p 16) (-2)) (h2 : T 103 p 16 < T 191 0 0 ∧ T 191 0 0 ≤ 2000000000 ∧ -2147483648 ≤ T 103 p 16) (h3 : 4 * T 103 p 17 + 4 ≤ T 190 (T 103 p 16) (-2)) : Ct_ yX3_putAside zX3_putAside0 T [vR 103 p, vI k, vI s, vI v, vI w] (po_X3_putAside0 T p k s v w) := by
  refine ct_of (by decide) rfl rfl (Nat.le_of_ble_eq_true rfl) (fun hT hav => ?_)
  have hr_k : -2147483648 ≤ k ∧ k ≤ 2147483647 := hav (vI k) (by simp)
  have hr_s : -2147483648 ≤ s ∧ s ≤ 2147483647 := hav (vI s) (by simp)
  have hr_v : -2147483648 ≤ v ∧ v ≤ 2147483647 := hav (vI v) (by simp)
  have hr_w : -2147483648 ≤ w ∧ w ≤ 2147483647 := hav (vI w) (by simp)
  have hz : zX3_putAside0.2.2.2.1 = some .boolean → ∀ (T' : Zt) (x : Int), po_X3_putAside0 T p k s v w T' (some (vI x)) → 0 ≤ x ∧ x ≤ 1 := fun h => by cases h
  show J_ zX3_putAside0 T (po_X3_putAside0 T p k s v w) 0 0 0 [some (vR 103 p), some (vI k), some (vI s), some (vI v), some (vI w)] [] T
  refine j_blx (F := fX3) tb_X3 (by decide) bk_X3_putAside_0 bs_X3_putAside_0 hz (fun K hK => ?_)
  intro b1 b1b
  refine rg_i (by omega) ?_
  refine rg_i (by omega) ?_
  intro b3 b3b
  refine And.intro (fun c4 => ?_) (fun c4 => ?_)
  · refine hK 34 [some (vR 103 p), some (vI k), some (vI s), some (vI v), some (vI w)] [] T ?_
    refine j_blx (F := fX3) tb_X3 (by decide) bk_X3_putAside_34 bs_X3_putAside_34 hz (fun K hK => ?_)
    intro b6 b6b
    refine hK 47 [some (vR 103 p), some (vI k), some (vI s), some (vI v), some (vI w)] [vI w, vI v, vI s, vI k, vI (T 103 p 17), vR 190 (T 103 p 16)] T ?_
    refine j_callS (y := yX3_writeRow) (Yc := zX3_writeRow) (rest := []) [vR 190 (T 103 p 16), vI (T 103 p 17), vI k, vI s, vI v, vI w] (ct_X3_writeRow (T := T) (by omega)) cl_X3_161 (qd_c (by decide +kernel)) (by decide) rfl (by decide +kernel) (Nat.le_of_ble_eq_true rfl) (by decide) (by decide) rfl ?_
    rintro U7 _ ⟨rfl, fU7, lU7, oU7⟩
    show J_ zX3_putAside0 T (po_X3_putAside0 T p k s v w) 0 0 50 [some (vR 103 p), some (vI k), some (vI s), some (vI v), some (vI w)] [] U7
    refine j_blx (F := fX3) tb_X3 (by decide) bk_X3_putAside_50 bs_X3_putAside_50 hz (fun K hK => ?_)
    intro b8 b8b
    have e9 : U7 103 p 17 = T 103 p 17 := fU7 103 p 17 rfl
    rw [e9] at b8 b8b ⊢
    refine rg_i (by omega) ?_
    refine bd_i (by omega) ?_
    refine x_nm (fun U10 hU10 => ?_)
    have e11 := up_f hU10
    refine (show po_X3_putAside0 T p k s v w U10 (none) from ?_)
    have e12 : U10 103 p 17 = (T 103 p 17) + 1 := up_f hU10
    have e13 : U10 103 p 16 = T 103 p 16 := (up_j hU10 (by decide) 103 p).trans (fU7 103 p 16 rfl)
    have e14 : U10 103 p 17 = (T 103 p 17) + 1 := up_f hU10
    exact ⟨rfl, fr_u (fr_t (fr_0 _ _) (fr_s fU7 rfl)) hU10 rfl, oq_u (oq_1 (oq_r) fU7) hU10, by omega, fun x hx => (up_k hU10 (by decide) _ (-2)).trans (lU7 _), trivial⟩
  · exact absurd c4 (by omega)
def zX3_putAsideD (sl : Nat) : Zm := (RX3, cX3_putAside, 5, none, { frames := 2, cells := 1, slots := 2 * sl, locals := 92 })
theorem fr5_X3_39 : fr5_ RX3 39 3 16 := ⟨_, _, _, rfl, by decide, by decide, (lw_b4 213 (by decide +kernel) rfl : Cond.fieldLink RX3 39 _ _ _ ∈ lw_g), rfl, fun a => ⟨.array .int, by decide +kernel, rfl, rfl⟩⟩
abbrev po_X3_putAsideD (T : Zt) (p : Int) (sl : Nat) (k s v w : Int) : Zt → Option Zv → Prop := fun T' r => r = none ∧ fr_ [(103, [16, 17]), (190, []), (191, [0])] T T' ∧ (oq_ T T' p ∧ T' 103 p 17 = T 103 p 17 + 1 ∧ (∀ x, x < T 191 0 0 → T' 190 x (-2) = T 190 x (-2)) ∧ T 191 0 0 ≤ T' 191 0 0 ∧ T' 191 0 0 ≤ T 191 0 0 + 1 ∧ lz_ (T' 190 (T' 103 p 16) (-2)) ∧ T' 103 p 16 < T' 191 0 0 ∧ 4 * (T 103 p 17 + 1) ≤ T' 190 (T' 103 p 16) (-2) ∧ T' 190 (T' 103 p 16) (-2) ≤ 2 * T 190 (T 103 p 16) (-2))
set_option maxHeartbeats 4000000 in
theorem ct_X3_putAsideD {T : Zt} {p : Int} {sl : Nat} {k s v w : Int} (h1 : 0 ≤ T 103 p 17 ∧ T 103 p 17 < 512 ∧ 4 * T 103 p 17 ≤ T 190 (T 103 p 16) (-2)) (h2 : T 103 p 16 < T 191 0 0 ∧ T 191 0 0 ≤ 2000000000 ∧ -2147483648 ≤ T 103 p 16) (hz9 : lz_ (T 190 (T 103 p 16) (-2))) (hsl : T 190 (T 103 p 16) (-2) ≤ (sl : Int)) : Ct_ yX3_putAside (zX3_putAsideD sl) T [vR 103 p, vI k, vI s, vI v, vI w] (po_X3_putAsideD T p sl k s v w) := by
  refine ct_of (by decide) rfl rfl (Nat.le_of_ble_eq_true rfl) (fun hT hav => ?_) (hi := fun h => absurd ((im_ev _).symm.trans h) (by decide))
  have hr_k : -2147483648 ≤ k ∧ k ≤ 2147483647 := hav (vI k) (by simp)
  have hr_s : -2147483648 ≤ s ∧ s ≤ 2147483647 := hav (vI s) (by simp)
  have hr_v : -2147483648 ≤ v ∧ v ≤ 2147483647 := hav (vI v) (by simp)
  have hr_w : -2147483648 ≤ w ∧ w ≤ 2147483647 := hav (vI w) (by simp)
  have hz : (zX3_putAsideD sl).2.2.2.1 = some .boolean → ∀ (T' : Zt) (x : Int), po_X3_putAsideD T p sl k s v w T' (some (vI x)) → 0 ≤ x ∧ x ≤ 1 := fun h => by cases h
  have hb9 := lz_b hz9
  show J_ (zX3_putAsideD sl) T (po_X3_putAsideD T p sl k s v w) 1 (2 * sl) 0 [some (vR 103 p), some (vI k), some (vI s), some (vI v), some (vI w)] [] T
  refine j_blx (F := fX3) tb_X3 (by decide) bk_X3_putAside_0 bs_X3_putAside_0 hz (fun K hK => ?_)
  intro b1 b1b
  refine rg_i (by omega) ?_
  refine rg_i (by omega) ?_
  intro b3 b3b
  refine And.intro (fun c4 => ?_) (fun c4 => ?_)
  · refine hK 34 [some (vR 103 p), some (vI k), some (vI s), some (vI v), some (vI w)] [] T ?_
    refine j_blx (F := fX3) tb_X3 (by decide) bk_X3_putAside_34 bs_X3_putAside_34 hz (fun K hK => ?_)
    intro b6 b6b
    refine hK 47 [some (vR 103 p), some (vI k), some (vI s), some (vI v), some (vI w)] [vI w, vI v, vI s, vI k, vI (T 103 p 17), vR 190 (T 103 p 16)] T ?_
    refine j_callS (pc := 47) (y := yX3_writeRow) (Yc := zX3_writeRow) (rest := []) [vR 190 (T 103 p 16), vI (T 103 p 17), vI k, vI s, vI v, vI w] (ct_X3_writeRow (T := T) (by omega)) cl_X3_161 (by show decode cX3_putAside (Int.toNat 47) = _; decide +kernel) (by decide) rfl rfl (Nat.le_of_ble_eq_true rfl) (by first | decide | (simp only [zX3_writeRow]; omega)) (by first | decide | (simp only [zX3_writeRow]; omega)) rfl ?_
    rintro U7 _ ⟨rfl, fU7, lU7, oU7⟩
    show J_ (zX3_putAsideD sl) T (po_X3_putAsideD T p sl k s v w) 1 (2 * sl) 50 [some (vR 103 p), some (vI k), some (vI s), some (vI v), some (vI w)] [] U7
    refine j_blx (F := fX3) tb_X3 (by decide) bk_X3_putAside_50 bs_X3_putAside_50 hz (fun K hK => ?_)
    intro b8 b8b
    have e9 : U7 103 p 17 = T 103 p 17 := fU7 103 p 17 rfl
    rw [e9] at b8 b8b ⊢
    refine rg_i (by omega) ?_
    refine bd_i (by omega) ?_
    refine x_nm (fun U10 hU10 => ?_)
    have e11 := up_f hU10
    refine (show po_X3_putAsideD T p sl k s v w U10 (none) from ?_)
    have e12 : U10 103 p 17 = (T 103 p 17) + 1 := up_f hU10
    have e13 : U10 103 p 16 = T 103 p 16 := (up_j hU10 (by decide) 103 p).trans (fU7 103 p 16 rfl)
    have e14 : U10 191 0 0 = T 191 0 0 := (up_k hU10 (by decide) 0 0).trans (fU7 191 0 0 rfl)
    have e15 : U10 103 p 16 = T 103 p 16 := (up_j hU10 (by decide) 103 p).trans (fU7 103 p 16 rfl)
    have e16 : U10 103 p 17 = (T 103 p 17) + 1 := up_f hU10
    have d1 : U10 103 p 16 = T 103 p 16 := by omega
    have d2 : U10 190 (U10 103 p 16) (-2) = T 190 (T 103 p 16) (-2) := by rw [d1]; exact (up_k hU10 (by decide) _ (-2)).trans (lU7 _)
    have e17 : U10 191 0 0 = T 191 0 0 := (up_k hU10 (by decide) 0 0).trans (fU7 191 0 0 rfl)
    have d6 : lz_ (U10 190 (U10 103 p 16) (-2)) := by rw [d2]; exact hz9
    exact ⟨rfl, fr_u (fr_t (fr_0 _ _) (fr_s fU7 rfl)) hU10 rfl, oq_u (oq_1 (oq_r) fU7) hU10, by omega, fun x hx => (up_k hU10 (by decide) _ (-2)).trans (lU7 _), by omega, by omega, d6, by omega, by omega, by omega⟩
  · have hg9 : T 190 (T 103 p 16) (-2) ≤ 1024 := lz_h hz9 (by omega)
    intro b20 b20b
    refine rg_i (by omega) ?_
    refine hK 28 [some (vR 103 p), some (vI k), some (vI s), some (vI v), some (vI w)] [vI ((T 190 (T 103 p 16) (-2)) * 2), vR 190 (T 103 p 16), vR 103 p] T ?_
    refine j_callS (pc := 28) (y := yJ7_copyOf_59c91) (Yc := (zJ7_copyOf_59c91 sl)) (rest := [vR 103 p]) [vR 190 (T 103 p 16), vI ((T 190 (T 103 p 16) (-2)) * 2)] (ct_J7_copyOf_59c91 (T := T) (sl := sl) (by omega) (by omega) (by omega)) (cl_X3_157 _) (by show decode cX3_putAside (Int.toNat 28) = _; decide +kernel) (by decide) rfl rfl (Nat.le_of_ble_eq_true rfl) (by first | decide | (simp only [zJ7_copyOf_59c91]; omega)) (by first | decide | (simp only [zJ7_copyOf_59c91]; omega)) rfl ?_
    rintro U21 _ ⟨rfl, fU21, aU21, lU21, oU21⟩
    show J_ (zX3_putAsideD sl) T (po_X3_putAsideD T p sl k s v w) 0 ((2 * sl) - (2 * sl)) 31 [some (vR 103 p), some (vI k), some (vI s), some (vI v), some (vI w)] [vR 190 (T 191 0 0), vR 103 p] U21
    refine j_putV (pc := 31) (ci := 3) (j := 16) (z := T 191 0 0) (by decide) fr5_X3_39 (by decide +kernel : (tf_ 103)[16]? = some (3, 190, (-2147483648), 2147483647)) (by show decode cX3_putAside (Int.toNat 31) = _; decide +kernel) rfl (by omega) (by omega) ?_
    refine j_nm (fun U22 hU22 => ?_)
    have e23 := up_f hU22
    show J_ (zX3_putAsideD sl) T (po_X3_putAsideD T p sl k s v w) 0 ((2 * sl) - (2 * sl)) 34 [some (vR 103 p), some (vI k), some (vI s), some (vI v), some (vI w)] [] U22
    refine j_blx (F := fX3) tb_X3 (by decide) bk_X3_putAside_34 bs_X3_putAside_34 hz (fun K hK => ?_)
    have e25 : U22 103 p 16 = T 191 0 0 := up_f hU22
    intro b26 b26b
    have e27 : U22 103 p 17 = T 103 p 17 := (up_j hU22 (by decide) 103 p).trans (fU21 103 p 17 rfl)
    rw [e27] at b26 b26b ⊢
    refine hK 47 [some (vR 103 p), some (vI k), some (vI s), some (vI v), some (vI w)] [vI w, vI v, vI s, vI k, vI (T 103 p 17), vR 190 (U22 103 p 16)] U22 ?_
    have y28 : U22 190 (U22 103 p 16) (-2) = (T 190 (T 103 p 16) (-2)) * 2 := by rw [e25]; exact (up_k hU22 (by decide) _ (-2)).trans lU21
    refine j_callS (pc := 47) (y := yX3_writeRow) (Yc := zX3_writeRow) (rest := []) [vR 190 (U22 103 p 16), vI (T 103 p 17), vI k, vI s, vI v, vI w] (ct_X3_writeRow (T := U22) (by omega)) cl_X3_161 (by show decode cX3_putAside (Int.toNat 47) = _; decide +kernel) (by decide) rfl rfl (Nat.le_of_ble_eq_true rfl) (by first | decide | (simp only [zX3_writeRow]; omega)) (by first | decide | (simp only [zX3_writeRow]; omega)) rfl ?_
    rintro U29 _ ⟨rfl, fU29, lU29, oU29⟩
    show J_ (zX3_putAsideD sl) T (po_X3_putAsideD T p sl k s v w) 0 ((2 * sl) - (2 * sl)) 50 [some (vR 103 p), some (vI k), some (vI s), some (vI v), some (vI w)] [] U29
    refine j_blx (F := fX3) tb_X3 (by decide) bk_X3_putAside_50 bs_X3_putAside_50 hz (fun K hK => ?_)
    intro b30 b30b
    have e31 : U29 103 p 17 = T 103 p 17 := (fU29 103 p 17 rfl).trans ((up_j hU22 (by decide) 103 p).trans (fU21 103 p 17 rfl))
    rw [e31] at b30 b30b ⊢
    refine rg_i (by omega) ?_
    refine bd_i (by omega) ?_
    refine x_nm (fun U32 hU32 => ?_)
    have e33 := up_f hU32
    refine (show po_X3_putAsideD T p sl k s v w U32 (none) from ?_)
    have e34 : U32 103 p 17 = (T 103 p 17) + 1 := up_f hU32
    have e35 : U32 103 p 16 = T 191 0 0 := (up_j hU32 (by decide) 103 p).trans ((fU29 103 p 16 rfl).trans (up_f hU22))
    have e36 : U32 191 0 0 = U21 191 0 0 := (up_k hU32 (by decide) 0 0).trans ((fU29 191 0 0 rfl).trans (up_k hU22 (by decide) 0 0))
    have e37 : U32 103 p 16 = T 191 0 0 := (up_j hU32 (by decide) 103 p).trans ((fU29 103 p 16 rfl).trans (up_f hU22))
    have e38 : U32 103 p 17 = (T 103 p 17) + 1 := up_f hU32
    have d1 : U32 103 p 16 = T 191 0 0 := by omega
    have d2 : U32 190 (U32 103 p 16) (-2) = (T 190 (T 103 p 16) (-2)) * 2 := by rw [d1]; exact ((up_k hU32 (by decide) _ (-2)).trans ((lU29 _).trans (up_k hU22 (by decide) _ (-2)))).trans lU21
    have e39 : U32 191 0 0 = U21 191 0 0 := (up_k hU32 (by decide) 0 0).trans ((fU29 191 0 0 rfl).trans (up_k hU22 (by decide) 0 0))
    have d5 : T 190 (T 103 p 16) (-2) < 2048 := by omega
    have d6 : lz_ (U32 190 (U32 103 p 16) (-2)) := by rw [d2, show (T 190 (T 103 p 16) (-2)) * 2 = 2 * (T 190 (T 103 p 16) (-2)) by omega]; exact lz_d hz9 d5
    exact ⟨rfl, fr_u (fr_t (fr_u (fr_t (fr_0 _ _) (fr_s fU21 rfl)) hU22 rfl) (fr_s fU29 rfl)) hU32 rfl, oq_u (oq_1 (oq_u (oq_9 (oq_r) fU21) hU22) fU29) hU32, by omega, fun x hx => ((up_k hU32 (by decide) _ (-2)).trans ((lU29 _).trans (up_k hU22 (by decide) _ (-2)))).trans (oU21 x (-2) (by omega)), by omega, by omega, d6, by omega, by omega, by omega⟩

