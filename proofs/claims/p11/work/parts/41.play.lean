def fJ7 : Zf := ([], [], [], [])
set_option maxRecDepth 100000 in
set_option maxHeartbeats 4000000 in
theorem tg_J7 : ∀ q ∈ fJ7.1, fl_ RJ7 q.1 q.2.1 q.2.2 := fun _ h => absurd h List.not_mem_nil
set_option maxRecDepth 100000 in
set_option maxHeartbeats 4000000 in
theorem tp_J7 : ∀ q ∈ fJ7.2.1, fp_ RJ7 q.1 q.2.1 q.2.2 := fun _ h => absurd h List.not_mem_nil
theorem tb_J7 : tb_ RJ7 fJ7 := ⟨tg_J7, tp_J7, fun _ h => absurd h List.not_mem_nil, fun _ h => absurd h List.not_mem_nil⟩
theorem an_1b (x : Int) : 0 ≤ an_ x 1 ∧ an_ x 1 ≤ 1 := by
  have h : ((Int32.ofInt x).toBitVec &&& (Int32.ofInt 1).toBitVec).toNat ≤ 1 := by
    rw [BitVec.toNat_and]; exact Nat.and_le_right
  show 0 ≤ ((Int32.ofInt x).toBitVec &&& (Int32.ofInt 1).toBitVec).toInt ∧ ((Int32.ofInt x).toBitVec &&& (Int32.ofInt 1).toBitVec).toInt ≤ 1
  rw [BitVec.toInt_eq_toNat_cond]
  split <;> omega
/-- only what has the index p has changed -/
def oi_ (T T1 : Zt) (p : Int) : Prop := ∀ k i j, i ≠ p → T1 k i j = T k i j
theorem oi_r {T : Zt} {p : Int} : oi_ T T p := fun _ _ _ _ => rfl
theorem oi_u {T T1 T2 : Zt} {p j v : Int} {k : Nat} (h : oi_ T T1 p) (e : T2 = up_ T1 k p j v) : oi_ T T2 p := fun k' i j' hi => (up_g e (fun q => hi q.2.1)).trans (h k' i j' hi)
theorem oi_t {T T1 T2 : Zt} {p : Int} (h : oi_ T T1 p) (g : oi_ T1 T2 p) : oi_ T T2 p := fun k i j hi => (g k i j hi).trans (h k i j hi)
abbrev cJ7_fill_53178 : ByteArray := prog_21_method_103_code
def yJ7_fill_53178 : MethodName := ⟨RJ7, "fill", "([II)V"⟩
def zJ7_fill_53178 : Zm := (RJ7, cJ7_fill_53178, 4, none, { frames := 0, cells := 0, slots := 0, locals := 0 })
theorem bk_J7_fill_53178_5 : ck_ fJ7 none cJ7_fill_53178 5 [.iload 2, .iload 3, .if_icmp .ge 20, .aload 0, .iload 2, .iload 1, .iastore, .iinc 2 1, .goto 5] 20 = true := qck_r (nn_ _) (by decide +kernel)
theorem bs_J7_fill_53178_5 {P : Zt → Option Zv → Prop} (K : Int → Zl → List Zv → Zt → Prop) : sx_ K P [.iload 2, .iload 3, .if_icmp .ge 20, .aload 0, .iload 2, .iload 1, .iastore, .iinc 2 1, .goto 5] 20 = x_iload 2 (x_iload 3 (x_if_icmp .ge 20 K (x_aload 0 (x_iload 2 (x_iload 1 (x_iastore (x_iinc 2 1 (x_goto 5 K)))))))) := ((xe_iload 2).trans (congrArg (x_iload 2) ((xe_iload 3).trans (congrArg (x_iload 3) ((xe_if_icmp .ge 20).trans (congrArg (x_if_icmp .ge 20 K) ((xe_aload 0).trans (congrArg (x_aload 0) ((xe_iload 2).trans (congrArg (x_iload 2) ((xe_iload 1).trans (congrArg (x_iload 1) ((xe_iastore).trans (congrArg (x_iastore) ((xe_iinc 2 1).trans (congrArg (x_iinc 2 1) (xe_goto 5)))))))))))))))))
theorem bk_J7_fill_53178_20 : ck_ fJ7 none cJ7_fill_53178 20 [.return_] 21 = true := qck_r (nn_ _) (by decide +kernel)
theorem bs_J7_fill_53178_20 {P : Zt → Option Zv → Prop} (K : Int → Zl → List Zv → Zt → Prop) : sx_ K P [.return_] 21 = x_return_ P := (xe_return_)
theorem bk_J7_fill_53178_0 : ck_ fJ7 none cJ7_fill_53178 0 [.iconst 0, .istore 2, .aload 0, .arraylength, .istore 3] 5 = true := qck_r (nn_ _) (by decide +kernel)
theorem bs_J7_fill_53178_0 {P : Zt → Option Zv → Prop} (K : Int → Zl → List Zv → Zt → Prop) : sx_ K P [.iconst 0, .istore 2, .aload 0, .arraylength, .istore 3] 5 = x_iconst 0 (x_istore 2 (x_aload 0 (x_arraylength (x_istore 3 (K 5))))) := ((xe_iconst 0).trans (congrArg (x_iconst 0) ((xe_istore 2).trans (congrArg (x_istore 2) ((xe_aload 0).trans (congrArg (x_aload 0) ((xe_arraylength).trans (congrArg (x_arraylength) ((xe_istore 3).trans (congrArg (x_istore 3) xe_nil))))))))))
abbrev po_J7_fill_466 (T : Zt) (p : Int) (v : Int) : Zt → Option Zv → Prop := fun T' r => r = none ∧ fr_ [(466, [])] T T' ∧ oi_ T T' p ∧ ∀ j, 0 ≤ j → j < 2 → T' 466 p j = v
set_option maxHeartbeats 4000000 in
theorem ct_J7_fill_466 {T : Zt} {p : Int} {v : Int} (h1 : (-2147483648) ≤ v ∧ v ≤ 2147483647) : Ct_ yJ7_fill_53178 zJ7_fill_53178 T [vR 466 p, vI v] (po_J7_fill_466 T p v) := by
  refine ct_of (by decide) rfl rfl (Nat.le_of_ble_eq_true rfl) (fun hT hav => ?_)
  have hr_v : -2147483648 ≤ v ∧ v ≤ 2147483647 := hav (vI v) (by simp)
  have hz : zJ7_fill_53178.2.2.2.1 = some .boolean → ∀ (T' : Zt) (x : Int), po_J7_fill_466 T p v T' (some (vI x)) → 0 ≤ x ∧ x ≤ 1 := fun h => by cases h
  show J_ zJ7_fill_53178 T (po_J7_fill_466 T p v) 0 0 0 [some (vR 466 p), some (vI v), none, none] [] T
  have c_5 : ∀ (nn : Nat) (j : Int) (T1 : Zt), ((2 - j).toNat) ≤ nn → (fr_ [(466, [])] T T1) → (0 ≤ j ∧ j ≤ 2) → (oi_ T T1 p) → (∀ q, 0 ≤ q → q < j → T1 466 p q = v) → J_ zJ7_fill_53178 T (po_J7_fill_466 T p v) 0 0 5 [some (vR 466 p), some (vI v), some (vI j), some (vI 2)] [] T1 := by
    intro nn
    induction nn using Nat.strongRecOn with
    | _ nn ih_5 =>
      intro j T1 hm_5 hf_5 i1 o1 f1
      refine j_blx (F := fJ7) tb_J7 (nn_ _) bk_J7_fill_53178_5 bs_J7_fill_53178_5 hz (fun K hK => ?_)
      refine And.intro (fun c1 => ?_) (fun c1 => ?_)
      · refine hK 20 _ [] T1 ?_
        refine j_blx (F := fJ7) tb_J7 (nn_ _) bk_J7_fill_53178_20 bs_J7_fill_53178_20 hz (fun K hK => ?_)
        refine (show po_J7_fill_466 T p v T1 (none) from ?_)
        exact ⟨rfl, fr_t (fr_0 _ _) (fr_s hf_5 rfl), o1, fun q a b => f1 q a (by omega)⟩
      · refine iy_i (by omega) (by omega) ?_
        refine x_nm (fun U2 hU2 => ?_)
        have e3 := up_f hU2
        refine rg_i (by omega) ?_
        refine hK 5 [some (vR 466 p), some (vI v), some (vI (j + 1)), some (vI 2)] [] U2 ?_
        refine ih_5 _ ?_ (j + 1) U2 (Nat.le_refl _) ?_ ?_ ?_ ?_
        · omega
        · exact fr_u (fr_t (fr_0 _ _) (fr_s hf_5 rfl)) hU2 rfl
        · omega
        · exact oi_u o1 hU2
        · intro q a b
          by_cases z : q = j
          · rw [z]; exact up_f hU2
          · rw [up_g hU2 (fun y => z y.2.2)]; exact f1 q a (by omega)
  refine j_blx (F := fJ7) tb_J7 (nn_ _) bk_J7_fill_53178_0 bs_J7_fill_53178_0 hz (fun K hK => ?_)
  refine hK 5 [some (vR 466 p), some (vI v), some (vI 0), some (vI 2)] [] T ?_
  refine c_5 _ 0 T (Nat.le_refl _) ?_ ?_ ?_ ?_
  · exact fr_0 _ _
  · omega
  · exact oi_r
  · intro q a b; omega
abbrev po_J7_fill_467 (T : Zt) (p : Int) (v : Int) : Zt → Option Zv → Prop := fun T' r => r = none ∧ fr_ [(467, [])] T T' ∧ oi_ T T' p ∧ ∀ j, 0 ≤ j → j < 2 → T' 467 p j = v
set_option maxHeartbeats 4000000 in
theorem ct_J7_fill_467 {T : Zt} {p : Int} {v : Int} (h1 : (-2147483648) ≤ v ∧ v ≤ 2147483647) : Ct_ yJ7_fill_53178 zJ7_fill_53178 T [vR 467 p, vI v] (po_J7_fill_467 T p v) := by
  refine ct_of (by decide) rfl rfl (Nat.le_of_ble_eq_true rfl) (fun hT hav => ?_)
  have hr_v : -2147483648 ≤ v ∧ v ≤ 2147483647 := hav (vI v) (by simp)
  have hz : zJ7_fill_53178.2.2.2.1 = some .boolean → ∀ (T' : Zt) (x : Int), po_J7_fill_467 T p v T' (some (vI x)) → 0 ≤ x ∧ x ≤ 1 := fun h => by cases h
  show J_ zJ7_fill_53178 T (po_J7_fill_467 T p v) 0 0 0 [some (vR 467 p), some (vI v), none, none] [] T
  have c_5 : ∀ (nn : Nat) (j : Int) (T1 : Zt), ((2 - j).toNat) ≤ nn → (fr_ [(467, [])] T T1) → (0 ≤ j ∧ j ≤ 2) → (oi_ T T1 p) → (∀ q, 0 ≤ q → q < j → T1 467 p q = v) → J_ zJ7_fill_53178 T (po_J7_fill_467 T p v) 0 0 5 [some (vR 467 p), some (vI v), some (vI j), some (vI 2)] [] T1 := by
    intro nn
    induction nn using Nat.strongRecOn with
    | _ nn ih_5 =>
      intro j T1 hm_5 hf_5 i1 o1 f1
      refine j_blx (F := fJ7) tb_J7 (nn_ _) bk_J7_fill_53178_5 bs_J7_fill_53178_5 hz (fun K hK => ?_)
      refine And.intro (fun c1 => ?_) (fun c1 => ?_)
      · refine hK 20 _ [] T1 ?_
        refine j_blx (F := fJ7) tb_J7 (nn_ _) bk_J7_fill_53178_20 bs_J7_fill_53178_20 hz (fun K hK => ?_)
        refine (show po_J7_fill_467 T p v T1 (none) from ?_)
        exact ⟨rfl, fr_t (fr_0 _ _) (fr_s hf_5 rfl), o1, fun q a b => f1 q a (by omega)⟩
      · refine iy_i (by omega) (by omega) ?_
        refine x_nm (fun U2 hU2 => ?_)
        have e3 := up_f hU2
        refine rg_i (by omega) ?_
        refine hK 5 [some (vR 467 p), some (vI v), some (vI (j + 1)), some (vI 2)] [] U2 ?_
        refine ih_5 _ ?_ (j + 1) U2 (Nat.le_refl _) ?_ ?_ ?_ ?_
        · omega
        · exact fr_u (fr_t (fr_0 _ _) (fr_s hf_5 rfl)) hU2 rfl
        · omega
        · exact oi_u o1 hU2
        · intro q a b
          by_cases z : q = j
          · rw [z]; exact up_f hU2
          · rw [up_g hU2 (fun y => z y.2.2)]; exact f1 q a (by omega)
  refine j_blx (F := fJ7) tb_J7 (nn_ _) bk_J7_fill_53178_0 bs_J7_fill_53178_0 hz (fun K hK => ?_)
  refine hK 5 [some (vR 467 p), some (vI v), some (vI 0), some (vI 2)] [] T ?_
  refine c_5 _ 0 T (Nat.le_refl _) ?_ ?_ ?_ ?_
  · exact fr_0 _ _
  · omega
  · exact oi_r
  · intro q a b; omega
abbrev po_J7_fill_468 (T : Zt) (p : Int) (v : Int) : Zt → Option Zv → Prop := fun T' r => r = none ∧ fr_ [(468, [])] T T' ∧ oi_ T T' p ∧ ∀ j, 0 ≤ j → j < 2 → T' 468 p j = v
set_option maxHeartbeats 4000000 in
theorem ct_J7_fill_468 {T : Zt} {p : Int} {v : Int} (h1 : (-2147483648) ≤ v ∧ v ≤ 2147483647) : Ct_ yJ7_fill_53178 zJ7_fill_53178 T [vR 468 p, vI v] (po_J7_fill_468 T p v) := by
  refine ct_of (by decide) rfl rfl (Nat.le_of_ble_eq_true rfl) (fun hT hav => ?_)
  have hr_v : -2147483648 ≤ v ∧ v ≤ 2147483647 := hav (vI v) (by simp)
  have hz : zJ7_fill_53178.2.2.2.1 = some .boolean → ∀ (T' : Zt) (x : Int), po_J7_fill_468 T p v T' (some (vI x)) → 0 ≤ x ∧ x ≤ 1 := fun h => by cases h
  show J_ zJ7_fill_53178 T (po_J7_fill_468 T p v) 0 0 0 [some (vR 468 p), some (vI v), none, none] [] T
  have c_5 : ∀ (nn : Nat) (j : Int) (T1 : Zt), ((2 - j).toNat) ≤ nn → (fr_ [(468, [])] T T1) → (0 ≤ j ∧ j ≤ 2) → (oi_ T T1 p) → (∀ q, 0 ≤ q → q < j → T1 468 p q = v) → J_ zJ7_fill_53178 T (po_J7_fill_468 T p v) 0 0 5 [some (vR 468 p), some (vI v), some (vI j), some (vI 2)] [] T1 := by
    intro nn
    induction nn using Nat.strongRecOn with
    | _ nn ih_5 =>
      intro j T1 hm_5 hf_5 i1 o1 f1
      refine j_blx (F := fJ7) tb_J7 (nn_ _) bk_J7_fill_53178_5 bs_J7_fill_53178_5 hz (fun K hK => ?_)
      refine And.intro (fun c1 => ?_) (fun c1 => ?_)
      · refine hK 20 _ [] T1 ?_
        refine j_blx (F := fJ7) tb_J7 (nn_ _) bk_J7_fill_53178_20 bs_J7_fill_53178_20 hz (fun K hK => ?_)
        refine (show po_J7_fill_468 T p v T1 (none) from ?_)
        exact ⟨rfl, fr_t (fr_0 _ _) (fr_s hf_5 rfl), o1, fun q a b => f1 q a (by omega)⟩
      · refine iy_i (by omega) (by omega) ?_
        refine x_nm (fun U2 hU2 => ?_)
        have e3 := up_f hU2
        refine rg_i (by omega) ?_
        refine hK 5 [some (vR 468 p), some (vI v), some (vI (j + 1)), some (vI 2)] [] U2 ?_
        refine ih_5 _ ?_ (j + 1) U2 (Nat.le_refl _) ?_ ?_ ?_ ?_
        · omega
        · exact fr_u (fr_t (fr_0 _ _) (fr_s hf_5 rfl)) hU2 rfl
        · omega
        · exact oi_u o1 hU2
        · intro q a b
          by_cases z : q = j
          · rw [z]; exact up_f hU2
          · rw [up_g hU2 (fun y => z y.2.2)]; exact f1 q a (by omega)
  refine j_blx (F := fJ7) tb_J7 (nn_ _) bk_J7_fill_53178_0 bs_J7_fill_53178_0 hz (fun K hK => ?_)
  refine hK 5 [some (vR 468 p), some (vI v), some (vI 0), some (vI 2)] [] T ?_
  refine c_5 _ 0 T (Nat.le_refl _) ?_ ?_ ?_ ?_
  · exact fr_0 _ _
  · omega
  · exact oi_r
  · intro q a b; omega
abbrev po_J7_fill_469 (T : Zt) (p : Int) (v : Int) : Zt → Option Zv → Prop := fun T' r => r = none ∧ fr_ [(469, [])] T T' ∧ oi_ T T' p ∧ ∀ j, 0 ≤ j → j < 2 → T' 469 p j = v
set_option maxHeartbeats 4000000 in
theorem ct_J7_fill_469 {T : Zt} {p : Int} {v : Int} (h1 : (-2147483648) ≤ v ∧ v ≤ 2147483647) : Ct_ yJ7_fill_53178 zJ7_fill_53178 T [vR 469 p, vI v] (po_J7_fill_469 T p v) := by
  refine ct_of (by decide) rfl rfl (Nat.le_of_ble_eq_true rfl) (fun hT hav => ?_)
  have hr_v : -2147483648 ≤ v ∧ v ≤ 2147483647 := hav (vI v) (by simp)
  have hz : zJ7_fill_53178.2.2.2.1 = some .boolean → ∀ (T' : Zt) (x : Int), po_J7_fill_469 T p v T' (some (vI x)) → 0 ≤ x ∧ x ≤ 1 := fun h => by cases h
  show J_ zJ7_fill_53178 T (po_J7_fill_469 T p v) 0 0 0 [some (vR 469 p), some (vI v), none, none] [] T
  have c_5 : ∀ (nn : Nat) (j : Int) (T1 : Zt), ((2 - j).toNat) ≤ nn → (fr_ [(469, [])] T T1) → (0 ≤ j ∧ j ≤ 2) → (oi_ T T1 p) → (∀ q, 0 ≤ q → q < j → T1 469 p q = v) → J_ zJ7_fill_53178 T (po_J7_fill_469 T p v) 0 0 5 [some (vR 469 p), some (vI v), some (vI j), some (vI 2)] [] T1 := by
    intro nn
    induction nn using Nat.strongRecOn with
    | _ nn ih_5 =>
      intro j T1 hm_5 hf_5 i1 o1 f1
      refine j_blx (F := fJ7) tb_J7 (nn_ _) bk_J7_fill_53178_5 bs_J7_fill_53178_5 hz (fun K hK => ?_)
      refine And.intro (fun c1 => ?_) (fun c1 => ?_)
      · refine hK 20 _ [] T1 ?_
        refine j_blx (F := fJ7) tb_J7 (nn_ _) bk_J7_fill_53178_20 bs_J7_fill_53178_20 hz (fun K hK => ?_)
        refine (show po_J7_fill_469 T p v T1 (none) from ?_)
        exact ⟨rfl, fr_t (fr_0 _ _) (fr_s hf_5 rfl), o1, fun q a b => f1 q a (by omega)⟩
      · refine iy_i (by omega) (by omega) ?_
        refine x_nm (fun U2 hU2 => ?_)
        have e3 := up_f hU2
        refine rg_i (by omega) ?_
        refine hK 5 [some (vR 469 p), some (vI v), some (vI (j + 1)), some (vI 2)] [] U2 ?_
        refine ih_5 _ ?_ (j + 1) U2 (Nat.le_refl _) ?_ ?_ ?_ ?_
        · omega
        · exact fr_u (fr_t (fr_0 _ _) (fr_s hf_5 rfl)) hU2 rfl
        · omega
        · exact oi_u o1 hU2
        · intro q a b
          by_cases z : q = j
          · rw [z]; exact up_f hU2
          · rw [up_g hU2 (fun y => z y.2.2)]; exact f1 q a (by omega)
  refine j_blx (F := fJ7) tb_J7 (nn_ _) bk_J7_fill_53178_0 bs_J7_fill_53178_0 hz (fun K hK => ?_)
  refine hK 5 [some (vR 469 p), some (vI v), some (vI 0), some (vI 2)] [] T ?_
  refine c_5 _ 0 T (Nat.le_refl _) ?_ ?_ ?_ ?_
  · exact fr_0 _ _
  · omega
  · exact oi_r
  · intro q a b; omega
abbrev po_J7_fill_472 (T : Zt) (p : Int) (v : Int) : Zt → Option Zv → Prop := fun T' r => r = none ∧ fr_ [(472, [])] T T' ∧ oi_ T T' p ∧ ∀ j, 0 ≤ j → j < 20 → T' 472 p j = v
set_option maxHeartbeats 4000000 in
theorem ct_J7_fill_472 {T : Zt} {p : Int} {v : Int} (h1 : 0 ≤ v ∧ v ≤ 3) : Ct_ yJ7_fill_53178 zJ7_fill_53178 T [vR 472 p, vI v] (po_J7_fill_472 T p v) := by
  refine ct_of (by decide) rfl rfl (Nat.le_of_ble_eq_true rfl) (fun hT hav => ?_)
  have hr_v : -2147483648 ≤ v ∧ v ≤ 2147483647 := hav (vI v) (by simp)
  have hz : zJ7_fill_53178.2.2.2.1 = some .boolean → ∀ (T' : Zt) (x : Int), po_J7_fill_472 T p v T' (some (vI x)) → 0 ≤ x ∧ x ≤ 1 := fun h => by cases h
  show J_ zJ7_fill_53178 T (po_J7_fill_472 T p v) 0 0 0 [some (vR 472 p), some (vI v), none, none] [] T
  have c_5 : ∀ (nn : Nat) (j : Int) (T1 : Zt), ((20 - j).toNat) ≤ nn → (fr_ [(472, [])] T T1) → (0 ≤ j ∧ j ≤ 20) → (oi_ T T1 p) → (∀ q, 0 ≤ q → q < j → T1 472 p q = v) → J_ zJ7_fill_53178 T (po_J7_fill_472 T p v) 0 0 5 [some (vR 472 p), some (vI v), some (vI j), some (vI 20)] [] T1 := by
    intro nn
    induction nn using Nat.strongRecOn with
    | _ nn ih_5 =>
      intro j T1 hm_5 hf_5 i1 o1 f1
      refine j_blx (F := fJ7) tb_J7 (nn_ _) bk_J7_fill_53178_5 bs_J7_fill_53178_5 hz (fun K hK => ?_)
      refine And.intro (fun c1 => ?_) (fun c1 => ?_)
      · refine hK 20 _ [] T1 ?_
        refine j_blx (F := fJ7) tb_J7 (nn_ _) bk_J7_fill_53178_20 bs_J7_fill_53178_20 hz (fun K hK => ?_)
        refine (show po_J7_fill_472 T p v T1 (none) from ?_)
        exact ⟨rfl, fr_t (fr_0 _ _) (fr_s hf_5 rfl), o1, fun q a b => f1 q a (by omega)⟩
      · refine iy_i (by omega) (by omega) ?_
        refine x_nm (fun U2 hU2 => ?_)
        have e3 := up_f hU2
        refine rg_i (by omega) ?_
        refine hK 5 [some (vR 472 p), some (vI v), some (vI (j + 1)), some (vI 20)] [] U2 ?_
        refine ih_5 _ ?_ (j + 1) U2 (Nat.le_refl _) ?_ ?_ ?_ ?_
        · omega
        · exact fr_u (fr_t (fr_0 _ _) (fr_s hf_5 rfl)) hU2 rfl
        · omega
        · exact oi_u o1 hU2
        · intro q a b
          by_cases z : q = j
          · rw [z]; exact up_f hU2
          · rw [up_g hU2 (fun y => z y.2.2)]; exact f1 q a (by omega)
  refine j_blx (F := fJ7) tb_J7 (nn_ _) bk_J7_fill_53178_0 bs_J7_fill_53178_0 hz (fun K hK => ?_)
  refine hK 5 [some (vR 472 p), some (vI v), some (vI 0), some (vI 20)] [] T ?_
  refine c_5 _ 0 T (Nat.le_refl _) ?_ ?_ ?_ ?_
  · exact fr_0 _ _
  · omega
  · exact oi_r
  · intro q a b; omega
abbrev po_J7_fill_473 (T : Zt) (p : Int) (v : Int) : Zt → Option Zv → Prop := fun T' r => r = none ∧ fr_ [(473, [])] T T' ∧ oi_ T T' p ∧ ∀ j, 0 ≤ j → j < 20 → T' 473 p j = v
set_option maxHeartbeats 4000000 in
theorem ct_J7_fill_473 {T : Zt} {p : Int} {v : Int} (h1 : (-2147483648) ≤ v ∧ v ≤ 2147483647) : Ct_ yJ7_fill_53178 zJ7_fill_53178 T [vR 473 p, vI v] (po_J7_fill_473 T p v) := by
  refine ct_of (by decide) rfl rfl (Nat.le_of_ble_eq_true rfl) (fun hT hav => ?_)
  have hr_v : -2147483648 ≤ v ∧ v ≤ 2147483647 := hav (vI v) (by simp)
  have hz : zJ7_fill_53178.2.2.2.1 = some .boolean → ∀ (T' : Zt) (x : Int), po_J7_fill_473 T p v T' (some (vI x)) → 0 ≤ x ∧ x ≤ 1 := fun h => by cases h
  show J_ zJ7_fill_53178 T (po_J7_fill_473 T p v) 0 0 0 [some (vR 473 p), some (vI v), none, none] [] T
  have c_5 : ∀ (nn : Nat) (j : Int) (T1 : Zt), ((20 - j).toNat) ≤ nn → (fr_ [(473, [])] T T1) → (0 ≤ j ∧ j ≤ 20) → (oi_ T T1 p) → (∀ q, 0 ≤ q → q < j → T1 473 p q = v) → J_ zJ7_fill_53178 T (po_J7_fill_473 T p v) 0 0 5 [some (vR 473 p), some (vI v), some (vI j), some (vI 20)] [] T1 := by
    intro nn
    induction nn using Nat.strongRecOn with
    | _ nn ih_5 =>
      intro j T1 hm_5 hf_5 i1 o1 f1
      refine j_blx (F := fJ7) tb_J7 (nn_ _) bk_J7_fill_53178_5 bs_J7_fill_53178_5 hz (fun K hK => ?_)
      refine And.intro (fun c1 => ?_) (fun c1 => ?_)
      · refine hK 20 _ [] T1 ?_
        refine j_blx (F := fJ7) tb_J7 (nn_ _) bk_J7_fill_53178_20 bs_J7_fill_53178_20 hz (fun K hK => ?_)
        refine (show po_J7_fill_473 T p v T1 (none) from ?_)
        exact ⟨rfl, fr_t (fr_0 _ _) (fr_s hf_5 rfl), o1, fun q a b => f1 q a (by omega)⟩
      · refine iy_i (by omega) (by omega) ?_
        refine x_nm (fun U2 hU2 => ?_)
        have e3 := up_f hU2
        refine rg_i (by omega) ?_
        refine hK 5 [some (vR 473 p), some (vI v), some (vI (j + 1)), some (vI 20)] [] U2 ?_
        refine ih_5 _ ?_ (j + 1) U2 (Nat.le_refl _) ?_ ?_ ?_ ?_
        · omega
        · exact fr_u (fr_t (fr_0 _ _) (fr_s hf_5 rfl)) hU2 rfl
        · omega
        · exact oi_u o1 hU2
        · intro q a b
          by_cases z : q = j
          · rw [z]; exact up_f hU2
          · rw [up_g hU2 (fun y => z y.2.2)]; exact f1 q a (by omega)
  refine j_blx (F := fJ7) tb_J7 (nn_ _) bk_J7_fill_53178_0 bs_J7_fill_53178_0 hz (fun K hK => ?_)
  refine hK 5 [some (vR 473 p), some (vI v), some (vI 0), some (vI 20)] [] T ?_
  refine c_5 _ 0 T (Nat.le_refl _) ?_ ?_ ?_ ?_
  · exact fr_0 _ _
  · omega
  · exact oi_r
  · intro q a b; omega
abbrev po_J7_fill_428 (T : Zt) (p : Int) (v : Int) : Zt → Option Zv → Prop := fun T' r => r = none ∧ fr_ [(428, [])] T T' ∧ oi_ T T' p ∧ ∀ j, 0 ≤ j → j < 12 → T' 428 p j = v
set_option maxHeartbeats 4000000 in
theorem ct_J7_fill_428 {T : Zt} {p : Int} {v : Int} (h1 : (-1) ≤ v ∧ v ≤ 2) : Ct_ yJ7_fill_53178 zJ7_fill_53178 T [vR 428 p, vI v] (po_J7_fill_428 T p v) := by
  refine ct_of (by decide) rfl rfl (Nat.le_of_ble_eq_true rfl) (fun hT hav => ?_)
  have hr_v : -2147483648 ≤ v ∧ v ≤ 2147483647 := hav (vI v) (by simp)
  have hz : zJ7_fill_53178.2.2.2.1 = some .boolean → ∀ (T' : Zt) (x : Int), po_J7_fill_428 T p v T' (some (vI x)) → 0 ≤ x ∧ x ≤ 1 := fun h => by cases h
  show J_ zJ7_fill_53178 T (po_J7_fill_428 T p v) 0 0 0 [some (vR 428 p), some (vI v), none, none] [] T
  have c_5 : ∀ (nn : Nat) (j : Int) (T1 : Zt), ((12 - j).toNat) ≤ nn → (fr_ [(428, [])] T T1) → (0 ≤ j ∧ j ≤ 12) → (oi_ T T1 p) → (∀ q, 0 ≤ q → q < j → T1 428 p q = v) → J_ zJ7_fill_53178 T (po_J7_fill_428 T p v) 0 0 5 [some (vR 428 p), some (vI v), some (vI j), some (vI 12)] [] T1 := by
    intro nn
    induction nn using Nat.strongRecOn with
    | _ nn ih_5 =>
      intro j T1 hm_5 hf_5 i1 o1 f1
      refine j_blx (F := fJ7) tb_J7 (nn_ _) bk_J7_fill_53178_5 bs_J7_fill_53178_5 hz (fun K hK => ?_)
      refine And.intro (fun c1 => ?_) (fun c1 => ?_)
      · refine hK 20 _ [] T1 ?_
        refine j_blx (F := fJ7) tb_J7 (nn_ _) bk_J7_fill_53178_20 bs_J7_fill_53178_20 hz (fun K hK => ?_)
        refine (show po_J7_fill_428 T p v T1 (none) from ?_)
        exact ⟨rfl, fr_t (fr_0 _ _) (fr_s hf_5 rfl), o1, fun q a b => f1 q a (by omega)⟩
      · refine iy_i (by omega) (by omega) ?_
        refine x_nm (fun U2 hU2 => ?_)
        have e3 := up_f hU2
        refine rg_i (by omega) ?_
        refine hK 5 [some (vR 428 p), some (vI v), some (vI (j + 1)), some (vI 12)] [] U2 ?_
        refine ih_5 _ ?_ (j + 1) U2 (Nat.le_refl _) ?_ ?_ ?_ ?_
        · omega
        · exact fr_u (fr_t (fr_0 _ _) (fr_s hf_5 rfl)) hU2 rfl
        · omega
        · exact oi_u o1 hU2
        · intro q a b
          by_cases z : q = j
          · rw [z]; exact up_f hU2
          · rw [up_g hU2 (fun y => z y.2.2)]; exact f1 q a (by omega)
  refine j_blx (F := fJ7) tb_J7 (nn_ _) bk_J7_fill_53178_0 bs_J7_fill_53178_0 hz (fun K hK => ?_)
  refine hK 5 [some (vR 428 p), some (vI v), some (vI 0), some (vI 12)] [] T ?_
  refine c_5 _ 0 T (Nat.le_refl _) ?_ ?_ ?_ ?_
  · exact fr_0 _ _
  · omega
  · exact oi_r
  · intro q a b; omega
abbrev po_J7_fill_429 (T : Zt) (p : Int) (v : Int) : Zt → Option Zv → Prop := fun T' r => r = none ∧ fr_ [(429, [])] T T' ∧ oi_ T T' p ∧ ∀ j, 0 ≤ j → j < 12 → T' 429 p j = v
set_option maxHeartbeats 4000000 in
theorem ct_J7_fill_429 {T : Zt} {p : Int} {v : Int} (h1 : (-1) ≤ v ∧ v ≤ 3) : Ct_ yJ7_fill_53178 zJ7_fill_53178 T [vR 429 p, vI v] (po_J7_fill_429 T p v) := by
  refine ct_of (by decide) rfl rfl (Nat.le_of_ble_eq_true rfl) (fun hT hav => ?_)
  have hr_v : -2147483648 ≤ v ∧ v ≤ 2147483647 := hav (vI v) (by simp)
  have hz : zJ7_fill_53178.2.2.2.1 = some .boolean → ∀ (T' : Zt) (x : Int), po_J7_fill_429 T p v T' (some (vI x)) → 0 ≤ x ∧ x ≤ 1 := fun h => by cases h
  show J_ zJ7_fill_53178 T (po_J7_fill_429 T p v) 0 0 0 [some (vR 429 p), some (vI v), none, none] [] T
  have c_5 : ∀ (nn : Nat) (j : Int) (T1 : Zt), ((12 - j).toNat) ≤ nn → (fr_ [(429, [])] T T1) → (0 ≤ j ∧ j ≤ 12) → (oi_ T T1 p) → (∀ q, 0 ≤ q → q < j → T1 429 p q = v) → J_ zJ7_fill_53178 T (po_J7_fill_429 T p v) 0 0 5 [some (vR 429 p), some (vI v), some (vI j), some (vI 12)] [] T1 := by
    intro nn
    induction nn using Nat.strongRecOn with
    | _ nn ih_5 =>
      intro j T1 hm_5 hf_5 i1 o1 f1
      refine j_blx (F := fJ7) tb_J7 (nn_ _) bk_J7_fill_53178_5 bs_J7_fill_53178_5 hz (fun K hK => ?_)
      refine And.intro (fun c1 => ?_) (fun c1 => ?_)
      · refine hK 20 _ [] T1 ?_
        refine j_blx (F := fJ7) tb_J7 (nn_ _) bk_J7_fill_53178_20 bs_J7_fill_53178_20 hz (fun K hK => ?_)
        refine (show po_J7_fill_429 T p v T1 (none) from ?_)
        exact ⟨rfl, fr_t (fr_0 _ _) (fr_s hf_5 rfl), o1, fun q a b => f1 q a (by omega)⟩
      · refine iy_i (by omega) (by omega) ?_
        refine x_nm (fun U2 hU2 => ?_)
        have e3 := up_f hU2
        refine rg_i (by omega) ?_
        refine hK 5 [some (vR 429 p), some (vI v), some (vI (j + 1)), some (vI 12)] [] U2 ?_
        refine ih_5 _ ?_ (j + 1) U2 (Nat.le_refl _) ?_ ?_ ?_ ?_
        · omega
        · exact fr_u (fr_t (fr_0 _ _) (fr_s hf_5 rfl)) hU2 rfl
        · omega
        · exact oi_u o1 hU2
        · intro q a b
          by_cases z : q = j
          · rw [z]; exact up_f hU2
          · rw [up_g hU2 (fun y => z y.2.2)]; exact f1 q a (by omega)
  refine j_blx (F := fJ7) tb_J7 (nn_ _) bk_J7_fill_53178_0 bs_J7_fill_53178_0 hz (fun K hK => ?_)
  refine hK 5 [some (vR 429 p), some (vI v), some (vI 0), some (vI 12)] [] T ?_
  refine c_5 _ 0 T (Nat.le_refl _) ?_ ?_ ?_ ?_
  · exact fr_0 _ _
  · omega
  · exact oi_r
  · intro q a b; omega
abbrev po_J7_fill_430 (T : Zt) (p : Int) (v : Int) : Zt → Option Zv → Prop := fun T' r => r = none ∧ fr_ [(430, [])] T T' ∧ oi_ T T' p ∧ ∀ j, 0 ≤ j → j < 3 → T' 430 p j = v
set_option maxHeartbeats 4000000 in
theorem ct_J7_fill_430 {T : Zt} {p : Int} {v : Int} (h1 : 0 ≤ v ∧ v ≤ 4) : Ct_ yJ7_fill_53178 zJ7_fill_53178 T [vR 430 p, vI v] (po_J7_fill_430 T p v) := by
  refine ct_of (by decide) rfl rfl (Nat.le_of_ble_eq_true rfl) (fun hT hav => ?_)
  have hr_v : -2147483648 ≤ v ∧ v ≤ 2147483647 := hav (vI v) (by simp)
  have hz : zJ7_fill_53178.2.2.2.1 = some .boolean → ∀ (T' : Zt) (x : Int), po_J7_fill_430 T p v T' (some (vI x)) → 0 ≤ x ∧ x ≤ 1 := fun h => by cases h
  show J_ zJ7_fill_53178 T (po_J7_fill_430 T p v) 0 0 0 [some (vR 430 p), some (vI v), none, none] [] T
  have c_5 : ∀ (nn : Nat) (j : Int) (T1 : Zt), ((3 - j).toNat) ≤ nn → (fr_ [(430, [])] T T1) → (0 ≤ j ∧ j ≤ 3) → (oi_ T T1 p) → (∀ q, 0 ≤ q → q < j → T1 430 p q = v) → J_ zJ7_fill_53178 T (po_J7_fill_430 T p v) 0 0 5 [some (vR 430 p), some (vI v), some (vI j), some (vI 3)] [] T1 := by
    intro nn
    induction nn using Nat.strongRecOn with
    | _ nn ih_5 =>
      intro j T1 hm_5 hf_5 i1 o1 f1
      refine j_blx (F := fJ7) tb_J7 (nn_ _) bk_J7_fill_53178_5 bs_J7_fill_53178_5 hz (fun K hK => ?_)
      refine And.intro (fun c1 => ?_) (fun c1 => ?_)
      · refine hK 20 _ [] T1 ?_
        refine j_blx (F := fJ7) tb_J7 (nn_ _) bk_J7_fill_53178_20 bs_J7_fill_53178_20 hz (fun K hK => ?_)
        refine (show po_J7_fill_430 T p v T1 (none) from ?_)
        exact ⟨rfl, fr_t (fr_0 _ _) (fr_s hf_5 rfl), o1, fun q a b => f1 q a (by omega)⟩
      · refine iy_i (by omega) (by omega) ?_
        refine x_nm (fun U2 hU2 => ?_)
        have e3 := up_f hU2
        refine rg_i (by omega) ?_
        refine hK 5 [some (vR 430 p), some (vI v), some (vI (j + 1)), some (vI 3)] [] U2 ?_
        refine ih_5 _ ?_ (j + 1) U2 (Nat.le_refl _) ?_ ?_ ?_ ?_
        · omega
        · exact fr_u (fr_t (fr_0 _ _) (fr_s hf_5 rfl)) hU2 rfl
        · omega
        · exact oi_u o1 hU2
        · intro q a b
          by_cases z : q = j
          · rw [z]; exact up_f hU2
          · rw [up_g hU2 (fun y => z y.2.2)]; exact f1 q a (by omega)
  refine j_blx (F := fJ7) tb_J7 (nn_ _) bk_J7_fill_53178_0 bs_J7_fill_53178_0 hz (fun K hK => ?_)
  refine hK 5 [some (vR 430 p), some (vI v), some (vI 0), some (vI 3)] [] T ?_
  refine c_5 _ 0 T (Nat.le_refl _) ?_ ?_ ?_ ?_
  · exact fr_0 _ _
  · omega
  · exact oi_r
  · intro q a b; omega
abbrev po_J7_fill_431 (T : Zt) (p : Int) (v : Int) : Zt → Option Zv → Prop := fun T' r => r = none ∧ fr_ [(431, [])] T T' ∧ oi_ T T' p ∧ ∀ j, 0 ≤ j → j < 48 → T' 431 p j = v
set_option maxHeartbeats 4000000 in
theorem ct_J7_fill_431 {T : Zt} {p : Int} {v : Int} (h1 : (-2147483648) ≤ v ∧ v ≤ 2147483647) : Ct_ yJ7_fill_53178 zJ7_fill_53178 T [vR 431 p, vI v] (po_J7_fill_431 T p v) := by
  refine ct_of (by decide) rfl rfl (Nat.le_of_ble_eq_true rfl) (fun hT hav => ?_)
  have hr_v : -2147483648 ≤ v ∧ v ≤ 2147483647 := hav (vI v) (by simp)
  have hz : zJ7_fill_53178.2.2.2.1 = some .boolean → ∀ (T' : Zt) (x : Int), po_J7_fill_431 T p v T' (some (vI x)) → 0 ≤ x ∧ x ≤ 1 := fun h => by cases h
  show J_ zJ7_fill_53178 T (po_J7_fill_431 T p v) 0 0 0 [some (vR 431 p), some (vI v), none, none] [] T
  have c_5 : ∀ (nn : Nat) (j : Int) (T1 : Zt), ((48 - j).toNat) ≤ nn → (fr_ [(431, [])] T T1) → (0 ≤ j ∧ j ≤ 48) → (oi_ T T1 p) → (∀ q, 0 ≤ q → q < j → T1 431 p q = v) → J_ zJ7_fill_53178 T (po_J7_fill_431 T p v) 0 0 5 [some (vR 431 p), some (vI v), some (vI j), some (vI 48)] [] T1 := by
    intro nn
    induction nn using Nat.strongRecOn with
    | _ nn ih_5 =>
      intro j T1 hm_5 hf_5 i1 o1 f1
      refine j_blx (F := fJ7) tb_J7 (nn_ _) bk_J7_fill_53178_5 bs_J7_fill_53178_5 hz (fun K hK => ?_)
      refine And.intro (fun c1 => ?_) (fun c1 => ?_)
      · refine hK 20 _ [] T1 ?_
        refine j_blx (F := fJ7) tb_J7 (nn_ _) bk_J7_fill_53178_20 bs_J7_fill_53178_20 hz (fun K hK => ?_)
        refine (show po_J7_fill_431 T p v T1 (none) from ?_)
        exact ⟨rfl, fr_t (fr_0 _ _) (fr_s hf_5 rfl), o1, fun q a b => f1 q a (by omega)⟩
      · refine iy_i (by omega) (by omega) ?_
        refine x_nm (fun U2 hU2 => ?_)
        have e3 := up_f hU2
        refine rg_i (by omega) ?_
        refine hK 5 [some (vR 431 p), some (vI v), some (vI (j + 1)), some (vI 48)] [] U2 ?_
        refine ih_5 _ ?_ (j + 1) U2 (Nat.le_refl _) ?_ ?_ ?_ ?_
        · omega
        · exact fr_u (fr_t (fr_0 _ _) (fr_s hf_5 rfl)) hU2 rfl
        · omega
        · exact oi_u o1 hU2
        · intro q a b
          by_cases z : q = j
          · rw [z]; exact up_f hU2
          · rw [up_g hU2 (fun y => z y.2.2)]; exact f1 q a (by omega)
  refine j_blx (F := fJ7) tb_J7 (nn_ _) bk_J7_fill_53178_0 bs_J7_fill_53178_0 hz (fun K hK => ?_)
  refine hK 5 [some (vR 431 p), some (vI v), some (vI 0), some (vI 48)] [] T ?_
  refine c_5 _ 0 T (Nat.le_refl _) ?_ ?_ ?_ ?_
  · exact fr_0 _ _
  · omega
  · exact oi_r
  · intro q a b; omega
abbrev po_J7_fill_434 (T : Zt) (p : Int) (v : Int) : Zt → Option Zv → Prop := fun T' r => r = none ∧ fr_ [(434, [])] T T' ∧ oi_ T T' p ∧ ∀ j, 0 ≤ j → j < 12 → T' 434 p j = v
set_option maxHeartbeats 4000000 in
theorem ct_J7_fill_434 {T : Zt} {p : Int} {v : Int} (h1 : 0 ≤ v ∧ v ≤ 1) : Ct_ yJ7_fill_53178 zJ7_fill_53178 T [vR 434 p, vI v] (po_J7_fill_434 T p v) := by
  refine ct_of (by decide) rfl rfl (Nat.le_of_ble_eq_true rfl) (fun hT hav => ?_)
  have hr_v : -2147483648 ≤ v ∧ v ≤ 2147483647 := hav (vI v) (by simp)
  have hz : zJ7_fill_53178.2.2.2.1 = some .boolean → ∀ (T' : Zt) (x : Int), po_J7_fill_434 T p v T' (some (vI x)) → 0 ≤ x ∧ x ≤ 1 := fun h => by cases h
  show J_ zJ7_fill_53178 T (po_J7_fill_434 T p v) 0 0 0 [some (vR 434 p), some (vI v), none, none] [] T
  have c_5 : ∀ (nn : Nat) (j : Int) (T1 : Zt), ((12 - j).toNat) ≤ nn → (fr_ [(434, [])] T T1) → (0 ≤ j ∧ j ≤ 12) → (oi_ T T1 p) → (∀ q, 0 ≤ q → q < j → T1 434 p q = v) → J_ zJ7_fill_53178 T (po_J7_fill_434 T p v) 0 0 5 [some (vR 434 p), some (vI v), some (vI j), some (vI 12)] [] T1 := by
    intro nn
    induction nn using Nat.strongRecOn with
    | _ nn ih_5 =>
      intro j T1 hm_5 hf_5 i1 o1 f1
      refine j_blx (F := fJ7) tb_J7 (nn_ _) bk_J7_fill_53178_5 bs_J7_fill_53178_5 hz (fun K hK => ?_)
      refine And.intro (fun c1 => ?_) (fun c1 => ?_)
      · refine hK 20 _ [] T1 ?_
        refine j_blx (F := fJ7) tb_J7 (nn_ _) bk_J7_fill_53178_20 bs_J7_fill_53178_20 hz (fun K hK => ?_)
        refine (show po_J7_fill_434 T p v T1 (none) from ?_)
        exact ⟨rfl, fr_t (fr_0 _ _) (fr_s hf_5 rfl), o1, fun q a b => f1 q a (by omega)⟩
      · refine iy_i (by omega) (by omega) ?_
        refine x_nm (fun U2 hU2 => ?_)
        have e3 := up_f hU2
        refine rg_i (by omega) ?_
        refine hK 5 [some (vR 434 p), some (vI v), some (vI (j + 1)), some (vI 12)] [] U2 ?_
        refine ih_5 _ ?_ (j + 1) U2 (Nat.le_refl _) ?_ ?_ ?_ ?_
        · omega
        · exact fr_u (fr_t (fr_0 _ _) (fr_s hf_5 rfl)) hU2 rfl
        · omega
        · exact oi_u o1 hU2
        · intro q a b
          by_cases z : q = j
          · rw [z]; exact up_f hU2
          · rw [up_g hU2 (fun y => z y.2.2)]; exact f1 q a (by omega)
  refine j_blx (F := fJ7) tb_J7 (nn_ _) bk_J7_fill_53178_0 bs_J7_fill_53178_0 hz (fun K hK => ?_)
  refine hK 5 [some (vR 434 p), some (vI v), some (vI 0), some (vI 12)] [] T ?_
  refine c_5 _ 0 T (Nat.le_refl _) ?_ ?_ ?_ ?_
  · exact fr_0 _ _
  · omega
  · exact oi_r
  · intro q a b; omega
abbrev po_J7_fill_435 (T : Zt) (p : Int) (v : Int) : Zt → Option Zv → Prop := fun T' r => r = none ∧ fr_ [(435, [])] T T' ∧ oi_ T T' p ∧ ∀ j, 0 ≤ j → j < 32 → T' 435 p j = v
set_option maxHeartbeats 4000000 in
theorem ct_J7_fill_435 {T : Zt} {p : Int} {v : Int} (h1 : (-2147483648) ≤ v ∧ v ≤ 2147483647) : Ct_ yJ7_fill_53178 zJ7_fill_53178 T [vR 435 p, vI v] (po_J7_fill_435 T p v) := by
  refine ct_of (by decide) rfl rfl (Nat.le_of_ble_eq_true rfl) (fun hT hav => ?_)
  have hr_v : -2147483648 ≤ v ∧ v ≤ 2147483647 := hav (vI v) (by simp)
  have hz : zJ7_fill_53178.2.2.2.1 = some .boolean → ∀ (T' : Zt) (x : Int), po_J7_fill_435 T p v T' (some (vI x)) → 0 ≤ x ∧ x ≤ 1 := fun h => by cases h
  show J_ zJ7_fill_53178 T (po_J7_fill_435 T p v) 0 0 0 [some (vR 435 p), some (vI v), none, none] [] T
  have c_5 : ∀ (nn : Nat) (j : Int) (T1 : Zt), ((32 - j).toNat) ≤ nn → (fr_ [(435, [])] T T1) → (0 ≤ j ∧ j ≤ 32) → (oi_ T T1 p) → (∀ q, 0 ≤ q → q < j → T1 435 p q = v) → J_ zJ7_fill_53178 T (po_J7_fill_435 T p v) 0 0 5 [some (vR 435 p), some (vI v), some (vI j), some (vI 32)] [] T1 := by
    intro nn
    induction nn using Nat.strongRecOn with
    | _ nn ih_5 =>
      intro j T1 hm_5 hf_5 i1 o1 f1
      refine j_blx (F := fJ7) tb_J7 (nn_ _) bk_J7_fill_53178_5 bs_J7_fill_53178_5 hz (fun K hK => ?_)
      refine And.intro (fun c1 => ?_) (fun c1 => ?_)
      · refine hK 20 _ [] T1 ?_
        refine j_blx (F := fJ7) tb_J7 (nn_ _) bk_J7_fill_53178_20 bs_J7_fill_53178_20 hz (fun K hK => ?_)
        refine (show po_J7_fill_435 T p v T1 (none) from ?_)
        exact ⟨rfl, fr_t (fr_0 _ _) (fr_s hf_5 rfl), o1, fun q a b => f1 q a (by omega)⟩
      · refine iy_i (by omega) (by omega) ?_
        refine x_nm (fun U2 hU2 => ?_)
        have e3 := up_f hU2
        refine rg_i (by omega) ?_
        refine hK 5 [some (vR 435 p), some (vI v), some (vI (j + 1)), some (vI 32)] [] U2 ?_
        refine ih_5 _ ?_ (j + 1) U2 (Nat.le_refl _) ?_ ?_ ?_ ?_
        · omega
        · exact fr_u (fr_t (fr_0 _ _) (fr_s hf_5 rfl)) hU2 rfl
        · omega
        · exact oi_u o1 hU2
        · intro q a b
          by_cases z : q = j
          · rw [z]; exact up_f hU2
          · rw [up_g hU2 (fun y => z y.2.2)]; exact f1 q a (by omega)
  refine j_blx (F := fJ7) tb_J7 (nn_ _) bk_J7_fill_53178_0 bs_J7_fill_53178_0 hz (fun K hK => ?_)
  refine hK 5 [some (vR 435 p), some (vI v), some (vI 0), some (vI 32)] [] T ?_
  refine c_5 _ 0 T (Nat.le_refl _) ?_ ?_ ?_ ?_
  · exact fr_0 _ _
  · omega
  · exact oi_r
  · intro q a b; omega
abbrev cX2_phaseOfLife : ByteArray := prog_4_method_2_code
def yX2_phaseOfLife : MethodName := ⟨RX2, "phaseOfLife", "()I"⟩
def zX2_phaseOfLife : Zm := (RX2, cX2_phaseOfLife, 1, (some .int), { frames := 0, cells := 0, slots := 0, locals := 0 })
theorem bk_X2_phaseOfLife_0 : ck_ fX2 (some .int) cX2_phaseOfLife 0 [.aload 0, .tableswitch 0 2 6 #[], .iconst (-1), .if_icmp .eq 10, .iconst 3, .ireturn] 10 = true := qck_r (nn_ _) (by decide +kernel)
theorem bs_X2_phaseOfLife_0 {P : Zt → Option Zv → Prop} (K : Int → Zl → List Zv → Zt → Prop) : sx_ K P [.aload 0, .tableswitch 0 2 6 #[], .iconst (-1), .if_icmp .eq 10, .iconst 3, .ireturn] 10 = x_aload 0 (x_g0 102 6 (-1) 1 (x_iconst (-1) (x_if_icmp .eq 10 K (x_iconst 3 (x_ireturn P))))) := ((xe_aload 0).trans (congrArg (x_aload 0) ((xe_g0 (kk := 102) rfl tl_2_6).trans (congrArg (x_g0 102 6 (-1) 1) ((xe_iconst (-1)).trans (congrArg (x_iconst (-1)) ((xe_if_icmp .eq 10).trans (congrArg (x_if_icmp .eq 10 K) ((xe_iconst 3).trans (congrArg (x_iconst 3) (xe_ireturn)))))))))))
theorem bk_X2_phaseOfLife_10 : ck_ fX2 (some .int) cX2_phaseOfLife 10 [.aload 0, .tableswitch 0 2 10 #[], .ifnonnull 19, .iconst 0, .ireturn] 19 = true := qck_r (nn_ _) (by decide +kernel)
theorem bs_X2_phaseOfLife_10 {P : Zt → Option Zv → Prop} (K : Int → Zl → List Zv → Zt → Prop) : sx_ K P [.aload 0, .tableswitch 0 2 10 #[], .ifnonnull 19, .iconst 0, .ireturn] 19 = x_aload 0 (x_g4 102 103 10 (x_ifnonnull 19 K (x_iconst 0 (x_ireturn P)))) := ((xe_aload 0).trans (congrArg (x_aload 0) ((xe_g4 (kk := 102) rfl tl_2_10).trans (congrArg (x_g4 102 103 10) ((xe_ifnonnull 19).trans (congrArg (x_ifnonnull 19 K) ((xe_iconst 0).trans (congrArg (x_iconst 0) (xe_ireturn)))))))))
theorem bk_X2_phaseOfLife_19 : ck_ fX2 (some .int) cX2_phaseOfLife 19 [.aload 0, .tableswitch 0 2 10 #[], .tableswitch 0 3 3 #[], .ifCond .eq 33, .iconst 2, .goto 34] 33 = true := qck_r (nn_ _) (by decide +kernel)
theorem bs_X2_phaseOfLife_19 {P : Zt → Option Zv → Prop} (K : Int → Zl → List Zv → Zt → Prop) : sx_ K P [.aload 0, .tableswitch 0 2 10 #[], .tableswitch 0 3 3 #[], .ifCond .eq 33, .iconst 2, .goto 34] 33 = x_aload 0 (x_g4 102 103 10 (x_g0 103 3 0 1 (x_ifCond .eq 33 K (x_iconst 2 (x_goto 34 K))))) := ((xe_aload 0).trans (congrArg (x_aload 0) ((xe_g4 (kk := 102) rfl tl_2_10).trans (congrArg (x_g4 102 103 10) ((xe_g0 (kk := 103) rfl tl_3_3).trans (congrArg (x_g0 103 3 0 1) ((xe_ifCond .eq 33).trans (congrArg (x_ifCond .eq 33 K) ((xe_iconst 2).trans (congrArg (x_iconst 2) (xe_goto 34)))))))))))
theorem bk_X2_phaseOfLife_33 : ck_ fX2 (some .int) cX2_phaseOfLife 33 [.iconst 1, .ireturn] 35 = true := qck_r (nn_ _) (by decide +kernel)
theorem bs_X2_phaseOfLife_33 {P : Zt → Option Zv → Prop} (K : Int → Zl → List Zv → Zt → Prop) : sx_ K P [.iconst 1, .ireturn] 35 = x_iconst 1 (x_ireturn P) := ((xe_iconst 1).trans (congrArg (x_iconst 1) (xe_ireturn)))
theorem bk_X2_phaseOfLife_34 : ck_ fX2 (some .int) cX2_phaseOfLife 34 [.ireturn] 35 = true := qck_r (nn_ _) (by decide +kernel)
theorem bs_X2_phaseOfLife_34 {P : Zt → Option Zv → Prop} (K : Int → Zl → List Zv → Zt → Prop) : sx_ K P [.ireturn] 35 = x_ireturn P := (xe_ireturn)
abbrev po_X2_phaseOfLife (T : Zt) (p : Int) : Zt → Option Zv → Prop := fun T' r => T = T' ∧ ∃ x : Int, r = some (vI x) ∧ (0 ≤ x ∧ x ≤ 3 ∧ (x = 3 ↔ T 102 p 6 ≠ -1) ∧ (x = 0 ↔ T 102 p 6 = -1 ∧ T 102 p 10 = 0))
set_option maxHeartbeats 4000000 in
theorem ct_X2_phaseOfLife {T : Zt} {p : Int} : Ct_ yX2_phaseOfLife zX2_phaseOfLife T [vR 102 p] (po_X2_phaseOfLife T p) := by
  refine ct_of pn_2 rfl rfl (Nat.le_of_ble_eq_true rfl) (fun hT hav => ?_)
  have hz : zX2_phaseOfLife.2.2.2.1 = some .boolean → ∀ (T' : Zt) (x : Int), po_X2_phaseOfLife T p T' (some (vI x)) → 0 ≤ x ∧ x ≤ 1 := fun h => by cases h
  show J_ zX2_phaseOfLife T (po_X2_phaseOfLife T p) 0 0 0 [some (vR 102 p)] [] T
  refine j_blx (F := fX2) tb_X2 (nn_ _) bk_X2_phaseOfLife_0 bs_X2_phaseOfLife_0 hz (fun K hK => ?_)
  intro b1 b1b
  refine And.intro (fun c2 => ?_) (fun c2 => ?_)
  · refine hK 10 _ [] T ?_
    refine j_blx (F := fX2) tb_X2 (nn_ _) bk_X2_phaseOfLife_10 bs_X2_phaseOfLife_10 hz (fun K hK => ?_)
    refine And.intro (fun c3 => ?_) (fun c3 => ?_)
    · refine (show po_X2_phaseOfLife T p T (some (vI 0)) from ?_)
      exact ⟨rfl, _, rfl, by omega⟩
    · refine hK 19 _ [] T ?_
      refine j_blx (F := fX2) tb_X2 (nn_ _) bk_X2_phaseOfLife_19 bs_X2_phaseOfLife_19 hz (fun K hK => ?_)
      refine And.intro (fun c4 => ?_) (fun c4 => ?_)
      · exact absurd c4 (by omega)
      · intro b5 b5b
        refine And.intro (fun c6 => ?_) (fun c6 => ?_)
        · refine hK 33 _ [] T ?_
          refine j_blx (F := fX2) tb_X2 (nn_ _) bk_X2_phaseOfLife_33 bs_X2_phaseOfLife_33 hz (fun K hK => ?_)
          refine (show po_X2_phaseOfLife T p T (some (vI 1)) from ?_)
          exact ⟨rfl, _, rfl, by omega⟩
        · refine hK 34 _ [vI 2] T ?_
          refine j_blx (F := fX2) tb_X2 (nn_ _) bk_X2_phaseOfLife_34 bs_X2_phaseOfLife_34 hz (fun K hK => ?_)
          refine (show po_X2_phaseOfLife T p T (some (vI 2)) from ?_)
          exact ⟨rfl, _, rfl, by omega⟩
  · refine (show po_X2_phaseOfLife T p T (some (vI 3)) from ?_)
    exact ⟨rfl, _, rfl, by omega⟩
abbrev cX2_isDecided : ByteArray := prog_4_method_3_code
def yX2_isDecided : MethodName := ⟨RX2, "isDecided", "()Z"⟩
def zX2_isDecided : Zm := (RX2, cX2_isDecided, 1, (some .boolean), { frames := 1, cells := 0, slots := 0, locals := 20 })
theorem bk_X2_isDecided_0 : ck_ fX2 (some .boolean) cX2_isDecided 0 [.aload 0] 1 = true := qck_r (nn_ _) (by decide +kernel)
theorem bs_X2_isDecided_0 {P : Zt → Option Zv → Prop} (K : Int → Zl → List Zv → Zt → Prop) : sx_ K P [.aload 0] 1 = x_aload 0 (K 1) := ((xe_aload 0).trans (congrArg (x_aload 0) xe_nil))
set_option maxRecDepth 100000 in
theorem cl_X2_54 : cv_ RX2 54 yX2_phaseOfLife zX2_phaseOfLife 2 0 := ⟨gi_V (lw_b4 158 (by decide +kernel) rfl : Cond.methodLink RX2 54 yX2_phaseOfLife ∈ lw_g) (lw_b4 58 (by decide +kernel) rfl : Cond.instanceMethod yX2_phaseOfLife ∈ lw_g) (lw_b4 59 (by decide +kernel) rfl : Cond.selects yX2_phaseOfLife.cls yX2_phaseOfLife yX2_phaseOfLife ∈ lw_g) (lw_b1 16 (by decide +kernel) rfl : Cond.initialized yX2_phaseOfLife.cls ∈ lw_g) (lw_b4 60 rfl rfl : Cond.code yX2_phaseOfLife cX2_phaseOfLife 1 (some .int) ∈ lw_g), ⟨by decide, by decide, by decide +kernel⟩, ⟨_, _, rfl⟩⟩
theorem bk_X2_isDecided_4 : ck_ fX2 (some .boolean) cX2_isDecided 4 [.iconst 2, .if_icmp .lt 12, .iconst 1, .goto 13] 12 = true := qck_r (nn_ _) (by decide +kernel)
theorem bs_X2_isDecided_4 {P : Zt → Option Zv → Prop} (K : Int → Zl → List Zv → Zt → Prop) : sx_ K P [.iconst 2, .if_icmp .lt 12, .iconst 1, .goto 13] 12 = x_iconst 2 (x_if_icmp .lt 12 K (x_iconst 1 (x_goto 13 K))) := ((xe_iconst 2).trans (congrArg (x_iconst 2) ((xe_if_icmp .lt 12).trans (congrArg (x_if_icmp .lt 12 K) ((xe_iconst 1).trans (congrArg (x_iconst 1) (xe_goto 13)))))))
theorem bk_X2_isDecided_12 : ck_ fX2 (some .boolean) cX2_isDecided 12 [.iconst 0, .ireturn] 14 = true := qck_r (nn_ _) (by decide +kernel)
theorem bs_X2_isDecided_12 {P : Zt → Option Zv → Prop} (K : Int → Zl → List Zv → Zt → Prop) : sx_ K P [.iconst 0, .ireturn] 14 = x_iconst 0 (x_ireturn P) := ((xe_iconst 0).trans (congrArg (x_iconst 0) (xe_ireturn)))
theorem bk_X2_isDecided_13 : ck_ fX2 (some .boolean) cX2_isDecided 13 [.ireturn] 14 = true := qck_r (nn_ _) (by decide +kernel)
theorem bs_X2_isDecided_13 {P : Zt → Option Zv → Prop} (K : Int → Zl → List Zv → Zt → Prop) : sx_ K P [.ireturn] 14 = x_ireturn P := (xe_ireturn)
abbrev po_X2_isDecided (T : Zt) (p : Int) : Zt → Option Zv → Prop := fun T' r => T = T' ∧ ∃ x : Int, r = some (vI x) ∧ (0 ≤ x ∧ x ≤ 1)
set_option maxHeartbeats 4000000 in
theorem ct_X2_isDecided {T : Zt} {p : Int} : Ct_ yX2_isDecided zX2_isDecided T [vR 102 p] (po_X2_isDecided T p) := by
  refine ct_of pn_2 rfl rfl (Nat.le_of_ble_eq_true rfl) (fun hT hav => ?_)
  have hz : zX2_isDecided.2.2.2.1 = some .boolean → ∀ (T' : Zt) (x : Int), po_X2_isDecided T p T' (some (vI x)) → 0 ≤ x ∧ x ≤ 1 := fun _ T' x h => by obtain ⟨-, y, e, hy⟩ := h; cases e; omega
  show J_ zX2_isDecided T (po_X2_isDecided T p) 0 0 0 [some (vR 102 p)] [] T
  refine j_blx (F := fX2) tb_X2 (nn_ _) bk_X2_isDecided_0 bs_X2_isDecided_0 hz (fun K hK => ?_)
  refine hK 1 _ [vR 102 p] T ?_
  refine j_callV (y := yX2_phaseOfLife) (Yc := zX2_phaseOfLife) (rest := []) [] (ct_X2_phaseOfLife (T := T)) cl_X2_54 (qd_c (by decide +kernel)) (nn_ _) rfl (rf_of rfl) (Nat.le_of_ble_eq_true rfl) (Nat.le_of_ble_eq_true rfl) (Nat.le_of_ble_eq_true rfl) rfl ?_
  rintro _ _ ⟨rfl, x1, rfl, hx1⟩
  show J_ zX2_isDecided T (po_X2_isDecided T p) 0 0 4 _ [vI x1] T
  refine j_blx (F := fX2) tb_X2 (nn_ _) bk_X2_isDecided_4 bs_X2_isDecided_4 hz (fun K hK => ?_)
  refine And.intro (fun c2 => ?_) (fun c2 => ?_)
  · refine hK 12 _ [] T ?_
    refine j_blx (F := fX2) tb_X2 (nn_ _) bk_X2_isDecided_12 bs_X2_isDecided_12 hz (fun K hK => ?_)
    refine (show po_X2_isDecided T p T (some (vI 0)) from ?_)
    exact ⟨rfl, _, rfl, by omega⟩
  · refine hK 13 _ [vI 1] T ?_
    refine j_blx (F := fX2) tb_X2 (nn_ _) bk_X2_isDecided_13 bs_X2_isDecided_13 hz (fun K hK => ?_)
    refine (show po_X2_isDecided T p T (some (vI 1)) from ?_)
    exact ⟨rfl, _, rfl, by omega⟩
abbrev cX2_scoreOf : ByteArray := prog_4_method_4_code
def yX2_scoreOf : MethodName := ⟨RX2, "scoreOf", "(I)I"⟩
def zX2_scoreOf : Zm := (RX2, cX2_scoreOf, 2, (some .int), { frames := 0, cells := 0, slots := 0, locals := 0 })
theorem bk_X2_scoreOf_0 : ck_ fX2 (some .int) cX2_scoreOf 0 [.aload 0, .tableswitch 0 2 6 #[], .iconst (-1), .if_icmp .eq 31, .iload 1, .aload 0, .tableswitch 0 2 6 #[], .if_icmp .ne 20, .iconst 0, .goto 30] 20 = true := qck_r (nn_ _) (by decide +kernel)
theorem bs_X2_scoreOf_0 {P : Zt → Option Zv → Prop} (K : Int → Zl → List Zv → Zt → Prop) : sx_ K P [.aload 0, .tableswitch 0 2 6 #[], .iconst (-1), .if_icmp .eq 31, .iload 1, .aload 0, .tableswitch 0 2 6 #[], .if_icmp .ne 20, .iconst 0, .goto 30] 20 = x_aload 0 (x_g0 102 6 (-1) 1 (x_iconst (-1) (x_if_icmp .eq 31 K (x_iload 1 (x_aload 0 (x_g0 102 6 (-1) 1 (x_if_icmp .ne 20 K (x_iconst 0 (x_goto 30 K))))))))) := ((xe_aload 0).trans (congrArg (x_aload 0) ((xe_g0 (kk := 102) rfl tl_2_6).trans (congrArg (x_g0 102 6 (-1) 1) ((xe_iconst (-1)).trans (congrArg (x_iconst (-1)) ((xe_if_icmp .eq 31).trans (congrArg (x_if_icmp .eq 31 K) ((xe_iload 1).trans (congrArg (x_iload 1) ((xe_aload 0).trans (congrArg (x_aload 0) ((xe_g0 (kk := 102) rfl tl_2_6).trans (congrArg (x_g0 102 6 (-1) 1) ((xe_if_icmp .ne 20).trans (congrArg (x_if_icmp .ne 20 K) ((xe_iconst 0).trans (congrArg (x_iconst 0) (xe_goto 30)))))))))))))))))))
theorem bk_X2_scoreOf_31 : ck_ fX2 (some .int) cX2_scoreOf 31 [.aload 0, .tableswitch 0 2 10 #[], .ifnonnull 42, .iconst 0, .goto 51] 42 = true := qck_r (nn_ _) (by decide +kernel)
theorem bs_X2_scoreOf_31 {P : Zt → Option Zv → Prop} (K : Int → Zl → List Zv → Zt → Prop) : sx_ K P [.aload 0, .tableswitch 0 2 10 #[], .ifnonnull 42, .iconst 0, .goto 51] 42 = x_aload 0 (x_g4 102 103 10 (x_ifnonnull 42 K (x_iconst 0 (x_goto 51 K)))) := ((xe_aload 0).trans (congrArg (x_aload 0) ((xe_g4 (kk := 102) rfl tl_2_10).trans (congrArg (x_g4 102 103 10) ((xe_ifnonnull 42).trans (congrArg (x_ifnonnull 42 K) ((xe_iconst 0).trans (congrArg (x_iconst 0) (xe_goto 51)))))))))
theorem bk_X2_scoreOf_51 : ck_ fX2 (some .int) cX2_scoreOf 51 [.ireturn] 52 = true := qck_r (nn_ _) (by decide +kernel)
theorem bs_X2_scoreOf_51 {P : Zt → Option Zv → Prop} (K : Int → Zl → List Zv → Zt → Prop) : sx_ K P [.ireturn] 52 = x_ireturn P := (xe_ireturn)
theorem bk_X2_scoreOf_42 : ck_ fX2 (some .int) cX2_scoreOf 42 [.aload 0, .tableswitch 0 2 10 #[], .tableswitch 0 3 8 #[], .iload 1, .iaload, .ireturn] 52 = true := qck_r (nn_ _) (by decide +kernel)
theorem bs_X2_scoreOf_42 {P : Zt → Option Zv → Prop} (K : Int → Zl → List Zv → Zt → Prop) : sx_ K P [.aload 0, .tableswitch 0 2 10 #[], .tableswitch 0 3 8 #[], .iload 1, .iaload, .ireturn] 52 = x_aload 0 (x_g4 102 103 10 (x_g2 103 468 (x_iload 1 (x_iaload (x_ireturn P))))) := ((xe_aload 0).trans (congrArg (x_aload 0) ((xe_g4 (kk := 102) rfl tl_2_10).trans (congrArg (x_g4 102 103 10) ((xe_g2 (kk := 103) rfl tl_3_8).trans (congrArg (x_g2 103 468) ((xe_iload 1).trans (congrArg (x_iload 1) ((xe_iaload).trans (congrArg (x_iaload) (xe_ireturn)))))))))))
theorem bk_X2_scoreOf_20 : ck_ fX2 (some .int) cX2_scoreOf 20 [.aload 0, .tableswitch 0 2 0 #[], .tableswitch 0 0 1 #[], .iconst 12, .iaload, .ireturn] 31 = true := qck_r (nn_ _) (by decide +kernel)
theorem bs_X2_scoreOf_20 {P : Zt → Option Zv → Prop} (K : Int → Zl → List Zv → Zt → Prop) : sx_ K P [.aload 0, .tableswitch 0 2 0 #[], .tableswitch 0 0 1 #[], .iconst 12, .iaload, .ireturn] 31 = x_aload 0 (x_g3 102 100 0 (x_g2 100 401 (x_iconst 12 (x_iaload (x_ireturn P))))) := ((xe_aload 0).trans (congrArg (x_aload 0) ((xe_g3 (kk := 102) rfl tl_2_0).trans (congrArg (x_g3 102 100 0) ((xe_g2 (kk := 100) rfl tl_0_1).trans (congrArg (x_g2 100 401) ((xe_iconst 12).trans (congrArg (x_iconst 12) ((xe_iaload).trans (congrArg (x_iaload) (xe_ireturn)))))))))))
theorem bk_X2_scoreOf_30 : ck_ fX2 (some .int) cX2_scoreOf 30 [.ireturn] 31 = true := qck_r (nn_ _) (by decide +kernel)
theorem bs_X2_scoreOf_30 {P : Zt → Option Zv → Prop} (K : Int → Zl → List Zv → Zt → Prop) : sx_ K P [.ireturn] 31 = x_ireturn P := (xe_ireturn)
abbrev po_X2_scoreOf (T : Zt) (p : Int) (s : Int) : Zt → Option Zv → Prop := fun T' r => T = T' ∧ ∃ x : Int, r = some (vI x) ∧ (0 = (0 : Int))
set_option maxHeartbeats 4000000 in
theorem ct_X2_scoreOf {T : Zt} {p : Int} {s : Int} (h1 : 0 ≤ s ∧ s ≤ 1) : Ct_ yX2_scoreOf zX2_scoreOf T [vR 102 p, vI s] (po_X2_scoreOf T p s) := by
  refine ct_of pn_2 rfl rfl (Nat.le_of_ble_eq_true rfl) (fun hT hav => ?_)
  have hr_s : -2147483648 ≤ s ∧ s ≤ 2147483647 := hav (vI s) (by simp)
  have hz : zX2_scoreOf.2.2.2.1 = some .boolean → ∀ (T' : Zt) (x : Int), po_X2_scoreOf T p s T' (some (vI x)) → 0 ≤ x ∧ x ≤ 1 := fun h => by cases h
  show J_ zX2_scoreOf T (po_X2_scoreOf T p s) 0 0 0 [some (vR 102 p), some (vI s)] [] T
  refine j_blx (F := fX2) tb_X2 (nn_ _) bk_X2_scoreOf_0 bs_X2_scoreOf_0 hz (fun K hK => ?_)
  intro b1 b1b
  refine And.intro (fun c2 => ?_) (fun c2 => ?_)
  · refine hK 31 _ [] T ?_
    refine j_blx (F := fX2) tb_X2 (nn_ _) bk_X2_scoreOf_31 bs_X2_scoreOf_31 hz (fun K hK => ?_)
    refine And.intro (fun c3 => ?_) (fun c3 => ?_)
    · refine hK 51 _ [vI 0] T ?_
      refine j_blx (F := fX2) tb_X2 (nn_ _) bk_X2_scoreOf_51 bs_X2_scoreOf_51 hz (fun K hK => ?_)
      refine (show po_X2_scoreOf T p s T (some (vI 0)) from ?_)
      exact ⟨rfl, _, rfl, by rfl⟩
    · refine hK 42 _ [] T ?_
      refine j_blx (F := fX2) tb_X2 (nn_ _) bk_X2_scoreOf_42 bs_X2_scoreOf_42 hz (fun K hK => ?_)
      refine And.intro (fun c4 => ?_) (fun c4 => ?_)
      · exact absurd c4 (by omega)
      · refine ix_i (by omega) ?_
        intro b5 b5b
        refine (show po_X2_scoreOf T p s T (some (vI (T 468 p s))) from ?_)
        exact ⟨rfl, _, rfl, by rfl⟩
  · intro b6 b6b
    refine And.intro (fun c7 => ?_) (fun c7 => ?_)
    · refine hK 20 _ [] T ?_
      refine j_blx (F := fX2) tb_X2 (nn_ _) bk_X2_scoreOf_20 bs_X2_scoreOf_20 hz (fun K hK => ?_)
      refine ix_i (by omega) ?_
      intro b9 b9b
      refine (show po_X2_scoreOf T p s T (some (vI (T 401 (T 102 p 0) 12))) from ?_)
      exact ⟨rfl, _, rfl, by rfl⟩
    · refine hK 30 _ [vI 0] T ?_
      refine j_blx (F := fX2) tb_X2 (nn_ _) bk_X2_scoreOf_30 bs_X2_scoreOf_30 hz (fun K hK => ?_)
      refine (show po_X2_scoreOf T p s T (some (vI 0)) from ?_)
      exact ⟨rfl, _, rfl, by rfl⟩
abbrev cX2_has : ByteArray := prog_4_method_5_code
def yX2_has : MethodName := ⟨RX2, "has", "(I)Z"⟩
def zX2_has : Zm := (RX2, cX2_has, 2, (some .boolean), { frames := 0, cells := 0, slots := 0, locals := 0 })
theorem bk_X2_has_0 : ck_ fX2 (some .boolean) cX2_has 0 [.aload 0, .tableswitch 0 2 3 #[], .iload 1, .if_icmp .eq 16, .aload 0, .tableswitch 0 2 4 #[], .iload 1, .if_icmp .ne 20, .iconst 1, .goto 21] 20 = true := qck_r (nn_ _) (by decide +kernel)
theorem bs_X2_has_0 {P : Zt → Option Zv → Prop} (K : Int → Zl → List Zv → Zt → Prop) : sx_ K P [.aload 0, .tableswitch 0 2 3 #[], .iload 1, .if_icmp .eq 16, .aload 0, .tableswitch 0 2 4 #[], .iload 1, .if_icmp .ne 20, .iconst 1, .goto 21] 20 = x_aload 0 (x_g0 102 3 0 11 (x_iload 1 (x_if_icmp .eq 16 K (x_aload 0 (x_g0 102 4 0 11 (x_iload 1 (x_if_icmp .ne 20 K (x_iconst 1 (x_goto 21 K))))))))) := ((xe_aload 0).trans (congrArg (x_aload 0) ((xe_g0 (kk := 102) rfl tl_2_3).trans (congrArg (x_g0 102 3 0 11) ((xe_iload 1).trans (congrArg (x_iload 1) ((xe_if_icmp .eq 16).trans (congrArg (x_if_icmp .eq 16 K) ((xe_aload 0).trans (congrArg (x_aload 0) ((xe_g0 (kk := 102) rfl tl_2_4).trans (congrArg (x_g0 102 4 0 11) ((xe_iload 1).trans (congrArg (x_iload 1) ((xe_if_icmp .ne 20).trans (congrArg (x_if_icmp .ne 20 K) ((xe_iconst 1).trans (congrArg (x_iconst 1) (xe_goto 21)))))))))))))))))))
theorem bk_X2_has_16 : ck_ fX2 (some .boolean) cX2_has 16 [.iconst 1, .goto 21] 20 = true := qck_r (nn_ _) (by decide +kernel)
theorem bs_X2_has_16 {P : Zt → Option Zv → Prop} (K : Int → Zl → List Zv → Zt → Prop) : sx_ K P [.iconst 1, .goto 21] 20 = x_iconst 1 (x_goto 21 K) := ((xe_iconst 1).trans (congrArg (x_iconst 1) (xe_goto 21)))
theorem bk_X2_has_21 : ck_ fX2 (some .boolean) cX2_has 21 [.ireturn] 22 = true := qck_r (nn_ _) (by decide +kernel)
theorem bs_X2_has_21 {P : Zt → Option Zv → Prop} (K : Int → Zl → List Zv → Zt → Prop) : sx_ K P [.ireturn] 22 = x_ireturn P := (xe_ireturn)
theorem bk_X2_has_20 : ck_ fX2 (some .boolean) cX2_has 20 [.iconst 0, .ireturn] 22 = true := qck_r (nn_ _) (by decide +kernel)
theorem bs_X2_has_20 {P : Zt → Option Zv → Prop} (K : Int → Zl → List Zv → Zt → Prop) : sx_ K P [.iconst 0, .ireturn] 22 = x_iconst 0 (x_ireturn P) := ((xe_iconst 0).trans (congrArg (x_iconst 0) (xe_ireturn)))
abbrev po_X2_has (T : Zt) (p : Int) (c : Int) : Zt → Option Zv → Prop := fun T' r => T = T' ∧ ∃ x : Int, r = some (vI x) ∧ (0 ≤ x ∧ x ≤ 1)
set_option maxHeartbeats 4000000 in
theorem ct_X2_has {T : Zt} {p : Int} {c : Int} : Ct_ yX2_has zX2_has T [vR 102 p, vI c] (po_X2_has T p c) := by
  refine ct_of pn_2 rfl rfl (Nat.le_of_ble_eq_true rfl) (fun hT hav => ?_)
  have hr_c : -2147483648 ≤ c ∧ c ≤ 2147483647 := hav (vI c) (by simp)
  have hz : zX2_has.2.2.2.1 = some .boolean → ∀ (T' : Zt) (x : Int), po_X2_has T p c T' (some (vI x)) → 0 ≤ x ∧ x ≤ 1 := fun _ T' x h => by obtain ⟨-, y, e, hy⟩ := h; cases e; omega
  show J_ zX2_has T (po_X2_has T p c) 0 0 0 [some (vR 102 p), some (vI c)] [] T
  refine j_blx (F := fX2) tb_X2 (nn_ _) bk_X2_has_0 bs_X2_has_0 hz (fun K hK => ?_)
  intro b1 b1b
  refine And.intro (fun c2 => ?_) (fun c2 => ?_)
  · refine hK 16 _ [] T ?_
    refine j_blx (F := fX2) tb_X2 (nn_ _) bk_X2_has_16 bs_X2_has_16 hz (fun K hK => ?_)
    refine hK 21 _ [vI 1] T ?_
    refine j_blx (F := fX2) tb_X2 (nn_ _) bk_X2_has_21 bs_X2_has_21 hz (fun K hK => ?_)
    refine (show po_X2_has T p c T (some (vI 1)) from ?_)
    exact ⟨rfl, _, rfl, by omega⟩
  · intro b3 b3b
    refine And.intro (fun c4 => ?_) (fun c4 => ?_)
    · refine hK 20 _ [] T ?_
      refine j_blx (F := fX2) tb_X2 (nn_ _) bk_X2_has_20 bs_X2_has_20 hz (fun K hK => ?_)
      refine (show po_X2_has T p c T (some (vI 0)) from ?_)
      exact ⟨rfl, _, rfl, by omega⟩
    · refine hK 21 _ [vI 1] T ?_
      refine j_blx (F := fX2) tb_X2 (nn_ _) bk_X2_has_21 bs_X2_has_21 hz (fun K hK => ?_)
      refine (show po_X2_has T p c T (some (vI 1)) from ?_)
      exact ⟨rfl, _, rfl, by omega⟩
abbrev cX2_hasEnoughListed : ByteArray := prog_4_method_6_code
def yX2_hasEnoughListed : MethodName := ⟨RX2, "hasEnoughListed", "()Z"⟩
def zX2_hasEnoughListed : Zm := (RX2, cX2_hasEnoughListed, 1, (some .boolean), { frames := 0, cells := 0, slots := 0, locals := 0 })
theorem bk_X2_hasEnoughListed_0 : ck_ fX2 (some .boolean) cX2_hasEnoughListed 0 [.aload 0, .tableswitch 0 2 9 #[], .iconst 0, .iaload, .aload 0, .tableswitch 0 2 0 #[], .tableswitch 0 0 1 #[], .iconst 9, .iaload, .if_icmp .lt 42, .aload 0, .tableswitch 0 2 9 #[], .iconst 1, .iaload, .aload 0, .tableswitch 0 2 0 #[], .tableswitch 0 0 1 #[], .iconst 9, .iaload, .if_icmp .lt 42, .iconst 1, .goto 43] 42 = true := qck_r (nn_ _) (by decide +kernel)
theorem bs_X2_hasEnoughListed_0 {P : Zt → Option Zv → Prop} (K : Int → Zl → List Zv → Zt → Prop) : sx_ K P [.aload 0, .tableswitch 0 2 9 #[], .iconst 0, .iaload, .aload 0, .tableswitch 0 2 0 #[], .tableswitch 0 0 1 #[], .iconst 9, .iaload, .if_icmp .lt 42, .aload 0, .tableswitch 0 2 9 #[], .iconst 1, .iaload, .aload 0, .tableswitch 0 2 0 #[], .tableswitch 0 0 1 #[], .iconst 9, .iaload, .if_icmp .lt 42, .iconst 1, .goto 43] 42 = x_aload 0 (x_g2 102 449 (x_iconst 0 (x_iaload (x_aload 0 (x_g3 102 100 0 (x_g2 100 401 (x_iconst 9 (x_iaload (x_if_icmp .lt 42 K (x_aload 0 (x_g2 102 449 (x_iconst 1 (x_iaload (x_aload 0 (x_g3 102 100 0 (x_g2 100 401 (x_iconst 9 (x_iaload (x_if_icmp .lt 42 K (x_iconst 1 (x_goto 43 K))))))))))))))))))))) := ((xe_aload 0).trans (congrArg (x_aload 0) ((xe_g2 (kk := 102) rfl tl_2_9).trans (congrArg (x_g2 102 449) ((xe_iconst 0).trans (congrArg (x_iconst 0) ((xe_iaload).trans (congrArg (x_iaload) ((xe_aload 0).trans (congrArg (x_aload 0) ((xe_g3 (kk := 102) rfl tl_2_0).trans (congrArg (x_g3 102 100 0) ((xe_g2 (kk := 100) rfl tl_0_1).trans (congrArg (x_g2 100 401) ((xe_iconst 9).trans (congrArg (x_iconst 9) ((xe_iaload).trans (congrArg (x_iaload) ((xe_if_icmp .lt 42).trans (congrArg (x_if_icmp .lt 42 K) ((xe_aload 0).trans (congrArg (x_aload 0) ((xe_g2 (kk := 102) rfl tl_2_9).trans (congrArg (x_g2 102 449) ((xe_iconst 1).trans (congrArg (x_iconst 1) ((xe_iaload).trans (congrArg (x_iaload) ((xe_aload 0).trans (congrArg (x_aload 0) ((xe_g3 (kk := 102) rfl tl_2_0).trans (congrArg (x_g3 102 100 0) ((xe_g2 (kk := 100) rfl tl_0_1).trans (congrArg (x_g2 100 401) ((xe_iconst 9).trans (congrArg (x_iconst 9) ((xe_iaload).trans (congrArg (x_iaload) ((xe_if_icmp .lt 42).trans (congrArg (x_if_icmp .lt 42 K) ((xe_iconst 1).trans (congrArg (x_iconst 1) (xe_goto 43)))))))))))))))))))))))))))))))))))))))))))
theorem bk_X2_hasEnoughListed_42 : ck_ fX2 (some .boolean) cX2_hasEnoughListed 42 [.iconst 0, .ireturn] 44 = true := qck_r (nn_ _) (by decide +kernel)
theorem bs_X2_hasEnoughListed_42 {P : Zt → Option Zv → Prop} (K : Int → Zl → List Zv → Zt → Prop) : sx_ K P [.iconst 0, .ireturn] 44 = x_iconst 0 (x_ireturn P) := ((xe_iconst 0).trans (congrArg (x_iconst 0) (xe_ireturn)))
theorem bk_X2_hasEnoughListed_43 : ck_ fX2 (some .boolean) cX2_hasEnoughListed 43 [.ireturn] 44 = true := qck_r (nn_ _) (by decide +kernel)
theorem bs_X2_hasEnoughListed_43 {P : Zt → Option Zv → Prop} (K : Int → Zl → List Zv → Zt → Prop) : sx_ K P [.ireturn] 44 = x_ireturn P := (xe_ireturn)
abbrev po_X2_hasEnoughListed (T : Zt) (p : Int) : Zt → Option Zv → Prop := fun T' r => T = T' ∧ ∃ x : Int, r = some (vI x) ∧ (0 ≤ x ∧ x ≤ 1)
set_option maxHeartbeats 4000000 in
theorem ct_X2_hasEnoughListed {T : Zt} {p : Int} : Ct_ yX2_hasEnoughListed zX2_hasEnoughListed T [vR 102 p] (po_X2_hasEnoughListed T p) := by
  refine ct_of pn_2 rfl rfl (Nat.le_of_ble_eq_true rfl) (fun hT hav => ?_)
  have hz : zX2_hasEnoughListed.2.2.2.1 = some .boolean → ∀ (T' : Zt) (x : Int), po_X2_hasEnoughListed T p T' (some (vI x)) → 0 ≤ x ∧ x ≤ 1 := fun _ T' x h => by obtain ⟨-, y, e, hy⟩ := h; cases e; omega
  show J_ zX2_hasEnoughListed T (po_X2_hasEnoughListed T p) 0 0 0 [some (vR 102 p)] [] T
  refine j_blx (F := fX2) tb_X2 (nn_ _) bk_X2_hasEnoughListed_0 bs_X2_hasEnoughListed_0 hz (fun K hK => ?_)
  refine ix_i (by omega) ?_
  intro b1 b1b
  refine ix_i (by omega) ?_
  intro b3 b3b
  refine And.intro (fun c4 => ?_) (fun c4 => ?_)
  · refine hK 42 _ [] T ?_
    refine j_blx (F := fX2) tb_X2 (nn_ _) bk_X2_hasEnoughListed_42 bs_X2_hasEnoughListed_42 hz (fun K hK => ?_)
    refine (show po_X2_hasEnoughListed T p T (some (vI 0)) from ?_)
    exact ⟨rfl, _, rfl, by omega⟩
  · refine ix_i (by omega) ?_
    intro b5 b5b
    refine ix_i (by omega) ?_
    intro b7 b7b
    refine And.intro (fun c8 => ?_) (fun c8 => ?_)
    · refine hK 42 _ [] T ?_
      refine j_blx (F := fX2) tb_X2 (nn_ _) bk_X2_hasEnoughListed_42 bs_X2_hasEnoughListed_42 hz (fun K hK => ?_)
      refine (show po_X2_hasEnoughListed T p T (some (vI 0)) from ?_)
      exact ⟨rfl, _, rfl, by omega⟩
    · refine hK 43 _ [vI 1] T ?_
      refine j_blx (F := fX2) tb_X2 (nn_ _) bk_X2_hasEnoughListed_43 bs_X2_hasEnoughListed_43 hz (fun K hK => ?_)
      refine (show po_X2_hasEnoughListed T p T (some (vI 1)) from ?_)
      exact ⟨rfl, _, rfl, by omega⟩
abbrev cX2_rest : ByteArray := prog_4_method_7_code
def yX2_rest : MethodName := ⟨RX2, "rest", "()I"⟩
def zX2_rest : Zm := (RX2, cX2_rest, 1, (some .int), { frames := 0, cells := 0, slots := 0, locals := 0 })
theorem bk_X2_rest_0 : ck_ fX2 (some .int) cX2_rest 0 [.aload 0, .tableswitch 0 2 0 #[], .tableswitch 0 0 1 #[], .iconst 8, .iaload, .ireturn] 11 = true := qck_r (nn_ _) (by decide +kernel)
theorem bs_X2_rest_0 {P : Zt → Option Zv → Prop} (K : Int → Zl → List Zv → Zt → Prop) : sx_ K P [.aload 0, .tableswitch 0 2 0 #[], .tableswitch 0 0 1 #[], .iconst 8, .iaload, .ireturn] 11 = x_aload 0 (x_g3 102 100 0 (x_g2 100 401 (x_iconst 8 (x_iaload (x_ireturn P))))) := ((xe_aload 0).trans (congrArg (x_aload 0) ((xe_g3 (kk := 102) rfl tl_2_0).trans (congrArg (x_g3 102 100 0) ((xe_g2 (kk := 100) rfl tl_0_1).trans (congrArg (x_g2 100 401) ((xe_iconst 8).trans (congrArg (x_iconst 8) ((xe_iaload).trans (congrArg (x_iaload) (xe_ireturn)))))))))))
abbrev po_X2_rest (T : Zt) (p : Int) : Zt → Option Zv → Prop := fun T' r => T = T' ∧ ∃ x : Int, r = some (vI x) ∧ (0 ≤ x ∧ x ≤ 999)
set_option maxHeartbeats 4000000 in
theorem ct_X2_rest {T : Zt} {p : Int} : Ct_ yX2_rest zX2_rest T [vR 102 p] (po_X2_rest T p) := by
  refine ct_of pn_2 rfl rfl (Nat.le_of_ble_eq_true rfl) (fun hT hav => ?_)
  have hz : zX2_rest.2.2.2.1 = some .boolean → ∀ (T' : Zt) (x : Int), po_X2_rest T p T' (some (vI x)) → 0 ≤ x ∧ x ≤ 1 := fun h => by cases h
  show J_ zX2_rest T (po_X2_rest T p) 0 0 0 [some (vR 102 p)] [] T
  refine j_blx (F := fX2) tb_X2 (nn_ _) bk_X2_rest_0 bs_X2_rest_0 hz (fun K hK => ?_)
  refine ix_i (by omega) ?_
  intro b2 b2b
  refine (show po_X2_rest T p T (some (vI (T 401 (T 102 p 0) 8))) from ?_)
  exact ⟨rfl, _, rfl, by omega⟩
abbrev cX2_placeOf : ByteArray := prog_4_method_8_code
def yX2_placeOf : MethodName := ⟨RX2, "placeOf", "(I)I"⟩
def zX2_placeOf : Zm := (RX2, cX2_placeOf, 4, (some .int), { frames := 0, cells := 0, slots := 0, locals := 0 })
theorem bk_X2_placeOf_9 : ck_ fX2 (some .int) cX2_placeOf 9 [.iload 3, .aload 0, .tableswitch 0 2 9 #[], .iload 2, .iaload, .if_icmp .ge 47, .aload 0, .tableswitch 0 2 8 #[], .iload 2, .iconst 10, .imul, .iload 3, .iadd, .iaload, .iload 1, .if_icmp .ne 41, .iload 2, .iconst 10, .imul, .iload 3, .iadd, .ireturn] 41 = true := qck_r (nn_ _) (by decide +kernel)
theorem bs_X2_placeOf_9 {P : Zt → Option Zv → Prop} (K : Int → Zl → List Zv → Zt → Prop) : sx_ K P [.iload 3, .aload 0, .tableswitch 0 2 9 #[], .iload 2, .iaload, .if_icmp .ge 47, .aload 0, .tableswitch 0 2 8 #[], .iload 2, .iconst 10, .imul, .iload 3, .iadd, .iaload, .iload 1, .if_icmp .ne 41, .iload 2, .iconst 10, .imul, .iload 3, .iadd, .ireturn] 41 = x_iload 3 (x_aload 0 (x_g2 102 449 (x_iload 2 (x_iaload (x_if_icmp .ge 47 K (x_aload 0 (x_g2 102 448 (x_iload 2 (x_iconst 10 (x_imul (x_iload 3 (x_iadd (x_iaload (x_iload 1 (x_if_icmp .ne 41 K (x_iload 2 (x_iconst 10 (x_imul (x_iload 3 (x_iadd (x_ireturn P))))))))))))))))))))) := ((xe_iload 3).trans (congrArg (x_iload 3) ((xe_aload 0).trans (congrArg (x_aload 0) ((xe_g2 (kk := 102) rfl tl_2_9).trans (congrArg (x_g2 102 449) ((xe_iload 2).trans (congrArg (x_iload 2) ((xe_iaload).trans (congrArg (x_iaload) ((xe_if_icmp .ge 47).trans (congrArg (x_if_icmp .ge 47 K) ((xe_aload 0).trans (congrArg (x_aload 0) ((xe_g2 (kk := 102) rfl tl_2_8).trans (congrArg (x_g2 102 448) ((xe_iload 2).trans (congrArg (x_iload 2) ((xe_iconst 10).trans (congrArg (x_iconst 10) ((xe_imul).trans (congrArg (x_imul) ((xe_iload 3).trans (congrArg (x_iload 3) ((xe_iadd).trans (congrArg (x_iadd) ((xe_iaload).trans (congrArg (x_iaload) ((xe_iload 1).trans (congrArg (x_iload 1) ((xe_if_icmp .ne 41).trans (congrArg (x_if_icmp .ne 41 K) ((xe_iload 2).trans (congrArg (x_iload 2) ((xe_iconst 10).trans (congrArg (x_iconst 10) ((xe_imul).trans (congrArg (x_imul) ((xe_iload 3).trans (congrArg (x_iload 3) ((xe_iadd).trans (congrArg (x_iadd) (xe_ireturn)))))))))))))))))))))))))))))))))))))))))))
theorem bk_X2_placeOf_47 : ck_ fX2 (some .int) cX2_placeOf 47 [.iinc 2 1, .goto 2] 53 = true := qck_r (nn_ _) (by decide +kernel)
theorem bs_X2_placeOf_47 {P : Zt → Option Zv → Prop} (K : Int → Zl → List Zv → Zt → Prop) : sx_ K P [.iinc 2 1, .goto 2] 53 = x_iinc 2 1 (x_goto 2 K) := ((xe_iinc 2 1).trans (congrArg (x_iinc 2 1) (xe_goto 2)))
theorem bk_X2_placeOf_41 : ck_ fX2 (some .int) cX2_placeOf 41 [.iinc 3 1, .goto 9] 47 = true := qck_r (nn_ _) (by decide +kernel)
theorem bs_X2_placeOf_41 {P : Zt → Option Zv → Prop} (K : Int → Zl → List Zv → Zt → Prop) : sx_ K P [.iinc 3 1, .goto 9] 47 = x_iinc 3 1 (x_goto 9 K) := ((xe_iinc 3 1).trans (congrArg (x_iinc 3 1) (xe_goto 9)))
theorem bk_X2_placeOf_2 : ck_ fX2 (some .int) cX2_placeOf 2 [.iload 2, .iconst 2, .if_icmp .ge 53, .iconst 0, .istore 3] 9 = true := qck_r (nn_ _) (by decide +kernel)
theorem bs_X2_placeOf_2 {P : Zt → Option Zv → Prop} (K : Int → Zl → List Zv → Zt → Prop) : sx_ K P [.iload 2, .iconst 2, .if_icmp .ge 53, .iconst 0, .istore 3] 9 = x_iload 2 (x_iconst 2 (x_if_icmp .ge 53 K (x_iconst 0 (x_istore 3 (K 9))))) := ((xe_iload 2).trans (congrArg (x_iload 2) ((xe_iconst 2).trans (congrArg (x_iconst 2) ((xe_if_icmp .ge 53).trans (congrArg (x_if_icmp .ge 53 K) ((xe_iconst 0).trans (congrArg (x_iconst 0) ((xe_istore 3).trans (congrArg (x_istore 3) xe_nil))))))))))
theorem bk_X2_placeOf_53 : ck_ fX2 (some .int) cX2_placeOf 53 [.iconst (-1), .ireturn] 55 = true := qck_r (nn_ _) (by decide +kernel)
theorem bs_X2_placeOf_53 {P : Zt → Option Zv → Prop} (K : Int → Zl → List Zv → Zt → Prop) : sx_ K P [.iconst (-1), .ireturn] 55 = x_iconst (-1) (x_ireturn P) := ((xe_iconst (-1)).trans (congrArg (x_iconst (-1)) (xe_ireturn)))
theorem bk_X2_placeOf_0 : ck_ fX2 (some .int) cX2_placeOf 0 [.iconst 0, .istore 2] 2 = true := qck_r (nn_ _) (by decide +kernel)
theorem bs_X2_placeOf_0 {P : Zt → Option Zv → Prop} (K : Int → Zl → List Zv → Zt → Prop) : sx_ K P [.iconst 0, .istore 2] 2 = x_iconst 0 (x_istore 2 (K 2)) := ((xe_iconst 0).trans (congrArg (x_iconst 0) ((xe_istore 2).trans (congrArg (x_istore 2) xe_nil))))
abbrev po_X2_placeOf (T : Zt) (p : Int) (q : Int) : Zt → Option Zv → Prop := fun T' r => T = T' ∧ ∃ x : Int, r = some (vI x) ∧ (-1 ≤ x ∧ x ≤ 19)
set_option maxHeartbeats 4000000 in
theorem ct_X2_placeOf {T : Zt} {p : Int} {q : Int} : Ct_ yX2_placeOf zX2_placeOf T [vR 102 p, vI q] (po_X2_placeOf T p q) := by
  refine ct_of pn_2 rfl rfl (Nat.le_of_ble_eq_true rfl) (fun hT hav => ?_)
  have hr_q : -2147483648 ≤ q ∧ q ≤ 2147483647 := hav (vI q) (by simp)
  have hz : zX2_placeOf.2.2.2.1 = some .boolean → ∀ (T' : Zt) (x : Int), po_X2_placeOf T p q T' (some (vI x)) → 0 ≤ x ∧ x ≤ 1 := fun h => by cases h
  show J_ zX2_placeOf T (po_X2_placeOf T p q) 0 0 0 [some (vR 102 p), some (vI q), none, none] [] T
  have c_2 : ∀ (nn : Nat) (s : Int), ((2 - s).toNat) ≤ nn → (0 ≤ s ∧ s ≤ 2) → J_ zX2_placeOf T (po_X2_placeOf T p q) 0 0 2 [some (vR 102 p), some (vI q), some (vI s), none] [] T := by
    intro nn
    induction nn using Nat.strongRecOn with
    | _ nn ih_2 =>
      intro s hm_2 i1
      have c_9 : ∀ (nn : Nat) (k : Int), ((10 - k).toNat) ≤ nn → (0 ≤ k ∧ s < 2) → J_ zX2_placeOf T (po_X2_placeOf T p q) 0 0 9 [some (vR 102 p), some (vI q), some (vI s), some (vI k)] [] T := by
        intro nn
        induction nn using Nat.strongRecOn with
        | _ nn ih_9 =>
          intro k hm_9 i2
          refine j_blx (F := fX2) tb_X2 (nn_ _) bk_X2_placeOf_9 bs_X2_placeOf_9 hz (fun K hK => ?_)
          refine ix_i (by omega) ?_
          intro b1 b1b
          refine And.intro (fun c2 => ?_) (fun c2 => ?_)
          · refine hK 47 _ [] T ?_
            refine j_blx (F := fX2) tb_X2 (nn_ _) bk_X2_placeOf_47 bs_X2_placeOf_47 hz (fun K hK => ?_)
            refine rg_i (by omega) ?_
            refine hK 2 [some (vR 102 p), some (vI q), some (vI (s + 1)), some (vI k)] [] T ?_
            refine j_drop [some (vR 102 p), some (vI q), some (vI (s + 1)), none] (fun k v hk => ?_) rfl ?_
            · match k, hk with
              | 0, hk => exact hk
              | 1, hk => exact hk
              | 2, hk => exact hk
              | 3, hk => cases hk
              | k + 4, hk => cases hk
            refine ih_2 _ ?_ (s + 1) (Nat.le_refl _) ?_
            · omega
            · omega
          · refine rg_i (by omega) ?_
            refine rg_i (by omega) ?_
            refine ix_i (by omega) ?_
            intro b3 b3b
            refine And.intro (fun c4 => ?_) (fun c4 => ?_)
            · refine hK 41 [some (vR 102 p), some (vI q), some (vI s), some (vI k)] [] T ?_
              refine j_blx (F := fX2) tb_X2 (nn_ _) bk_X2_placeOf_41 bs_X2_placeOf_41 hz (fun K hK => ?_)
              refine rg_i (by omega) ?_
              refine hK 9 [some (vR 102 p), some (vI q), some (vI s), some (vI (k + 1))] [] T ?_
              refine ih_9 _ ?_ (k + 1) (Nat.le_refl _) ?_
              · omega
              · omega
            · refine rg_i (by omega) ?_
              refine rg_i (by omega) ?_
              refine (show po_X2_placeOf T p q T (some (vI ((s * 10) + k))) from ?_)
              exact ⟨rfl, _, rfl, by omega⟩
      refine j_blx (F := fX2) tb_X2 (nn_ _) bk_X2_placeOf_2 bs_X2_placeOf_2 hz (fun K hK => ?_)
      refine And.intro (fun c5 => ?_) (fun c5 => ?_)
      · refine hK 53 _ [] T ?_
        refine j_blx (F := fX2) tb_X2 (nn_ _) bk_X2_placeOf_53 bs_X2_placeOf_53 hz (fun K hK => ?_)
        refine (show po_X2_placeOf T p q T (some (vI (-1))) from ?_)
        exact ⟨rfl, _, rfl, by omega⟩
      · refine hK 9 [some (vR 102 p), some (vI q), some (vI s), some (vI 0)] [] T ?_
        refine c_9 _ 0 (Nat.le_refl _) ?_
        · omega
  refine j_blx (F := fX2) tb_X2 (nn_ _) bk_X2_placeOf_0 bs_X2_placeOf_0 hz (fun K hK => ?_)
  refine hK 2 [some (vR 102 p), some (vI q), some (vI 0), none] [] T ?_
  refine c_2 _ 0 (Nat.le_refl _) ?_
  · omega
abbrev cX3_isSentOff : ByteArray := prog_5_method_4_code
def yX3_isSentOff : MethodName := ⟨RX3, "isSentOff", "(I)Z"⟩
def zX3_isSentOff : Zm := (RX3, cX3_isSentOff, 2, (some .boolean), { frames := 0, cells := 0, slots := 0, locals := 0 })
theorem bk_X3_isSentOff_0 : ck_ fX3 (some .boolean) cX3_isSentOff 0 [.aload 0, .tableswitch 0 3 12 #[], .iload 1, .iaload, .iconst 3, .if_icmp .ne 14, .iconst 1, .goto 15] 14 = true := qck_r (nn_ _) (by decide +kernel)
theorem bs_X3_isSentOff_0 {P : Zt → Option Zv → Prop} (K : Int → Zl → List Zv → Zt → Prop) : sx_ K P [.aload 0, .tableswitch 0 3 12 #[], .iload 1, .iaload, .iconst 3, .if_icmp .ne 14, .iconst 1, .goto 15] 14 = x_aload 0 (x_g2 103 472 (x_iload 1 (x_iaload (x_iconst 3 (x_if_icmp .ne 14 K (x_iconst 1 (x_goto 15 K))))))) := ((xe_aload 0).trans (congrArg (x_aload 0) ((xe_g2 (kk := 103) rfl tl_3_12).trans (congrArg (x_g2 103 472) ((xe_iload 1).trans (congrArg (x_iload 1) ((xe_iaload).trans (congrArg (x_iaload) ((xe_iconst 3).trans (congrArg (x_iconst 3) ((xe_if_icmp .ne 14).trans (congrArg (x_if_icmp .ne 14 K) ((xe_iconst 1).trans (congrArg (x_iconst 1) (xe_goto 15)))))))))))))))
theorem bk_X3_isSentOff_14 : ck_ fX3 (some .boolean) cX3_isSentOff 14 [.iconst 0, .ireturn] 16 = true := qck_r (nn_ _) (by decide +kernel)
theorem bs_X3_isSentOff_14 {P : Zt → Option Zv → Prop} (K : Int → Zl → List Zv → Zt → Prop) : sx_ K P [.iconst 0, .ireturn] 16 = x_iconst 0 (x_ireturn P) := ((xe_iconst 0).trans (congrArg (x_iconst 0) (xe_ireturn)))
theorem bk_X3_isSentOff_15 : ck_ fX3 (some .boolean) cX3_isSentOff 15 [.ireturn] 16 = true := qck_r (nn_ _) (by decide +kernel)
theorem bs_X3_isSentOff_15 {P : Zt → Option Zv → Prop} (K : Int → Zl → List Zv → Zt → Prop) : sx_ K P [.ireturn] 16 = x_ireturn P := (xe_ireturn)
abbrev po_X3_isSentOff (T : Zt) (p : Int) (k : Int) : Zt → Option Zv → Prop := fun T' r => T = T' ∧ ∃ x : Int, r = some (vI x) ∧ (0 ≤ x ∧ x ≤ 1)
set_option maxHeartbeats 4000000 in
theorem ct_X3_isSentOff {T : Zt} {p : Int} {k : Int} (h1 : 0 ≤ k ∧ k < 20) : Ct_ yX3_isSentOff zX3_isSentOff T [vR 103 p, vI k] (po_X3_isSentOff T p k) := by
  refine ct_of pn_3 rfl rfl (Nat.le_of_ble_eq_true rfl) (fun hT hav => ?_)
  have hr_k : -2147483648 ≤ k ∧ k ≤ 2147483647 := hav (vI k) (by simp)
  have hz : zX3_isSentOff.2.2.2.1 = some .boolean → ∀ (T' : Zt) (x : Int), po_X3_isSentOff T p k T' (some (vI x)) → 0 ≤ x ∧ x ≤ 1 := fun _ T' x h => by obtain ⟨-, y, e, hy⟩ := h; cases e; omega
  show J_ zX3_isSentOff T (po_X3_isSentOff T p k) 0 0 0 [some (vR 103 p), some (vI k)] [] T
  refine j_blx (F := fX3) tb_X3 (nn_ _) bk_X3_isSentOff_0 bs_X3_isSentOff_0 hz (fun K hK => ?_)
  refine ix_i (by omega) ?_
  intro b1 b1b
  refine And.intro (fun c2 => ?_) (fun c2 => ?_)
  · refine hK 14 _ [] T ?_
    refine j_blx (F := fX3) tb_X3 (nn_ _) bk_X3_isSentOff_14 bs_X3_isSentOff_14 hz (fun K hK => ?_)
    refine (show po_X3_isSentOff T p k T (some (vI 0)) from ?_)
    exact ⟨rfl, _, rfl, by omega⟩
  · refine hK 15 _ [vI 1] T ?_
    refine j_blx (F := fX3) tb_X3 (nn_ _) bk_X3_isSentOff_15 bs_X3_isSentOff_15 hz (fun K hK => ?_)
    refine (show po_X3_isSentOff T p k T (some (vI 1)) from ?_)
    exact ⟨rfl, _, rfl, by omega⟩
abbrev cX3_personAt : ByteArray := prog_5_method_3_code
def yX3_personAt : MethodName := ⟨RX3, "personAt", "(II)I"⟩
def zX3_personAt : Zm := (RX3, cX3_personAt, 3, (some .int), { frames := 0, cells := 0, slots := 0, locals := 0 })
theorem bk_X3_personAt_0 : ck_ fX3 (some .int) cX3_personAt 0 [.aload 0, .tableswitch 0 3 1 #[], .aload 0, .tableswitch 0 3 11 #[], .iload 1, .iconst 6, .imul, .iload 2, .iadd, .iaload, .iaload, .ireturn] 17 = true := qck_r (nn_ _) (by decide +kernel)
theorem bs_X3_personAt_0 {P : Zt → Option Zv → Prop} (K : Int → Zl → List Zv → Zt → Prop) : sx_ K P [.aload 0, .tableswitch 0 3 1 #[], .aload 0, .tableswitch 0 3 11 #[], .iload 1, .iconst 6, .imul, .iload 2, .iadd, .iaload, .iaload, .ireturn] 17 = x_aload 0 (x_g2 103 448 (x_aload 0 (x_g2 103 471 (x_iload 1 (x_iconst 6 (x_imul (x_iload 2 (x_iadd (x_iaload (x_iaload (x_ireturn P))))))))))) := ((xe_aload 0).trans (congrArg (x_aload 0) ((xe_g2 (kk := 103) rfl tl_3_1).trans (congrArg (x_g2 103 448) ((xe_aload 0).trans (congrArg (x_aload 0) ((xe_g2 (kk := 103) rfl tl_3_11).trans (congrArg (x_g2 103 471) ((xe_iload 1).trans (congrArg (x_iload 1) ((xe_iconst 6).trans (congrArg (x_iconst 6) ((xe_imul).trans (congrArg (x_imul) ((xe_iload 2).trans (congrArg (x_iload 2) ((xe_iadd).trans (congrArg (x_iadd) ((xe_iaload).trans (congrArg (x_iaload) ((xe_iaload).trans (congrArg (x_iaload) (xe_ireturn)))))))))))))))))))))))
abbrev po_X3_personAt (T : Zt) (p : Int) (s k : Int) : Zt → Option Zv → Prop := fun T' r => T = T' ∧ ∃ x : Int, r = some (vI x) ∧ (0 ≤ x ∧ x ≤ 199)
set_option maxHeartbeats 4000000 in
theorem ct_X3_personAt {T : Zt} {p : Int} {s k : Int} (hs : 0 ≤ s ∧ s ≤ 1) (h1 : 0 ≤ k ∧ k < 6) : Ct_ yX3_personAt zX3_personAt T [vR 103 p, vI s, vI k] (po_X3_personAt T p s k) := by
  refine ct_of pn_3 rfl rfl (Nat.le_of_ble_eq_true rfl) (fun hT hav => ?_)
  have hr_s : -2147483648 ≤ s ∧ s ≤ 2147483647 := hav (vI s) (by simp)
  have hr_k : -2147483648 ≤ k ∧ k ≤ 2147483647 := hav (vI k) (by simp)
  have hz : zX3_personAt.2.2.2.1 = some .boolean → ∀ (T' : Zt) (x : Int), po_X3_personAt T p s k T' (some (vI x)) → 0 ≤ x ∧ x ≤ 1 := fun h => by cases h
  show J_ zX3_personAt T (po_X3_personAt T p s k) 0 0 0 [some (vR 103 p), some (vI s), some (vI k)] [] T
  refine j_blx (F := fX3) tb_X3 (nn_ _) bk_X3_personAt_0 bs_X3_personAt_0 hz (fun K hK => ?_)
  refine rg_i (by omega) ?_
  refine rg_i (by omega) ?_
  refine ix_i (by omega) ?_
  intro b1 b1b
  refine ix_i (by omega) ?_
  intro b2 b2b
  refine (show po_X3_personAt T p s k T (some (vI (T 448 p (T 471 p ((s * 6) + k))))) from ?_)
  exact ⟨rfl, _, rfl, by omega⟩
abbrev cX3_isBounded : ByteArray := prog_5_method_7_code
def yX3_isBounded : MethodName := ⟨RX3, "isBounded", "(II)Z"⟩
def zX3_isBounded : Zm := (RX3, cX3_isBounded, 3, (some .boolean), { frames := 0, cells := 0, slots := 0, locals := 0 })
theorem bk_X3_isBounded_0 : ck_ fX3 (some .boolean) cX3_isBounded 0 [.aload 0, .tableswitch 0 3 0 #[], .iconst 0, .iaload, .iconst 3, .if_icmp .ne 25, .iload 1, .iconst 1, .if_icmp .ne 25, .iload 2, .iconst 1, .if_icmp .lt 29, .iload 2, .iconst 4, .if_icmp .gt 29, .iconst 1, .goto 30] 29 = true := qck_r (nn_ _) (by decide +kernel)
theorem bs_X3_isBounded_0 {P : Zt → Option Zv → Prop} (K : Int → Zl → List Zv → Zt → Prop) : sx_ K P [.aload 0, .tableswitch 0 3 0 #[], .iconst 0, .iaload, .iconst 3, .if_icmp .ne 25, .iload 1, .iconst 1, .if_icmp .ne 25, .iload 2, .iconst 1, .if_icmp .lt 29, .iload 2, .iconst 4, .if_icmp .gt 29, .iconst 1, .goto 30] 29 = x_aload 0 (x_g3 103 401 0 (x_iconst 0 (x_iaload (x_iconst 3 (x_if_icmp .ne 25 K (x_iload 1 (x_iconst 1 (x_if_icmp .ne 25 K (x_iload 2 (x_iconst 1 (x_if_icmp .lt 29 K (x_iload 2 (x_iconst 4 (x_if_icmp .gt 29 K (x_iconst 1 (x_goto 30 K)))))))))))))))) := ((xe_aload 0).trans (congrArg (x_aload 0) ((xe_g3 (kk := 103) rfl tl_3_0).trans (congrArg (x_g3 103 401 0) ((xe_iconst 0).trans (congrArg (x_iconst 0) ((xe_iaload).trans (congrArg (x_iaload) ((xe_iconst 3).trans (congrArg (x_iconst 3) ((xe_if_icmp .ne 25).trans (congrArg (x_if_icmp .ne 25 K) ((xe_iload 1).trans (congrArg (x_iload 1) ((xe_iconst 1).trans (congrArg (x_iconst 1) ((xe_if_icmp .ne 25).trans (congrArg (x_if_icmp .ne 25 K) ((xe_iload 2).trans (congrArg (x_iload 2) ((xe_iconst 1).trans (congrArg (x_iconst 1) ((xe_if_icmp .lt 29).trans (congrArg (x_if_icmp .lt 29 K) ((xe_iload 2).trans (congrArg (x_iload 2) ((xe_iconst 4).trans (congrArg (x_iconst 4) ((xe_if_icmp .gt 29).trans (congrArg (x_if_icmp .gt 29 K) ((xe_iconst 1).trans (congrArg (x_iconst 1) (xe_goto 30)))))))))))))))))))))))))))))))))
theorem bk_X3_isBounded_25 : ck_ fX3 (some .boolean) cX3_isBounded 25 [.iconst 1, .goto 30] 29 = true := qck_r (nn_ _) (by decide +kernel)
theorem bs_X3_isBounded_25 {P : Zt → Option Zv → Prop} (K : Int → Zl → List Zv → Zt → Prop) : sx_ K P [.iconst 1, .goto 30] 29 = x_iconst 1 (x_goto 30 K) := ((xe_iconst 1).trans (congrArg (x_iconst 1) (xe_goto 30)))
theorem bk_X3_isBounded_30 : ck_ fX3 (some .boolean) cX3_isBounded 30 [.ireturn] 31 = true := qck_r (nn_ _) (by decide +kernel)
theorem bs_X3_isBounded_30 {P : Zt → Option Zv → Prop} (K : Int → Zl → List Zv → Zt → Prop) : sx_ K P [.ireturn] 31 = x_ireturn P := (xe_ireturn)
theorem bk_X3_isBounded_29 : ck_ fX3 (some .boolean) cX3_isBounded 29 [.iconst 0, .ireturn] 31 = true := qck_r (nn_ _) (by decide +kernel)
theorem bs_X3_isBounded_29 {P : Zt → Option Zv → Prop} (K : Int → Zl → List Zv → Zt → Prop) : sx_ K P [.iconst 0, .ireturn] 31 = x_iconst 0 (x_ireturn P) := ((xe_iconst 0).trans (congrArg (x_iconst 0) (xe_ireturn)))
abbrev po_X3_isBounded (T : Zt) (p : Int) (k q : Int) : Zt → Option Zv → Prop := fun T' r => T = T' ∧ ∃ x : Int, r = some (vI x) ∧ (0 ≤ x ∧ x ≤ 1)
set_option maxHeartbeats 4000000 in
theorem ct_X3_isBounded {T : Zt} {p : Int} {k q : Int} : Ct_ yX3_isBounded zX3_isBounded T [vR 103 p, vI k, vI q] (po_X3_isBounded T p k q) := by
  refine ct_of pn_3 rfl rfl (Nat.le_of_ble_eq_true rfl) (fun hT hav => ?_)
  have hr_k : -2147483648 ≤ k ∧ k ≤ 2147483647 := hav (vI k) (by simp)
  have hr_q : -2147483648 ≤ q ∧ q ≤ 2147483647 := hav (vI q) (by simp)
  have hz : zX3_isBounded.2.2.2.1 = some .boolean → ∀ (T' : Zt) (x : Int), po_X3_isBounded T p k q T' (some (vI x)) → 0 ≤ x ∧ x ≤ 1 := fun _ T' x h => by obtain ⟨-, y, e, hy⟩ := h; cases e; omega
  show J_ zX3_isBounded T (po_X3_isBounded T p k q) 0 0 0 [some (vR 103 p), some (vI k), some (vI q)] [] T
  refine j_blx (F := fX3) tb_X3 (nn_ _) bk_X3_isBounded_0 bs_X3_isBounded_0 hz (fun K hK => ?_)
  refine ix_i (by omega) ?_
  intro b2 b2b
  refine And.intro (fun c3 => ?_) (fun c3 => ?_)
  · refine hK 25 _ [] T ?_
    refine j_blx (F := fX3) tb_X3 (nn_ _) bk_X3_isBounded_25 bs_X3_isBounded_25 hz (fun K hK => ?_)
    refine hK 30 _ [vI 1] T ?_
    refine j_blx (F := fX3) tb_X3 (nn_ _) bk_X3_isBounded_30 bs_X3_isBounded_30 hz (fun K hK => ?_)
    refine (show po_X3_isBounded T p k q T (some (vI 1)) from ?_)
    exact ⟨rfl, _, rfl, by omega⟩
  · refine And.intro (fun c4 => ?_) (fun c4 => ?_)
    · refine hK 25 _ [] T ?_
      refine j_blx (F := fX3) tb_X3 (nn_ _) bk_X3_isBounded_25 bs_X3_isBounded_25 hz (fun K hK => ?_)
      refine hK 30 _ [vI 1] T ?_
      refine j_blx (F := fX3) tb_X3 (nn_ _) bk_X3_isBounded_30 bs_X3_isBounded_30 hz (fun K hK => ?_)
      refine (show po_X3_isBounded T p k q T (some (vI 1)) from ?_)
      exact ⟨rfl, _, rfl, by omega⟩
    · refine And.intro (fun c5 => ?_) (fun c5 => ?_)
      · refine hK 29 _ [] T ?_
        refine j_blx (F := fX3) tb_X3 (nn_ _) bk_X3_isBounded_29 bs_X3_isBounded_29 hz (fun K hK => ?_)
        refine (show po_X3_isBounded T p k q T (some (vI 0)) from ?_)
        exact ⟨rfl, _, rfl, by omega⟩
      · refine And.intro (fun c6 => ?_) (fun c6 => ?_)
        · refine hK 29 _ [] T ?_
          refine j_blx (F := fX3) tb_X3 (nn_ _) bk_X3_isBounded_29 bs_X3_isBounded_29 hz (fun K hK => ?_)
          refine (show po_X3_isBounded T p k q T (some (vI 0)) from ?_)
          exact ⟨rfl, _, rfl, by omega⟩
        · refine hK 30 _ [vI 1] T ?_
          refine j_blx (F := fX3) tb_X3 (nn_ _) bk_X3_isBounded_30 bs_X3_isBounded_30 hz (fun K hK => ?_)
          refine (show po_X3_isBounded T p k q T (some (vI 1)) from ?_)
          exact ⟨rfl, _, rfl, by omega⟩
abbrev cX3_isAllowed : ByteArray := prog_5_method_8_code
def yX3_isAllowed : MethodName := ⟨RX3, "isAllowed", "(II)Z"⟩
def zX3_isAllowed : Zm := (RX3, cX3_isAllowed, 3, (some .boolean), { frames := 0, cells := 0, slots := 0, locals := 0 })
theorem bk_X3_isAllowed_0 : ck_ fX3 (some .boolean) cX3_isAllowed 0 [.aload 0, .tableswitch 0 3 0 #[], .iconst 0, .iaload, .ifCond .ne 33, .aload 0, .tableswitch 0 3 4 #[], .iconst 1, .if_icmp .ne 27, .iload 1, .iconst 1, .if_icmp .eq 31, .iload 1, .iconst 2, .if_icmp .eq 31, .iconst 1, .goto 32] 31 = true := qck_r (nn_ _) (by decide +kernel)
theorem bs_X3_isAllowed_0 {P : Zt → Option Zv → Prop} (K : Int → Zl → List Zv → Zt → Prop) : sx_ K P [.aload 0, .tableswitch 0 3 0 #[], .iconst 0, .iaload, .ifCond .ne 33, .aload 0, .tableswitch 0 3 4 #[], .iconst 1, .if_icmp .ne 27, .iload 1, .iconst 1, .if_icmp .eq 31, .iload 1, .iconst 2, .if_icmp .eq 31, .iconst 1, .goto 32] 31 = x_aload 0 (x_g3 103 401 0 (x_iconst 0 (x_iaload (x_ifCond .ne 33 K (x_aload 0 (x_g0 103 4 (-2147483648) 2147483647 (x_iconst 1 (x_if_icmp .ne 27 K (x_iload 1 (x_iconst 1 (x_if_icmp .eq 31 K (x_iload 1 (x_iconst 2 (x_if_icmp .eq 31 K (x_iconst 1 (x_goto 32 K)))))))))))))))) := ((xe_aload 0).trans (congrArg (x_aload 0) ((xe_g3 (kk := 103) rfl tl_3_0).trans (congrArg (x_g3 103 401 0) ((xe_iconst 0).trans (congrArg (x_iconst 0) ((xe_iaload).trans (congrArg (x_iaload) ((xe_ifCond .ne 33).trans (congrArg (x_ifCond .ne 33 K) ((xe_aload 0).trans (congrArg (x_aload 0) ((xe_g0 (kk := 103) rfl tl_3_4).trans (congrArg (x_g0 103 4 (-2147483648) 2147483647) ((xe_iconst 1).trans (congrArg (x_iconst 1) ((xe_if_icmp .ne 27).trans (congrArg (x_if_icmp .ne 27 K) ((xe_iload 1).trans (congrArg (x_iload 1) ((xe_iconst 1).trans (congrArg (x_iconst 1) ((xe_if_icmp .eq 31).trans (congrArg (x_if_icmp .eq 31 K) ((xe_iload 1).trans (congrArg (x_iload 1) ((xe_iconst 2).trans (congrArg (x_iconst 2) ((xe_if_icmp .eq 31).trans (congrArg (x_if_icmp .eq 31 K) ((xe_iconst 1).trans (congrArg (x_iconst 1) (xe_goto 32)))))))))))))))))))))))))))))))))
theorem bk_X3_isAllowed_33 : ck_ fX3 (some .boolean) cX3_isAllowed 33 [.aload 0, .tableswitch 0 3 0 #[], .iconst 0, .iaload, .iconst 3, .if_icmp .ne 51, .iload 2, .aload 0, .tableswitch 0 3 5 #[], .if_icmp .ne 55, .iconst 1, .goto 56] 55 = true := qck_r (nn_ _) (by decide +kernel)
theorem bs_X3_isAllowed_33 {P : Zt → Option Zv → Prop} (K : Int → Zl → List Zv → Zt → Prop) : sx_ K P [.aload 0, .tableswitch 0 3 0 #[], .iconst 0, .iaload, .iconst 3, .if_icmp .ne 51, .iload 2, .aload 0, .tableswitch 0 3 5 #[], .if_icmp .ne 55, .iconst 1, .goto 56] 55 = x_aload 0 (x_g3 103 401 0 (x_iconst 0 (x_iaload (x_iconst 3 (x_if_icmp .ne 51 K (x_iload 2 (x_aload 0 (x_g0 103 5 0 1 (x_if_icmp .ne 55 K (x_iconst 1 (x_goto 56 K))))))))))) := ((xe_aload 0).trans (congrArg (x_aload 0) ((xe_g3 (kk := 103) rfl tl_3_0).trans (congrArg (x_g3 103 401 0) ((xe_iconst 0).trans (congrArg (x_iconst 0) ((xe_iaload).trans (congrArg (x_iaload) ((xe_iconst 3).trans (congrArg (x_iconst 3) ((xe_if_icmp .ne 51).trans (congrArg (x_if_icmp .ne 51 K) ((xe_iload 2).trans (congrArg (x_iload 2) ((xe_aload 0).trans (congrArg (x_aload 0) ((xe_g0 (kk := 103) rfl tl_3_5).trans (congrArg (x_g0 103 5 0 1) ((xe_if_icmp .ne 55).trans (congrArg (x_if_icmp .ne 55 K) ((xe_iconst 1).trans (congrArg (x_iconst 1) (xe_goto 56)))))))))))))))))))))))
theorem bk_X3_isAllowed_51 : ck_ fX3 (some .boolean) cX3_isAllowed 51 [.iconst 1, .goto 56] 55 = true := qck_r (nn_ _) (by decide +kernel)
theorem bs_X3_isAllowed_51 {P : Zt → Option Zv → Prop} (K : Int → Zl → List Zv → Zt → Prop) : sx_ K P [.iconst 1, .goto 56] 55 = x_iconst 1 (x_goto 56 K) := ((xe_iconst 1).trans (congrArg (x_iconst 1) (xe_goto 56)))
theorem bk_X3_isAllowed_56 : ck_ fX3 (some .boolean) cX3_isAllowed 56 [.ireturn] 57 = true := qck_r (nn_ _) (by decide +kernel)
theorem bs_X3_isAllowed_56 {P : Zt → Option Zv → Prop} (K : Int → Zl → List Zv → Zt → Prop) : sx_ K P [.ireturn] 57 = x_ireturn P := (xe_ireturn)
theorem bk_X3_isAllowed_55 : ck_ fX3 (some .boolean) cX3_isAllowed 55 [.iconst 0, .ireturn] 57 = true := qck_r (nn_ _) (by decide +kernel)
theorem bs_X3_isAllowed_55 {P : Zt → Option Zv → Prop} (K : Int → Zl → List Zv → Zt → Prop) : sx_ K P [.iconst 0, .ireturn] 57 = x_iconst 0 (x_ireturn P) := ((xe_iconst 0).trans (congrArg (x_iconst 0) (xe_ireturn)))
theorem bk_X3_isAllowed_27 : ck_ fX3 (some .boolean) cX3_isAllowed 27 [.iconst 1, .goto 32] 31 = true := qck_r (nn_ _) (by decide +kernel)
theorem bs_X3_isAllowed_27 {P : Zt → Option Zv → Prop} (K : Int → Zl → List Zv → Zt → Prop) : sx_ K P [.iconst 1, .goto 32] 31 = x_iconst 1 (x_goto 32 K) := ((xe_iconst 1).trans (congrArg (x_iconst 1) (xe_goto 32)))
theorem bk_X3_isAllowed_32 : ck_ fX3 (some .boolean) cX3_isAllowed 32 [.ireturn] 33 = true := qck_r (nn_ _) (by decide +kernel)
theorem bs_X3_isAllowed_32 {P : Zt → Option Zv → Prop} (K : Int → Zl → List Zv → Zt → Prop) : sx_ K P [.ireturn] 33 = x_ireturn P := (xe_ireturn)
theorem bk_X3_isAllowed_31 : ck_ fX3 (some .boolean) cX3_isAllowed 31 [.iconst 0, .ireturn] 33 = true := qck_r (nn_ _) (by decide +kernel)
theorem bs_X3_isAllowed_31 {P : Zt → Option Zv → Prop} (K : Int → Zl → List Zv → Zt → Prop) : sx_ K P [.iconst 0, .ireturn] 33 = x_iconst 0 (x_ireturn P) := ((xe_iconst 0).trans (congrArg (x_iconst 0) (xe_ireturn)))
abbrev po_X3_isAllowed (T : Zt) (p : Int) (k s : Int) : Zt → Option Zv → Prop := fun T' r => T = T' ∧ ∃ x : Int, r = some (vI x) ∧ (0 ≤ x ∧ x ≤ 1)
set_option maxHeartbeats 4000000 in
theorem ct_X3_isAllowed {T : Zt} {p : Int} {k s : Int} : Ct_ yX3_isAllowed zX3_isAllowed T [vR 103 p, vI k, vI s] (po_X3_isAllowed T p k s) := by
  refine ct_of pn_3 rfl rfl (Nat.le_of_ble_eq_true rfl) (fun hT hav => ?_)
  have hr_k : -2147483648 ≤ k ∧ k ≤ 2147483647 := hav (vI k) (by simp)
  have hr_s : -2147483648 ≤ s ∧ s ≤ 2147483647 := hav (vI s) (by simp)
  have hz : zX3_isAllowed.2.2.2.1 = some .boolean → ∀ (T' : Zt) (x : Int), po_X3_isAllowed T p k s T' (some (vI x)) → 0 ≤ x ∧ x ≤ 1 := fun _ T' x h => by obtain ⟨-, y, e, hy⟩ := h; cases e; omega
  show J_ zX3_isAllowed T (po_X3_isAllowed T p k s) 0 0 0 [some (vR 103 p), some (vI k), some (vI s)] [] T
  refine j_blx (F := fX3) tb_X3 (nn_ _) bk_X3_isAllowed_0 bs_X3_isAllowed_0 hz (fun K hK => ?_)
  refine ix_i (by omega) ?_
  intro b2 b2b
  refine And.intro (fun c3 => ?_) (fun c3 => ?_)
  · refine hK 33 _ [] T ?_
    refine j_blx (F := fX3) tb_X3 (nn_ _) bk_X3_isAllowed_33 bs_X3_isAllowed_33 hz (fun K hK => ?_)
    refine ix_i (by omega) ?_
    intro b5 b5b
    refine And.intro (fun c6 => ?_) (fun c6 => ?_)
    · refine hK 51 _ [] T ?_
      refine j_blx (F := fX3) tb_X3 (nn_ _) bk_X3_isAllowed_51 bs_X3_isAllowed_51 hz (fun K hK => ?_)
      refine hK 56 _ [vI 1] T ?_
      refine j_blx (F := fX3) tb_X3 (nn_ _) bk_X3_isAllowed_56 bs_X3_isAllowed_56 hz (fun K hK => ?_)
      refine (show po_X3_isAllowed T p k s T (some (vI 1)) from ?_)
      exact ⟨rfl, _, rfl, by omega⟩
    · intro b7 b7b
      refine And.intro (fun c8 => ?_) (fun c8 => ?_)
      · refine hK 55 _ [] T ?_
        refine j_blx (F := fX3) tb_X3 (nn_ _) bk_X3_isAllowed_55 bs_X3_isAllowed_55 hz (fun K hK => ?_)
        refine (show po_X3_isAllowed T p k s T (some (vI 0)) from ?_)
        exact ⟨rfl, _, rfl, by omega⟩
      · refine hK 56 _ [vI 1] T ?_
        refine j_blx (F := fX3) tb_X3 (nn_ _) bk_X3_isAllowed_56 bs_X3_isAllowed_56 hz (fun K hK => ?_)
        refine (show po_X3_isAllowed T p k s T (some (vI 1)) from ?_)
        exact ⟨rfl, _, rfl, by omega⟩
  · intro b9 b9b
    refine And.intro (fun c10 => ?_) (fun c10 => ?_)
    · refine hK 27 _ [] T ?_
      refine j_blx (F := fX3) tb_X3 (nn_ _) bk_X3_isAllowed_27 bs_X3_isAllowed_27 hz (fun K hK => ?_)
      refine hK 32 _ [vI 1] T ?_
      refine j_blx (F := fX3) tb_X3 (nn_ _) bk_X3_isAllowed_32 bs_X3_isAllowed_32 hz (fun K hK => ?_)
      refine (show po_X3_isAllowed T p k s T (some (vI 1)) from ?_)
      exact ⟨rfl, _, rfl, by omega⟩
    · refine And.intro (fun c11 => ?_) (fun c11 => ?_)
      · refine hK 31 _ [] T ?_
        refine j_blx (F := fX3) tb_X3 (nn_ _) bk_X3_isAllowed_31 bs_X3_isAllowed_31 hz (fun K hK => ?_)
        refine (show po_X3_isAllowed T p k s T (some (vI 0)) from ?_)
        exact ⟨rfl, _, rfl, by omega⟩
      · refine And.intro (fun c12 => ?_) (fun c12 => ?_)
        · refine hK 31 _ [] T ?_
          refine j_blx (F := fX3) tb_X3 (nn_ _) bk_X3_isAllowed_31 bs_X3_isAllowed_31 hz (fun K hK => ?_)
          refine (show po_X3_isAllowed T p k s T (some (vI 0)) from ?_)
          exact ⟨rfl, _, rfl, by omega⟩
        · refine hK 32 _ [vI 1] T ?_
          refine j_blx (F := fX3) tb_X3 (nn_ _) bk_X3_isAllowed_32 bs_X3_isAllowed_32 hz (fun K hK => ?_)
          refine (show po_X3_isAllowed T p k s T (some (vI 1)) from ?_)
          exact ⟨rfl, _, rfl, by omega⟩
abbrev cX3_needsPerson : ByteArray := prog_5_method_9_code
def yX3_needsPerson : MethodName := ⟨RX3, "needsPerson", "(I)Z"⟩
def zX3_needsPerson : Zm := (RX3, cX3_needsPerson, 2, (some .boolean), { frames := 0, cells := 0, slots := 0, locals := 0 })
theorem bk_X3_needsPerson_0 : ck_ fX3 (some .boolean) cX3_needsPerson 0 [.iload 1, .iconst 5, .if_icmp .eq 18, .aload 0, .tableswitch 0 3 0 #[], .iconst 0, .iaload, .ifCond .ne 22, .iload 1, .ifCond .eq 22, .iconst 1, .goto 23] 22 = true := qck_r (nn_ _) (by decide +kernel)
theorem bs_X3_needsPerson_0 {P : Zt → Option Zv → Prop} (K : Int → Zl → List Zv → Zt → Prop) : sx_ K P [.iload 1, .iconst 5, .if_icmp .eq 18, .aload 0, .tableswitch 0 3 0 #[], .iconst 0, .iaload, .ifCond .ne 22, .iload 1, .ifCond .eq 22, .iconst 1, .goto 23] 22 = x_iload 1 (x_iconst 5 (x_if_icmp .eq 18 K (x_aload 0 (x_g3 103 401 0 (x_iconst 0 (x_iaload (x_ifCond .ne 22 K (x_iload 1 (x_ifCond .eq 22 K (x_iconst 1 (x_goto 23 K))))))))))) := ((xe_iload 1).trans (congrArg (x_iload 1) ((xe_iconst 5).trans (congrArg (x_iconst 5) ((xe_if_icmp .eq 18).trans (congrArg (x_if_icmp .eq 18 K) ((xe_aload 0).trans (congrArg (x_aload 0) ((xe_g3 (kk := 103) rfl tl_3_0).trans (congrArg (x_g3 103 401 0) ((xe_iconst 0).trans (congrArg (x_iconst 0) ((xe_iaload).trans (congrArg (x_iaload) ((xe_ifCond .ne 22).trans (congrArg (x_ifCond .ne 22 K) ((xe_iload 1).trans (congrArg (x_iload 1) ((xe_ifCond .eq 22).trans (congrArg (x_ifCond .eq 22 K) ((xe_iconst 1).trans (congrArg (x_iconst 1) (xe_goto 23)))))))))))))))))))))))
theorem bk_X3_needsPerson_18 : ck_ fX3 (some .boolean) cX3_needsPerson 18 [.iconst 1, .goto 23] 22 = true := qck_r (nn_ _) (by decide +kernel)
theorem bs_X3_needsPerson_18 {P : Zt → Option Zv → Prop} (K : Int → Zl → List Zv → Zt → Prop) : sx_ K P [.iconst 1, .goto 23] 22 = x_iconst 1 (x_goto 23 K) := ((xe_iconst 1).trans (congrArg (x_iconst 1) (xe_goto 23)))
theorem bk_X3_needsPerson_23 : ck_ fX3 (some .boolean) cX3_needsPerson 23 [.ireturn] 24 = true := qck_r (nn_ _) (by decide +kernel)
theorem bs_X3_needsPerson_23 {P : Zt → Option Zv → Prop} (K : Int → Zl → List Zv → Zt → Prop) : sx_ K P [.ireturn] 24 = x_ireturn P := (xe_ireturn)
theorem bk_X3_needsPerson_22 : ck_ fX3 (some .boolean) cX3_needsPerson 22 [.iconst 0, .ireturn] 24 = true := qck_r (nn_ _) (by decide +kernel)
theorem bs_X3_needsPerson_22 {P : Zt → Option Zv → Prop} (K : Int → Zl → List Zv → Zt → Prop) : sx_ K P [.iconst 0, .ireturn] 24 = x_iconst 0 (x_ireturn P) := ((xe_iconst 0).trans (congrArg (x_iconst 0) (xe_ireturn)))
abbrev cX3_fieldPlace : ByteArray := prog_5_method_10_code
def yX3_fieldPlace : MethodName := ⟨RX3, "fieldPlace", "(II)I"⟩
def zX3_fieldPlace : Zm := (RX3, cX3_fieldPlace, 4, (some .int), { frames := 1, cells := 0, slots := 0, locals := 22 })
theorem bk_X3_fieldPlace_2 : ck_ fX3 (some .int) cX3_fieldPlace 2 [.iload 3, .aload 0, .tableswitch 0 3 10 #[], .iload 1, .iaload, .if_icmp .ge 30, .aload 0, .iload 1, .iload 3] 15 = true := qck_r (nn_ _) (by decide +kernel)
theorem bs_X3_fieldPlace_2 {P : Zt → Option Zv → Prop} (K : Int → Zl → List Zv → Zt → Prop) : sx_ K P [.iload 3, .aload 0, .tableswitch 0 3 10 #[], .iload 1, .iaload, .if_icmp .ge 30, .aload 0, .iload 1, .iload 3] 15 = x_iload 3 (x_aload 0 (x_g2 103 470 (x_iload 1 (x_iaload (x_if_icmp .ge 30 K (x_aload 0 (x_iload 1 (x_iload 3 (K 15))))))))) := ((xe_iload 3).trans (congrArg (x_iload 3) ((xe_aload 0).trans (congrArg (x_aload 0) ((xe_g2 (kk := 103) rfl tl_3_10).trans (congrArg (x_g2 103 470) ((xe_iload 1).trans (congrArg (x_iload 1) ((xe_iaload).trans (congrArg (x_iaload) ((xe_if_icmp .ge 30).trans (congrArg (x_if_icmp .ge 30 K) ((xe_aload 0).trans (congrArg (x_aload 0) ((xe_iload 1).trans (congrArg (x_iload 1) ((xe_iload 3).trans (congrArg (x_iload 3) xe_nil))))))))))))))))))
theorem bk_X3_fieldPlace_30 : ck_ fX3 (some .int) cX3_fieldPlace 30 [.iconst (-1), .ireturn] 32 = true := qck_r (nn_ _) (by decide +kernel)
theorem bs_X3_fieldPlace_30 {P : Zt → Option Zv → Prop} (K : Int → Zl → List Zv → Zt → Prop) : sx_ K P [.iconst (-1), .ireturn] 32 = x_iconst (-1) (x_ireturn P) := ((xe_iconst (-1)).trans (congrArg (x_iconst (-1)) (xe_ireturn)))
set_option maxRecDepth 100000 in
theorem cl_X3_92 : cv_ RX3 92 yX3_personAt zX3_personAt 3 2 := ⟨gi_V (lw_b5 48 (by decide +kernel) rfl : Cond.methodLink RX3 92 yX3_personAt ∈ lw_g) (lw_b5 49 (by decide +kernel) rfl : Cond.instanceMethod yX3_personAt ∈ lw_g) (lw_b5 50 (by decide +kernel) rfl : Cond.selects yX3_personAt.cls yX3_personAt yX3_personAt ∈ lw_g) (lw_b1 18 (by decide +kernel) rfl : Cond.initialized yX3_personAt.cls ∈ lw_g) (lw_b5 51 rfl rfl : Cond.code yX3_personAt cX3_personAt 3 (some .int) ∈ lw_g), ⟨by decide, by decide, by decide +kernel⟩, ⟨_, _, rfl⟩⟩
theorem bk_X3_fieldPlace_18 : ck_ fX3 (some .int) cX3_fieldPlace 18 [.iload 2, .if_icmp .ne 24, .iload 3, .ireturn] 24 = true := qck_r (nn_ _) (by decide +kernel)
theorem bs_X3_fieldPlace_18 {P : Zt → Option Zv → Prop} (K : Int → Zl → List Zv → Zt → Prop) : sx_ K P [.iload 2, .if_icmp .ne 24, .iload 3, .ireturn] 24 = x_iload 2 (x_if_icmp .ne 24 K (x_iload 3 (x_ireturn P))) := ((xe_iload 2).trans (congrArg (x_iload 2) ((xe_if_icmp .ne 24).trans (congrArg (x_if_icmp .ne 24 K) ((xe_iload 3).trans (congrArg (x_iload 3) (xe_ireturn)))))))
theorem bk_X3_fieldPlace_24 : ck_ fX3 (some .int) cX3_fieldPlace 24 [.iinc 3 1, .goto 2] 30 = true := qck_r (nn_ _) (by decide +kernel)
theorem bs_X3_fieldPlace_24 {P : Zt → Option Zv → Prop} (K : Int → Zl → List Zv → Zt → Prop) : sx_ K P [.iinc 3 1, .goto 2] 30 = x_iinc 3 1 (x_goto 2 K) := ((xe_iinc 3 1).trans (congrArg (x_iinc 3 1) (xe_goto 2)))
theorem bk_X3_fieldPlace_0 : ck_ fX3 (some .int) cX3_fieldPlace 0 [.iconst 0, .istore 3] 2 = true := qck_r (nn_ _) (by decide +kernel)
theorem bs_X3_fieldPlace_0 {P : Zt → Option Zv → Prop} (K : Int → Zl → List Zv → Zt → Prop) : sx_ K P [.iconst 0, .istore 3] 2 = x_iconst 0 (x_istore 3 (K 2)) := ((xe_iconst 0).trans (congrArg (x_iconst 0) ((xe_istore 3).trans (congrArg (x_istore 3) xe_nil))))
abbrev po_X3_fieldPlace (T : Zt) (p : Int) (s q : Int) : Zt → Option Zv → Prop := fun T' r => T = T' ∧ ∃ x : Int, r = some (vI x) ∧ (x = -1 ∨ (0 ≤ x ∧ x < T 470 p s))
set_option maxHeartbeats 4000000 in
theorem ct_X3_fieldPlace {T : Zt} {p : Int} {s q : Int} (hs : 0 ≤ s ∧ s ≤ 1) : Ct_ yX3_fieldPlace zX3_fieldPlace T [vR 103 p, vI s, vI q] (po_X3_fieldPlace T p s q) := by
  refine ct_of pn_3 rfl rfl (Nat.le_of_ble_eq_true rfl) (fun hT hav => ?_)
  have hr_s : -2147483648 ≤ s ∧ s ≤ 2147483647 := hav (vI s) (by simp)
  have hr_q : -2147483648 ≤ q ∧ q ≤ 2147483647 := hav (vI q) (by simp)
  have hz : zX3_fieldPlace.2.2.2.1 = some .boolean → ∀ (T' : Zt) (x : Int), po_X3_fieldPlace T p s q T' (some (vI x)) → 0 ≤ x ∧ x ≤ 1 := fun h => by cases h
  have hfd : 0 ≤ T 470 p s ∧ T 470 p s ≤ 6 := bd_a hT 470 (by decide +kernel : ta_ 470 = some (1, some 2, 0, 6)) p (by omega)
  show J_ zX3_fieldPlace T (po_X3_fieldPlace T p s q) 0 0 0 [some (vR 103 p), some (vI s), some (vI q), none] [] T
  have c_2 : ∀ (nn : Nat) (k : Int), ((6 - k).toNat) ≤ nn → (0 ≤ k) → J_ zX3_fieldPlace T (po_X3_fieldPlace T p s q) 0 0 2 [some (vR 103 p), some (vI s), some (vI q), some (vI k)] [] T := by
    intro nn
    induction nn using Nat.strongRecOn with
    | _ nn ih_2 =>
      intro k hm_2 i1
      refine j_blx (F := fX3) tb_X3 (nn_ _) bk_X3_fieldPlace_2 bs_X3_fieldPlace_2 hz (fun K hK => ?_)
      refine ix_i (by omega) ?_
      intro b1 b1b
      refine And.intro (fun c2 => ?_) (fun c2 => ?_)
      · refine hK 30 _ [] T ?_
        refine j_blx (F := fX3) tb_X3 (nn_ _) bk_X3_fieldPlace_30 bs_X3_fieldPlace_30 hz (fun K hK => ?_)
        refine (show po_X3_fieldPlace T p s q T (some (vI (-1))) from ?_)
        exact ⟨rfl, _, rfl, by omega⟩
      · refine hK 15 _ [vI k, vI s, vR 103 p] T ?_
        refine j_callV (y := yX3_personAt) (Yc := zX3_personAt) (rest := []) [vI s, vI k] (ct_X3_personAt (T := T) (by omega) (by omega)) cl_X3_92 (qd_c (by decide +kernel)) (nn_ _) rfl (rf_of rfl) (Nat.le_of_ble_eq_true rfl) (Nat.le_of_ble_eq_true rfl) (Nat.le_of_ble_eq_true rfl) rfl ?_
        rintro _ _ ⟨rfl, x3, rfl, hx3⟩
        show J_ zX3_fieldPlace T (po_X3_fieldPlace T p s q) 0 0 18 _ [vI x3] T
        refine j_blx (F := fX3) tb_X3 (nn_ _) bk_X3_fieldPlace_18 bs_X3_fieldPlace_18 hz (fun K hK => ?_)
        refine And.intro (fun c4 => ?_) (fun c4 => ?_)
        · refine hK 24 _ [] T ?_
          refine j_blx (F := fX3) tb_X3 (nn_ _) bk_X3_fieldPlace_24 bs_X3_fieldPlace_24 hz (fun K hK => ?_)
          refine rg_i (by omega) ?_
          refine hK 2 [some (vR 103 p), some (vI s), some (vI q), some (vI (k + 1))] [] T ?_
          refine ih_2 _ ?_ (k + 1) (Nat.le_refl _) ?_
          · omega
          · omega
        · refine (show po_X3_fieldPlace T p s q T (some (vI k)) from ?_)
          exact ⟨rfl, _, rfl, by omega⟩
  refine j_blx (F := fX3) tb_X3 (nn_ _) bk_X3_fieldPlace_0 bs_X3_fieldPlace_0 hz (fun K hK => ?_)
  refine hK 2 [some (vR 103 p), some (vI s), some (vI q), some (vI 0)] [] T ?_
  refine c_2 _ 0 (Nat.le_refl _) ?_
  · omega
abbrev cX3_benchPlace : ByteArray := prog_5_method_11_code
def yX3_benchPlace : MethodName := ⟨RX3, "benchPlace", "(II)I"⟩
def zX3_benchPlace : Zm := (RX3, cX3_benchPlace, 5, (some .int), { frames := 0, cells := 0, slots := 0, locals := 0 })
theorem bk_X3_benchPlace_2 : ck_ fX3 (some .int) cX3_benchPlace 2 [.iload 3, .aload 0, .tableswitch 0 3 2 #[], .iload 1, .iaload, .if_icmp .ge 50, .iload 1, .iconst 10, .imul, .iload 3, .iadd, .istore 4, .aload 0, .tableswitch 0 3 1 #[], .iload 4, .iaload, .iload 2, .if_icmp .ne 44, .aload 0, .tableswitch 0 3 12 #[], .iload 4, .iaload, .ifCond .ne 44, .iload 4, .ireturn] 44 = true := qck_r (nn_ _) (by decide +kernel)
theorem bs_X3_benchPlace_2 {P : Zt → Option Zv → Prop} (K : Int → Zl → List Zv → Zt → Prop) : sx_ K P [.iload 3, .aload 0, .tableswitch 0 3 2 #[], .iload 1, .iaload, .if_icmp .ge 50, .iload 1, .iconst 10, .imul, .iload 3, .iadd, .istore 4, .aload 0, .tableswitch 0 3 1 #[], .iload 4, .iaload, .iload 2, .if_icmp .ne 44, .aload 0, .tableswitch 0 3 12 #[], .iload 4, .iaload, .ifCond .ne 44, .iload 4, .ireturn] 44 = x_iload 3 (x_aload 0 (x_g2 103 449 (x_iload 1 (x_iaload (x_if_icmp .ge 50 K (x_iload 1 (x_iconst 10 (x_imul (x_iload 3 (x_iadd (x_istore 4 (x_aload 0 (x_g2 103 448 (x_iload 4 (x_iaload (x_iload 2 (x_if_icmp .ne 44 K (x_aload 0 (x_g2 103 472 (x_iload 4 (x_iaload (x_ifCond .ne 44 K (x_iload 4 (x_ireturn P)))))))))))))))))))))))) := ((xe_iload 3).trans (congrArg (x_iload 3) ((xe_aload 0).trans (congrArg (x_aload 0) ((xe_g2 (kk := 103) rfl tl_3_2).trans (congrArg (x_g2 103 449) ((xe_iload 1).trans (congrArg (x_iload 1) ((xe_iaload).trans (congrArg (x_iaload) ((xe_if_icmp .ge 50).trans (congrArg (x_if_icmp .ge 50 K) ((xe_iload 1).trans (congrArg (x_iload 1) ((xe_iconst 10).trans (congrArg (x_iconst 10) ((xe_imul).trans (congrArg (x_imul) ((xe_iload 3).trans (congrArg (x_iload 3) ((xe_iadd).trans (congrArg (x_iadd) ((xe_istore 4).trans (congrArg (x_istore 4) ((xe_aload 0).trans (congrArg (x_aload 0) ((xe_g2 (kk := 103) rfl tl_3_1).trans (congrArg (x_g2 103 448) ((xe_iload 4).trans (congrArg (x_iload 4) ((xe_iaload).trans (congrArg (x_iaload) ((xe_iload 2).trans (congrArg (x_iload 2) ((xe_if_icmp .ne 44).trans (congrArg (x_if_icmp .ne 44 K) ((xe_aload 0).trans (congrArg (x_aload 0) ((xe_g2 (kk := 103) rfl tl_3_12).trans (congrArg (x_g2 103 472) ((xe_iload 4).trans (congrArg (x_iload 4) ((xe_iaload).trans (congrArg (x_iaload) ((xe_ifCond .ne 44).trans (congrArg (x_ifCond .ne 44 K) ((xe_iload 4).trans (congrArg (x_iload 4) (xe_ireturn)))))))))))))))))))))))))))))))))))))))))))))))))
theorem bk_X3_benchPlace_50 : ck_ fX3 (some .int) cX3_benchPlace 50 [.iconst (-1), .ireturn] 52 = true := qck_r (nn_ _) (by decide +kernel)
theorem bs_X3_benchPlace_50 {P : Zt → Option Zv → Prop} (K : Int → Zl → List Zv → Zt → Prop) : sx_ K P [.iconst (-1), .ireturn] 52 = x_iconst (-1) (x_ireturn P) := ((xe_iconst (-1)).trans (congrArg (x_iconst (-1)) (xe_ireturn)))
theorem bk_X3_benchPlace_44 : ck_ fX3 (some .int) cX3_benchPlace 44 [.iinc 3 1, .goto 2] 50 = true := qck_r (nn_ _) (by decide +kernel)
theorem bs_X3_benchPlace_44 {P : Zt → Option Zv → Prop} (K : Int → Zl → List Zv → Zt → Prop) : sx_ K P [.iinc 3 1, .goto 2] 50 = x_iinc 3 1 (x_goto 2 K) := ((xe_iinc 3 1).trans (congrArg (x_iinc 3 1) (xe_goto 2)))
theorem bk_X3_benchPlace_0 : ck_ fX3 (some .int) cX3_benchPlace 0 [.iconst 0, .istore 3] 2 = true := qck_r (nn_ _) (by decide +kernel)
theorem bs_X3_benchPlace_0 {P : Zt → Option Zv → Prop} (K : Int → Zl → List Zv → Zt → Prop) : sx_ K P [.iconst 0, .istore 3] 2 = x_iconst 0 (x_istore 3 (K 2)) := ((xe_iconst 0).trans (congrArg (x_iconst 0) ((xe_istore 3).trans (congrArg (x_istore 3) xe_nil))))
abbrev po_X3_benchPlace (T : Zt) (p : Int) (s q : Int) : Zt → Option Zv → Prop := fun T' r => T = T' ∧ ∃ x : Int, r = some (vI x) ∧ (x = -1 ∨ (0 ≤ x ∧ x < 20))
set_option maxHeartbeats 4000000 in
theorem ct_X3_benchPlace {T : Zt} {p : Int} {s q : Int} (hs : 0 ≤ s ∧ s ≤ 1) : Ct_ yX3_benchPlace zX3_benchPlace T [vR 103 p, vI s, vI q] (po_X3_benchPlace T p s q) := by
  refine ct_of pn_3 rfl rfl (Nat.le_of_ble_eq_true rfl) (fun hT hav => ?_)
  have hr_s : -2147483648 ≤ s ∧ s ≤ 2147483647 := hav (vI s) (by simp)
  have hr_q : -2147483648 ≤ q ∧ q ≤ 2147483647 := hav (vI q) (by simp)
  have hz : zX3_benchPlace.2.2.2.1 = some .boolean → ∀ (T' : Zt) (x : Int), po_X3_benchPlace T p s q T' (some (vI x)) → 0 ≤ x ∧ x ≤ 1 := fun h => by cases h
  show J_ zX3_benchPlace T (po_X3_benchPlace T p s q) 0 0 0 [some (vR 103 p), some (vI s), some (vI q), none, none] [] T
  have c_2 : ∀ (nn : Nat) (k : Int), ((10 - k).toNat) ≤ nn → (0 ≤ k) → J_ zX3_benchPlace T (po_X3_benchPlace T p s q) 0 0 2 [some (vR 103 p), some (vI s), some (vI q), some (vI k), none] [] T := by
    intro nn
    induction nn using Nat.strongRecOn with
    | _ nn ih_2 =>
      intro k hm_2 i1
      refine j_blx (F := fX3) tb_X3 (nn_ _) bk_X3_benchPlace_2 bs_X3_benchPlace_2 hz (fun K hK => ?_)
      refine ix_i (by omega) ?_
      intro b1 b1b
      refine And.intro (fun c2 => ?_) (fun c2 => ?_)
      · refine hK 50 _ [] T ?_
        refine j_blx (F := fX3) tb_X3 (nn_ _) bk_X3_benchPlace_50 bs_X3_benchPlace_50 hz (fun K hK => ?_)
        refine (show po_X3_benchPlace T p s q T (some (vI (-1))) from ?_)
        exact ⟨rfl, _, rfl, by omega⟩
      · refine rg_i (by omega) ?_
        refine rg_i (by omega) ?_
        refine ix_i (by omega) ?_
        intro b3 b3b
        refine And.intro (fun c4 => ?_) (fun c4 => ?_)
        · refine hK 44 [some (vR 103 p), some (vI s), some (vI q), some (vI k), some (vI ((s * 10) + k))] [] T ?_
          refine j_blx (F := fX3) tb_X3 (nn_ _) bk_X3_benchPlace_44 bs_X3_benchPlace_44 hz (fun K hK => ?_)
          refine rg_i (by omega) ?_
          refine hK 2 [some (vR 103 p), some (vI s), some (vI q), some (vI (k + 1)), some (vI ((s * 10) + k))] [] T ?_
          refine j_drop [some (vR 103 p), some (vI s), some (vI q), some (vI (k + 1)), none] (fun k v hk => ?_) rfl ?_
          · match k, hk with
            | 0, hk => exact hk
            | 1, hk => exact hk
            | 2, hk => exact hk
            | 3, hk => exact hk
            | 4, hk => cases hk
            | k + 5, hk => cases hk
          refine ih_2 _ ?_ (k + 1) (Nat.le_refl _) ?_
          · omega
          · omega
        · refine ix_i (by omega) ?_
          intro b5 b5b
          refine And.intro (fun c6 => ?_) (fun c6 => ?_)
          · refine hK 44 [some (vR 103 p), some (vI s), some (vI q), some (vI k), some (vI ((s * 10) + k))] [] T ?_
            refine j_blx (F := fX3) tb_X3 (nn_ _) bk_X3_benchPlace_44 bs_X3_benchPlace_44 hz (fun K hK => ?_)
            refine rg_i (by omega) ?_
            refine hK 2 [some (vR 103 p), some (vI s), some (vI q), some (vI (k + 1)), some (vI ((s * 10) + k))] [] T ?_
            refine j_drop [some (vR 103 p), some (vI s), some (vI q), some (vI (k + 1)), none] (fun k v hk => ?_) rfl ?_
            · match k, hk with
              | 0, hk => exact hk
              | 1, hk => exact hk
              | 2, hk => exact hk
              | 3, hk => exact hk
              | 4, hk => cases hk
              | k + 5, hk => cases hk
            refine ih_2 _ ?_ (k + 1) (Nat.le_refl _) ?_
            · omega
            · omega
          · refine (show po_X3_benchPlace T p s q T (some (vI ((s * 10) + k))) from ?_)
            exact ⟨rfl, _, rfl, by omega⟩
  refine j_blx (F := fX3) tb_X3 (nn_ _) bk_X3_benchPlace_0 bs_X3_benchPlace_0 hz (fun K hK => ?_)
  refine hK 2 [some (vR 103 p), some (vI s), some (vI q), some (vI 0), none] [] T ?_
  refine c_2 _ 0 (Nat.le_refl _) ?_
  · omega
abbrev cX3_isWon : ByteArray := prog_5_method_20_code
def yX3_isWon : MethodName := ⟨RX3, "isWon", "([III)Z"⟩
def zX3_isWon : Zm := (RX3, cX3_isWon, 3, (some .boolean), { frames := 0, cells := 0, slots := 0, locals := 0 })
theorem bk_X3_isWon_0 : ck_ fX3 (some .boolean) cX3_isWon 0 [.aload 0, .iload 1, .iaload, .iload 2, .if_icmp .lt 24, .aload 0, .iload 1, .iaload, .aload 0, .iconst 1, .iload 1, .isub, .iaload, .fsub, .iconst 2, .if_icmp .lt 24, .iconst 1, .goto 25] 24 = true := qck_r (nn_ _) (by decide +kernel)
theorem bs_X3_isWon_0 {P : Zt → Option Zv → Prop} (K : Int → Zl → List Zv → Zt → Prop) : sx_ K P [.aload 0, .iload 1, .iaload, .iload 2, .if_icmp .lt 24, .aload 0, .iload 1, .iaload, .aload 0, .iconst 1, .iload 1, .isub, .iaload, .fsub, .iconst 2, .if_icmp .lt 24, .iconst 1, .goto 25] 24 = x_aload 0 (x_iload 1 (x_iaload (x_iload 2 (x_if_icmp .lt 24 K (x_aload 0 (x_iload 1 (x_iaload (x_aload 0 (x_iconst 1 (x_iload 1 (x_isub (x_iaload (x_fsub (x_iconst 2 (x_if_icmp .lt 24 K (x_iconst 1 (x_goto 25 K))))))))))))))))) := ((xe_aload 0).trans (congrArg (x_aload 0) ((xe_iload 1).trans (congrArg (x_iload 1) ((xe_iaload).trans (congrArg (x_iaload) ((xe_iload 2).trans (congrArg (x_iload 2) ((xe_if_icmp .lt 24).trans (congrArg (x_if_icmp .lt 24 K) ((xe_aload 0).trans (congrArg (x_aload 0) ((xe_iload 1).trans (congrArg (x_iload 1) ((xe_iaload).trans (congrArg (x_iaload) ((xe_aload 0).trans (congrArg (x_aload 0) ((xe_iconst 1).trans (congrArg (x_iconst 1) ((xe_iload 1).trans (congrArg (x_iload 1) ((xe_isub).trans (congrArg (x_isub) ((xe_iaload).trans (congrArg (x_iaload) ((xe_fsub).trans (congrArg (x_fsub) ((xe_iconst 2).trans (congrArg (x_iconst 2) ((xe_if_icmp .lt 24).trans (congrArg (x_if_icmp .lt 24 K) ((xe_iconst 1).trans (congrArg (x_iconst 1) (xe_goto 25)))))))))))))))))))))))))))))))))))
theorem bk_X3_isWon_24 : ck_ fX3 (some .boolean) cX3_isWon 24 [.iconst 0, .ireturn] 26 = true := qck_r (nn_ _) (by decide +kernel)
theorem bs_X3_isWon_24 {P : Zt → Option Zv → Prop} (K : Int → Zl → List Zv → Zt → Prop) : sx_ K P [.iconst 0, .ireturn] 26 = x_iconst 0 (x_ireturn P) := ((xe_iconst 0).trans (congrArg (x_iconst 0) (xe_ireturn)))
theorem bk_X3_isWon_25 : ck_ fX3 (some .boolean) cX3_isWon 25 [.ireturn] 26 = true := qck_r (nn_ _) (by decide +kernel)
theorem bs_X3_isWon_25 {P : Zt → Option Zv → Prop} (K : Int → Zl → List Zv → Zt → Prop) : sx_ K P [.ireturn] 26 = x_ireturn P := (xe_ireturn)
abbrev po_X3_isWon_466 (T : Zt) (p : Int) (s a : Int) : Zt → Option Zv → Prop := fun T' r => T = T' ∧ ∃ x : Int, r = some (vI x) ∧ (0 ≤ x ∧ x ≤ 1)
set_option maxHeartbeats 4000000 in
theorem ct_X3_isWon_466 {T : Zt} {p : Int} {s a : Int} (hs : 0 ≤ s ∧ s ≤ 1) : Ct_ yX3_isWon zX3_isWon T [vR 466 p, vI s, vI a] (po_X3_isWon_466 T p s a) := by
  refine ct_of pn_3 rfl rfl (Nat.le_of_ble_eq_true rfl) (fun hT hav => ?_)
  have hr_s : -2147483648 ≤ s ∧ s ≤ 2147483647 := hav (vI s) (by simp)
  have hr_a : -2147483648 ≤ a ∧ a ≤ 2147483647 := hav (vI a) (by simp)
  have hz : zX3_isWon.2.2.2.1 = some .boolean → ∀ (T' : Zt) (x : Int), po_X3_isWon_466 T p s a T' (some (vI x)) → 0 ≤ x ∧ x ≤ 1 := fun _ T' x h => by obtain ⟨-, y, e, hy⟩ := h; cases e; omega
  show J_ zX3_isWon T (po_X3_isWon_466 T p s a) 0 0 0 [some (vR 466 p), some (vI s), some (vI a)] [] T
  refine j_blx (F := fX3) tb_X3 (nn_ _) bk_X3_isWon_0 bs_X3_isWon_0 hz (fun K hK => ?_)
  refine ix_i (by omega) ?_
  intro b1 b1b
  refine And.intro (fun c2 => ?_) (fun c2 => ?_)
  · refine hK 24 _ [] T ?_
    refine j_blx (F := fX3) tb_X3 (nn_ _) bk_X3_isWon_24 bs_X3_isWon_24 hz (fun K hK => ?_)
    refine (show po_X3_isWon_466 T p s a T (some (vI 0)) from ?_)
    exact ⟨rfl, _, rfl, by omega⟩
  · refine ix_i (by omega) ?_
    intro b3 b3b
    refine rg_i (by omega) ?_
    refine ix_i (by omega) ?_
    intro b4 b4b
    intro w5 w5b
    refine And.intro (fun c6 => ?_) (fun c6 => ?_)
    · refine hK 24 _ [] T ?_
      refine j_blx (F := fX3) tb_X3 (nn_ _) bk_X3_isWon_24 bs_X3_isWon_24 hz (fun K hK => ?_)
      refine (show po_X3_isWon_466 T p s a T (some (vI 0)) from ?_)
      exact ⟨rfl, _, rfl, by omega⟩
    · refine hK 25 _ [vI 1] T ?_
      refine j_blx (F := fX3) tb_X3 (nn_ _) bk_X3_isWon_25 bs_X3_isWon_25 hz (fun K hK => ?_)
      refine (show po_X3_isWon_466 T p s a T (some (vI 1)) from ?_)
      exact ⟨rfl, _, rfl, by omega⟩
abbrev po_X3_isWon_467 (T : Zt) (p : Int) (s a : Int) : Zt → Option Zv → Prop := fun T' r => T = T' ∧ ∃ x : Int, r = some (vI x) ∧ (0 ≤ x ∧ x ≤ 1)
set_option maxHeartbeats 4000000 in
theorem ct_X3_isWon_467 {T : Zt} {p : Int} {s a : Int} (hs : 0 ≤ s ∧ s ≤ 1) : Ct_ yX3_isWon zX3_isWon T [vR 467 p, vI s, vI a] (po_X3_isWon_467 T p s a) := by
  refine ct_of pn_3 rfl rfl (Nat.le_of_ble_eq_true rfl) (fun hT hav => ?_)
  have hr_s : -2147483648 ≤ s ∧ s ≤ 2147483647 := hav (vI s) (by simp)
  have hr_a : -2147483648 ≤ a ∧ a ≤ 2147483647 := hav (vI a) (by simp)
  have hz : zX3_isWon.2.2.2.1 = some .boolean → ∀ (T' : Zt) (x : Int), po_X3_isWon_467 T p s a T' (some (vI x)) → 0 ≤ x ∧ x ≤ 1 := fun _ T' x h => by obtain ⟨-, y, e, hy⟩ := h; cases e; omega
  show J_ zX3_isWon T (po_X3_isWon_467 T p s a) 0 0 0 [some (vR 467 p), some (vI s), some (vI a)] [] T
  refine j_blx (F := fX3) tb_X3 (nn_ _) bk_X3_isWon_0 bs_X3_isWon_0 hz (fun K hK => ?_)
  refine ix_i (by omega) ?_
  intro b1 b1b
  refine And.intro (fun c2 => ?_) (fun c2 => ?_)
  · refine hK 24 _ [] T ?_
    refine j_blx (F := fX3) tb_X3 (nn_ _) bk_X3_isWon_24 bs_X3_isWon_24 hz (fun K hK => ?_)
    refine (show po_X3_isWon_467 T p s a T (some (vI 0)) from ?_)
    exact ⟨rfl, _, rfl, by omega⟩
  · refine ix_i (by omega) ?_
    intro b3 b3b
    refine rg_i (by omega) ?_
    refine ix_i (by omega) ?_
    intro b4 b4b
    intro w5 w5b
    refine And.intro (fun c6 => ?_) (fun c6 => ?_)
    · refine hK 24 _ [] T ?_
      refine j_blx (F := fX3) tb_X3 (nn_ _) bk_X3_isWon_24 bs_X3_isWon_24 hz (fun K hK => ?_)
      refine (show po_X3_isWon_467 T p s a T (some (vI 0)) from ?_)
      exact ⟨rfl, _, rfl, by omega⟩
    · refine hK 25 _ [vI 1] T ?_
      refine j_blx (F := fX3) tb_X3 (nn_ _) bk_X3_isWon_25 bs_X3_isWon_25 hz (fun K hK => ?_)
      refine (show po_X3_isWon_467 T p s a T (some (vI 1)) from ?_)
      exact ⟨rfl, _, rfl, by omega⟩
abbrev cX3_closeGap : ByteArray := prog_5_method_17_code
def yX3_closeGap : MethodName := ⟨RX3, "closeGap", "(II)V"⟩
def zX3_closeGap : Zm := (RX3, cX3_closeGap, 4, none, { frames := 0, cells := 0, slots := 0, locals := 0 })
theorem bk_X3_closeGap_4 : ck_ fX3 none cX3_closeGap 4 [.iload 3, .aload 0, .tableswitch 0 3 10 #[], .iload 1, .iaload, .if_icmp .ge 44, .aload 0, .tableswitch 0 3 11 #[], .iload 1, .iconst 6, .imul, .iload 3, .iadd, .iconst 1, .isub, .aload 0, .tableswitch 0 3 11 #[], .iload 1, .iconst 6, .imul, .iload 3, .iadd, .iaload, .iastore, .iinc 3 1, .goto 4] 44 = true := qck_r (nn_ _) (by decide +kernel)
theorem bs_X3_closeGap_4 {P : Zt → Option Zv → Prop} (K : Int → Zl → List Zv → Zt → Prop) : sx_ K P [.iload 3, .aload 0, .tableswitch 0 3 10 #[], .iload 1, .iaload, .if_icmp .ge 44, .aload 0, .tableswitch 0 3 11 #[], .iload 1, .iconst 6, .imul, .iload 3, .iadd, .iconst 1, .isub, .aload 0, .tableswitch 0 3 11 #[], .iload 1, .iconst 6, .imul, .iload 3, .iadd, .iaload, .iastore, .iinc 3 1, .goto 4] 44 = x_iload 3 (x_aload 0 (x_g2 103 470 (x_iload 1 (x_iaload (x_if_icmp .ge 44 K (x_aload 0 (x_g2 103 471 (x_iload 1 (x_iconst 6 (x_imul (x_iload 3 (x_iadd (x_iconst 1 (x_isub (x_aload 0 (x_g2 103 471 (x_iload 1 (x_iconst 6 (x_imul (x_iload 3 (x_iadd (x_iaload (x_iastore (x_iinc 3 1 (x_goto 4 K))))))))))))))))))))))))) := ((xe_iload 3).trans (congrArg (x_iload 3) ((xe_aload 0).trans (congrArg (x_aload 0) ((xe_g2 (kk := 103) rfl tl_3_10).trans (congrArg (x_g2 103 470) ((xe_iload 1).trans (congrArg (x_iload 1) ((xe_iaload).trans (congrArg (x_iaload) ((xe_if_icmp .ge 44).trans (congrArg (x_if_icmp .ge 44 K) ((xe_aload 0).trans (congrArg (x_aload 0) ((xe_g2 (kk := 103) rfl tl_3_11).trans (congrArg (x_g2 103 471) ((xe_iload 1).trans (congrArg (x_iload 1) ((xe_iconst 6).trans (congrArg (x_iconst 6) ((xe_imul).trans (congrArg (x_imul) ((xe_iload 3).trans (congrArg (x_iload 3) ((xe_iadd).trans (congrArg (x_iadd) ((xe_iconst 1).trans (congrArg (x_iconst 1) ((xe_isub).trans (congrArg (x_isub) ((xe_aload 0).trans (congrArg (x_aload 0) ((xe_g2 (kk := 103) rfl tl_3_11).trans (congrArg (x_g2 103 471) ((xe_iload 1).trans (congrArg (x_iload 1) ((xe_iconst 6).trans (congrArg (x_iconst 6) ((xe_imul).trans (congrArg (x_imul) ((xe_iload 3).trans (congrArg (x_iload 3) ((xe_iadd).trans (congrArg (x_iadd) ((xe_iaload).trans (congrArg (x_iaload) ((xe_iastore).trans (congrArg (x_iastore) ((xe_iinc 3 1).trans (congrArg (x_iinc 3 1) (xe_goto 4)))))))))))))))))))))))))))))))))))))))))))))))))))
theorem bk_X3_closeGap_44 : ck_ fX3 none cX3_closeGap 44 [.return_] 45 = true := qck_r (nn_ _) (by decide +kernel)
theorem bs_X3_closeGap_44 {P : Zt → Option Zv → Prop} (K : Int → Zl → List Zv → Zt → Prop) : sx_ K P [.return_] 45 = x_return_ P := (xe_return_)
theorem bk_X3_closeGap_0 : ck_ fX3 none cX3_closeGap 0 [.iload 2, .iconst 1, .iadd, .istore 3] 4 = true := qck_r (nn_ _) (by decide +kernel)
theorem bs_X3_closeGap_0 {P : Zt → Option Zv → Prop} (K : Int → Zl → List Zv → Zt → Prop) : sx_ K P [.iload 2, .iconst 1, .iadd, .istore 3] 4 = x_iload 2 (x_iconst 1 (x_iadd (x_istore 3 (K 4)))) := ((xe_iload 2).trans (congrArg (x_iload 2) ((xe_iconst 1).trans (congrArg (x_iconst 1) ((xe_iadd).trans (congrArg (x_iadd) ((xe_istore 3).trans (congrArg (x_istore 3) xe_nil))))))))
abbrev po_X3_closeGap (T : Zt) (p : Int) (s k : Int) : Zt → Option Zv → Prop := fun T' r => r = none ∧ fr_ [(471, [])] T T' ∧ (oi_ T T' p ∧ (0 = (0 : Int)))
set_option maxHeartbeats 4000000 in
theorem ct_X3_closeGap {T : Zt} {p : Int} {s k : Int} (hs : 0 ≤ s ∧ s ≤ 1) (h1 : 0 ≤ k ∧ k < 6) : Ct_ yX3_closeGap zX3_closeGap T [vR 103 p, vI s, vI k] (po_X3_closeGap T p s k) := by
  refine ct_of pn_3 rfl rfl (Nat.le_of_ble_eq_true rfl) (fun hT hav => ?_)
  have hr_s : -2147483648 ≤ s ∧ s ≤ 2147483647 := hav (vI s) (by simp)
  have hr_k : -2147483648 ≤ k ∧ k ≤ 2147483647 := hav (vI k) (by simp)
  have hz : zX3_closeGap.2.2.2.1 = some .boolean → ∀ (T' : Zt) (x : Int), po_X3_closeGap T p s k T' (some (vI x)) → 0 ≤ x ∧ x ≤ 1 := fun h => by cases h
  show J_ zX3_closeGap T (po_X3_closeGap T p s k) 0 0 0 [some (vR 103 p), some (vI s), some (vI k), none] [] T
  have c_4 : ∀ (nn : Nat) (j : Int) (T1 : Zt), ((7 - j).toNat) ≤ nn → (fr_ [(471, [])] T T1) → (1 ≤ j ∧ j ≤ 7) → (oi_ T T1 p) → J_ zX3_closeGap T (po_X3_closeGap T p s k) 0 0 4 [some (vR 103 p), some (vI s), some (vI k), some (vI j)] [] T1 := by
    intro nn
    induction nn using Nat.strongRecOn with
    | _ nn ih_4 =>
      intro j T1 hm_4 hf_4 i1 o1
      refine j_blx (F := fX3) tb_X3 (nn_ _) bk_X3_closeGap_4 bs_X3_closeGap_4 hz (fun K hK => ?_)
      refine ix_i (by omega) ?_
      intro b1 b1b
      have e2 : T1 470 p s = T 470 p s := hf_4 470 p s rfl
      rw [e2] at b1 b1b ⊢
      refine And.intro (fun c3 => ?_) (fun c3 => ?_)
      · refine hK 44 _ [] T1 ?_
        refine j_blx (F := fX3) tb_X3 (nn_ _) bk_X3_closeGap_44 bs_X3_closeGap_44 hz (fun K hK => ?_)
        refine (show po_X3_closeGap T p s k T1 (none) from ?_)
        exact ⟨rfl, fr_t (fr_0 _ _) (fr_s hf_4 rfl), o1, by rfl⟩
      · refine rg_i (by omega) ?_
        refine rg_i (by omega) ?_
        refine rg_i (by omega) ?_
        refine rg_i (by omega) ?_
        refine rg_i (by omega) ?_
        refine ix_i (by omega) ?_
        intro b4 b4b
        refine iy_i (by omega) (by omega) ?_
        refine x_nm (fun U5 hU5 => ?_)
        have e6 := up_f hU5
        refine rg_i (by omega) ?_
        refine hK 4 [some (vR 103 p), some (vI s), some (vI k), some (vI (j + 1))] [] U5 ?_
        refine ih_4 _ ?_ (j + 1) U5 (Nat.le_refl _) ?_ ?_ ?_
        · omega
        · exact fr_u (fr_t (fr_0 _ _) (fr_s hf_4 rfl)) hU5 rfl
        · omega
        · exact oi_u (o1) hU5
  refine j_blx (F := fX3) tb_X3 (nn_ _) bk_X3_closeGap_0 bs_X3_closeGap_0 hz (fun K hK => ?_)
  refine rg_i (by omega) ?_
  refine hK 4 [some (vR 103 p), some (vI s), some (vI k), some (vI (k + 1))] [] T ?_
  refine c_4 _ (k + 1) T (Nat.le_refl _) ?_ ?_ ?_
  · exact fr_0 _ _
  · omega
  · exact oi_r
abbrev cX3_rotate : ByteArray := prog_5_method_19_code
def yX3_rotate : MethodName := ⟨RX3, "rotate", "(I)V"⟩
def zX3_rotate : Zm := (RX3, cX3_rotate, 3, none, { frames := 1, cells := 0, slots := 0, locals := 23 })
theorem bk_X3_rotate_0 : ck_ fX3 none cX3_rotate 0 [.aload 0, .tableswitch 0 3 11 #[], .iload 1, .iconst 6, .imul, .iaload, .istore 2, .aload 0, .iload 1, .iconst 0] 13 = true := qck_r (nn_ _) (by decide +kernel)
theorem bs_X3_rotate_0 {P : Zt → Option Zv → Prop} (K : Int → Zl → List Zv → Zt → Prop) : sx_ K P [.aload 0, .tableswitch 0 3 11 #[], .iload 1, .iconst 6, .imul, .iaload, .istore 2, .aload 0, .iload 1, .iconst 0] 13 = x_aload 0 (x_g2 103 471 (x_iload 1 (x_iconst 6 (x_imul (x_iaload (x_istore 2 (x_aload 0 (x_iload 1 (x_iconst 0 (K 13)))))))))) := ((xe_aload 0).trans (congrArg (x_aload 0) ((xe_g2 (kk := 103) rfl tl_3_11).trans (congrArg (x_g2 103 471) ((xe_iload 1).trans (congrArg (x_iload 1) ((xe_iconst 6).trans (congrArg (x_iconst 6) ((xe_imul).trans (congrArg (x_imul) ((xe_iaload).trans (congrArg (x_iaload) ((xe_istore 2).trans (congrArg (x_istore 2) ((xe_aload 0).trans (congrArg (x_aload 0) ((xe_iload 1).trans (congrArg (x_iload 1) ((xe_iconst 0).trans (congrArg (x_iconst 0) xe_nil))))))))))))))))))))
set_option maxRecDepth 100000 in
theorem cl_X3_119 : cv_ RX3 119 yX3_closeGap zX3_closeGap 3 2 := ⟨gi_V (lw_b5 80 (by decide +kernel) rfl : Cond.methodLink RX3 119 yX3_closeGap ∈ lw_g) (lw_b5 82 (by decide +kernel) rfl : Cond.instanceMethod yX3_closeGap ∈ lw_g) (lw_sel 84 rfl : Cond.selects yX3_closeGap.cls yX3_closeGap yX3_closeGap ∈ lw_g) (lw_b1 18 (by decide +kernel) rfl : Cond.initialized yX3_closeGap.cls ∈ lw_g) (lw_b5 83 rfl rfl : Cond.code yX3_closeGap cX3_closeGap 4 none ∈ lw_g), ⟨by decide, by decide, by decide +kernel⟩, ⟨_, _, rfl⟩⟩
theorem bk_X3_rotate_16 : ck_ fX3 none cX3_rotate 16 [.aload 0, .tableswitch 0 3 11 #[], .iload 1, .iconst 6, .imul, .aload 0, .tableswitch 0 3 10 #[], .iload 1, .iaload, .iadd, .iconst 1, .isub, .iload 2, .iastore, .return_] 36 = true := qck_r (nn_ _) (by decide +kernel)
theorem bs_X3_rotate_16 {P : Zt → Option Zv → Prop} (K : Int → Zl → List Zv → Zt → Prop) : sx_ K P [.aload 0, .tableswitch 0 3 11 #[], .iload 1, .iconst 6, .imul, .aload 0, .tableswitch 0 3 10 #[], .iload 1, .iaload, .iadd, .iconst 1, .isub, .iload 2, .iastore, .return_] 36 = x_aload 0 (x_g2 103 471 (x_iload 1 (x_iconst 6 (x_imul (x_aload 0 (x_g2 103 470 (x_iload 1 (x_iaload (x_iadd (x_iconst 1 (x_isub (x_iload 2 (x_iastore (x_return_ P)))))))))))))) := ((xe_aload 0).trans (congrArg (x_aload 0) ((xe_g2 (kk := 103) rfl tl_3_11).trans (congrArg (x_g2 103 471) ((xe_iload 1).trans (congrArg (x_iload 1) ((xe_iconst 6).trans (congrArg (x_iconst 6) ((xe_imul).trans (congrArg (x_imul) ((xe_aload 0).trans (congrArg (x_aload 0) ((xe_g2 (kk := 103) rfl tl_3_10).trans (congrArg (x_g2 103 470) ((xe_iload 1).trans (congrArg (x_iload 1) ((xe_iaload).trans (congrArg (x_iaload) ((xe_iadd).trans (congrArg (x_iadd) ((xe_iconst 1).trans (congrArg (x_iconst 1) ((xe_isub).trans (congrArg (x_isub) ((xe_iload 2).trans (congrArg (x_iload 2) ((xe_iastore).trans (congrArg (x_iastore) (xe_return_)))))))))))))))))))))))))))))
abbrev po_X3_rotate (T : Zt) (p : Int) (s : Int) : Zt → Option Zv → Prop := fun T' r => r = none ∧ fr_ [(471, [])] T T' ∧ (oi_ T T' p ∧ (0 = (0 : Int)))
set_option maxHeartbeats 4000000 in
theorem ct_X3_rotate {T : Zt} {p : Int} {s : Int} (hs : 0 ≤ s ∧ s ≤ 1) (h1 : 1 ≤ T 470 p s) : Ct_ yX3_rotate zX3_rotate T [vR 103 p, vI s] (po_X3_rotate T p s) := by
  refine ct_of pn_3 rfl rfl (Nat.le_of_ble_eq_true rfl) (fun hT hav => ?_)
  have hr_s : -2147483648 ≤ s ∧ s ≤ 2147483647 := hav (vI s) (by simp)
  have hz : zX3_rotate.2.2.2.1 = some .boolean → ∀ (T' : Zt) (x : Int), po_X3_rotate T p s T' (some (vI x)) → 0 ≤ x ∧ x ≤ 1 := fun h => by cases h
  have hfd : 0 ≤ T 470 p s ∧ T 470 p s ≤ 6 := bd_a hT 470 (by decide +kernel : ta_ 470 = some (1, some 2, 0, 6)) p (by omega)
  show J_ zX3_rotate T (po_X3_rotate T p s) 0 0 0 [some (vR 103 p), some (vI s), none] [] T
  refine j_blx (F := fX3) tb_X3 (nn_ _) bk_X3_rotate_0 bs_X3_rotate_0 hz (fun K hK => ?_)
  refine rg_i (by omega) ?_
  refine ix_i (by omega) ?_
  intro b1 b1b
  refine hK 13 [some (vR 103 p), some (vI s), some (vI (T 471 p (s * 6)))] [vI 0, vI s, vR 103 p] T ?_
  refine j_callV (y := yX3_closeGap) (Yc := zX3_closeGap) (rest := []) [vI s, vI 0] (ct_X3_closeGap (T := T) (by omega) (by omega)) cl_X3_119 (qd_c (by decide +kernel)) (nn_ _) rfl (rf_of rfl) (Nat.le_of_ble_eq_true rfl) (Nat.le_of_ble_eq_true rfl) (Nat.le_of_ble_eq_true rfl) rfl ?_
  rintro U2 _ ⟨rfl, fU2, qU2o, qU2⟩
  show J_ zX3_rotate T (po_X3_rotate T p s) 0 0 16 _ [] U2
  refine j_blx (F := fX3) tb_X3 (nn_ _) bk_X3_rotate_16 bs_X3_rotate_16 hz (fun K hK => ?_)
  refine rg_i (by omega) ?_
  refine ix_i (by omega) ?_
  intro b3 b3b
  have e4 : U2 470 p s = T 470 p s := fU2 470 p s rfl
  rw [e4] at b3 b3b ⊢
  refine rg_i (by omega) ?_
  refine rg_i (by omega) ?_
  refine iy_i (by omega) (by omega) ?_
  refine x_nm (fun U5 hU5 => ?_)
  have e6 := up_f hU5
  refine (show po_X3_rotate T p s U5 (none) from ?_)
  exact ⟨rfl, fr_u (fr_t (fr_0 _ _) (fr_s fU2 rfl)) hU5 rfl, oi_u (oi_t (oi_r) qU2o) hU5, by rfl⟩
abbrev cX3_isLastInning : ByteArray := prog_5_method_26_code
def yX3_isLastInning : MethodName := ⟨RX3, "isLastInning", "()Z"⟩
def zX3_isLastInning : Zm := (RX3, cX3_isLastInning, 1, (some .boolean), { frames := 0, cells := 0, slots := 0, locals := 0 })
theorem bk_X3_isLastInning_0 : ck_ fX3 (some .boolean) cX3_isLastInning 0 [.aload 0, .tableswitch 0 3 4 #[], .aload 0, .tableswitch 0 3 0 #[], .iconst 11, .iaload, .iconst 1, .isub, .if_icmp .lt 20, .iconst 1, .goto 21] 20 = true := qck_r (nn_ _) (by decide +kernel)
theorem bs_X3_isLastInning_0 {P : Zt → Option Zv → Prop} (K : Int → Zl → List Zv → Zt → Prop) : sx_ K P [.aload 0, .tableswitch 0 3 4 #[], .aload 0, .tableswitch 0 3 0 #[], .iconst 11, .iaload, .iconst 1, .isub, .if_icmp .lt 20, .iconst 1, .goto 21] 20 = x_aload 0 (x_g0 103 4 (-2147483648) 2147483647 (x_aload 0 (x_g3 103 401 0 (x_iconst 11 (x_iaload (x_iconst 1 (x_isub (x_if_icmp .lt 20 K (x_iconst 1 (x_goto 21 K)))))))))) := ((xe_aload 0).trans (congrArg (x_aload 0) ((xe_g0 (kk := 103) rfl tl_3_4).trans (congrArg (x_g0 103 4 (-2147483648) 2147483647) ((xe_aload 0).trans (congrArg (x_aload 0) ((xe_g3 (kk := 103) rfl tl_3_0).trans (congrArg (x_g3 103 401 0) ((xe_iconst 11).trans (congrArg (x_iconst 11) ((xe_iaload).trans (congrArg (x_iaload) ((xe_iconst 1).trans (congrArg (x_iconst 1) ((xe_isub).trans (congrArg (x_isub) ((xe_if_icmp .lt 20).trans (congrArg (x_if_icmp .lt 20 K) ((xe_iconst 1).trans (congrArg (x_iconst 1) (xe_goto 21)))))))))))))))))))))
theorem bk_X3_isLastInning_20 : ck_ fX3 (some .boolean) cX3_isLastInning 20 [.iconst 0, .ireturn] 22 = true := qck_r (nn_ _) (by decide +kernel)
theorem bs_X3_isLastInning_20 {P : Zt → Option Zv → Prop} (K : Int → Zl → List Zv → Zt → Prop) : sx_ K P [.iconst 0, .ireturn] 22 = x_iconst 0 (x_ireturn P) := ((xe_iconst 0).trans (congrArg (x_iconst 0) (xe_ireturn)))
theorem bk_X3_isLastInning_21 : ck_ fX3 (some .boolean) cX3_isLastInning 21 [.ireturn] 22 = true := qck_r (nn_ _) (by decide +kernel)
theorem bs_X3_isLastInning_21 {P : Zt → Option Zv → Prop} (K : Int → Zl → List Zv → Zt → Prop) : sx_ K P [.ireturn] 22 = x_ireturn P := (xe_ireturn)
abbrev po_X3_isLastInning (T : Zt) (p : Int) : Zt → Option Zv → Prop := fun T' r => T = T' ∧ ∃ x : Int, r = some (vI x) ∧ (0 ≤ x ∧ x ≤ 1)
set_option maxHeartbeats 4000000 in
theorem ct_X3_isLastInning {T : Zt} {p : Int} : Ct_ yX3_isLastInning zX3_isLastInning T [vR 103 p] (po_X3_isLastInning T p) := by
  refine ct_of pn_3 rfl rfl (Nat.le_of_ble_eq_true rfl) (fun hT hav => ?_)
  have hz : zX3_isLastInning.2.2.2.1 = some .boolean → ∀ (T' : Zt) (x : Int), po_X3_isLastInning T p T' (some (vI x)) → 0 ≤ x ∧ x ≤ 1 := fun _ T' x h => by obtain ⟨-, y, e, hy⟩ := h; cases e; omega
  show J_ zX3_isLastInning T (po_X3_isLastInning T p) 0 0 0 [some (vR 103 p)] [] T
  refine j_blx (F := fX3) tb_X3 (nn_ _) bk_X3_isLastInning_0 bs_X3_isLastInning_0 hz (fun K hK => ?_)
  intro b1 b1b
  refine ix_i (by omega) ?_
  intro b3 b3b
  refine rg_i (by omega) ?_
  refine And.intro (fun c4 => ?_) (fun c4 => ?_)
  · refine hK 20 _ [] T ?_
    refine j_blx (F := fX3) tb_X3 (nn_ _) bk_X3_isLastInning_20 bs_X3_isLastInning_20 hz (fun K hK => ?_)
    refine (show po_X3_isLastInning T p T (some (vI 0)) from ?_)
    exact ⟨rfl, _, rfl, by omega⟩
  · refine hK 21 _ [vI 1] T ?_
    refine j_blx (F := fX3) tb_X3 (nn_ _) bk_X3_isLastInning_21 bs_X3_isLastInning_21 hz (fun K hK => ?_)
    refine (show po_X3_isLastInning T p T (some (vI 1)) from ?_)
    exact ⟨rfl, _, rfl, by omega⟩
theorem fd_u {T T1 : Zt} {k : Nat} {p s v : Int} (e : T1 = up_ T k p s v) (hs : 0 ≤ s ∧ s ≤ 1) : (s = 0 ∧ T1 k p 0 = v ∧ T1 k p 1 = T k p 1) ∨ (s = 1 ∧ T1 k p 1 = v ∧ T1 k p 0 = T k p 0) := by
  rcases (by omega : s = 0 ∨ s = 1) with z | z
  · subst z; exact Or.inl ⟨rfl, up_f e, up_g e (by omega)⟩
  · subst z; exact Or.inr ⟨rfl, up_f e, up_g e (by omega)⟩
abbrev cX3_sendOff : ByteArray := prog_5_method_16_code
def yX3_sendOff : MethodName := ⟨RX3, "sendOff", "(II)V"⟩
def zX3_sendOff : Zm := (RX3, cX3_sendOff, 3, none, { frames := 1, cells := 0, slots := 0, locals := 23 })
theorem bk_X3_sendOff_0 : ck_ fX3 none cX3_sendOff 0 [.iload 2, .iconst (-1), .if_icmp .ne 6, .return_] 6 = true := qck_r (nn_ _) (by decide +kernel)
theorem bs_X3_sendOff_0 {P : Zt → Option Zv → Prop} (K : Int → Zl → List Zv → Zt → Prop) : sx_ K P [.iload 2, .iconst (-1), .if_icmp .ne 6, .return_] 6 = x_iload 2 (x_iconst (-1) (x_if_icmp .ne 6 K (x_return_ P))) := ((xe_iload 2).trans (congrArg (x_iload 2) ((xe_iconst (-1)).trans (congrArg (x_iconst (-1)) ((xe_if_icmp .ne 6).trans (congrArg (x_if_icmp .ne 6 K) (xe_return_)))))))
theorem bk_X3_sendOff_6 : ck_ fX3 none cX3_sendOff 6 [.aload 0, .tableswitch 0 3 12 #[], .aload 0, .tableswitch 0 3 11 #[], .iload 1, .iconst 6, .imul, .iload 2, .iadd, .iaload, .iconst 3, .iastore, .aload 0, .iload 1, .iload 2] 26 = true := qck_r (nn_ _) (by decide +kernel)
theorem bs_X3_sendOff_6 {P : Zt → Option Zv → Prop} (K : Int → Zl → List Zv → Zt → Prop) : sx_ K P [.aload 0, .tableswitch 0 3 12 #[], .aload 0, .tableswitch 0 3 11 #[], .iload 1, .iconst 6, .imul, .iload 2, .iadd, .iaload, .iconst 3, .iastore, .aload 0, .iload 1, .iload 2] 26 = x_aload 0 (x_g2 103 472 (x_aload 0 (x_g2 103 471 (x_iload 1 (x_iconst 6 (x_imul (x_iload 2 (x_iadd (x_iaload (x_iconst 3 (x_iastore (x_aload 0 (x_iload 1 (x_iload 2 (K 26))))))))))))))) := ((xe_aload 0).trans (congrArg (x_aload 0) ((xe_g2 (kk := 103) rfl tl_3_12).trans (congrArg (x_g2 103 472) ((xe_aload 0).trans (congrArg (x_aload 0) ((xe_g2 (kk := 103) rfl tl_3_11).trans (congrArg (x_g2 103 471) ((xe_iload 1).trans (congrArg (x_iload 1) ((xe_iconst 6).trans (congrArg (x_iconst 6) ((xe_imul).trans (congrArg (x_imul) ((xe_iload 2).trans (congrArg (x_iload 2) ((xe_iadd).trans (congrArg (x_iadd) ((xe_iaload).trans (congrArg (x_iaload) ((xe_iconst 3).trans (congrArg (x_iconst 3) ((xe_iastore).trans (congrArg (x_iastore) ((xe_aload 0).trans (congrArg (x_aload 0) ((xe_iload 1).trans (congrArg (x_iload 1) ((xe_iload 2).trans (congrArg (x_iload 2) xe_nil))))))))))))))))))))))))))))))
theorem bk_X3_sendOff_29 : ck_ fX3 none cX3_sendOff 29 [.aload 0, .tableswitch 0 3 10 #[], .iload 1, .dup2, .iaload, .iconst 1, .isub, .iastore, .iconst 2, .aload 0, .tableswitch 0 3 10 #[], .iload 1, .iaload, .imul, .aload 0, .tableswitch 0 3 0 #[], .iconst 9, .iaload, .if_icmp .ge 84, .aload 0, .iconst 1, .tableswitch 1 3 3 #[], .aload 0, .tableswitch 0 3 8 #[], .iload 1, .iconst 0, .iastore, .aload 0, .tableswitch 0 3 8 #[], .iconst 1, .iload 1, .isub, .aload 0, .tableswitch 0 3 0 #[], .iconst 12, .iaload, .iastore, .return_] 85 = true := qck_r (nn_ _) (by decide +kernel)
theorem bs_X3_sendOff_29 {P : Zt → Option Zv → Prop} (K : Int → Zl → List Zv → Zt → Prop) : sx_ K P [.aload 0, .tableswitch 0 3 10 #[], .iload 1, .dup2, .iaload, .iconst 1, .isub, .iastore, .iconst 2, .aload 0, .tableswitch 0 3 10 #[], .iload 1, .iaload, .imul, .aload 0, .tableswitch 0 3 0 #[], .iconst 9, .iaload, .if_icmp .ge 84, .aload 0, .iconst 1, .tableswitch 1 3 3 #[], .aload 0, .tableswitch 0 3 8 #[], .iload 1, .iconst 0, .iastore, .aload 0, .tableswitch 0 3 8 #[], .iconst 1, .iload 1, .isub, .aload 0, .tableswitch 0 3 0 #[], .iconst 12, .iaload, .iastore, .return_] 85 = x_aload 0 (x_g2 103 470 (x_iload 1 (x_dup2 (x_iaload (x_iconst 1 (x_isub (x_iastore (x_iconst 2 (x_aload 0 (x_g2 103 470 (x_iload 1 (x_iaload (x_imul (x_aload 0 (x_g3 103 401 0 (x_iconst 9 (x_iaload (x_if_icmp .ge 84 K (x_aload 0 (x_iconst 1 (x_p 103 3 0 1 (x_aload 0 (x_g2 103 468 (x_iload 1 (x_iconst 0 (x_iastore (x_aload 0 (x_g2 103 468 (x_iconst 1 (x_iload 1 (x_isub (x_aload 0 (x_g3 103 401 0 (x_iconst 12 (x_iaload (x_iastore (x_return_ P))))))))))))))))))))))))))))))))))))) := ((xe_aload 0).trans (congrArg (x_aload 0) ((xe_g2 (kk := 103) rfl tl_3_10).trans (congrArg (x_g2 103 470) ((xe_iload 1).trans (congrArg (x_iload 1) ((xe_dup2).trans (congrArg (x_dup2) ((xe_iaload).trans (congrArg (x_iaload) ((xe_iconst 1).trans (congrArg (x_iconst 1) ((xe_isub).trans (congrArg (x_isub) ((xe_iastore).trans (congrArg (x_iastore) ((xe_iconst 2).trans (congrArg (x_iconst 2) ((xe_aload 0).trans (congrArg (x_aload 0) ((xe_g2 (kk := 103) rfl tl_3_10).trans (congrArg (x_g2 103 470) ((xe_iload 1).trans (congrArg (x_iload 1) ((xe_iaload).trans (congrArg (x_iaload) ((xe_imul).trans (congrArg (x_imul) ((xe_aload 0).trans (congrArg (x_aload 0) ((xe_g3 (kk := 103) rfl tl_3_0).trans (congrArg (x_g3 103 401 0) ((xe_iconst 9).trans (congrArg (x_iconst 9) ((xe_iaload).trans (congrArg (x_iaload) ((xe_if_icmp .ge 84).trans (congrArg (x_if_icmp .ge 84 K) ((xe_aload 0).trans (congrArg (x_aload 0) ((xe_iconst 1).trans (congrArg (x_iconst 1) ((xe_p (kk := 103) rfl tl_3_3).trans (congrArg (x_p 103 3 0 1) ((xe_aload 0).trans (congrArg (x_aload 0) ((xe_g2 (kk := 103) rfl tl_3_8).trans (congrArg (x_g2 103 468) ((xe_iload 1).trans (congrArg (x_iload 1) ((xe_iconst 0).trans (congrArg (x_iconst 0) ((xe_iastore).trans (congrArg (x_iastore) ((xe_aload 0).trans (congrArg (x_aload 0) ((xe_g2 (kk := 103) rfl tl_3_8).trans (congrArg (x_g2 103 468) ((xe_iconst 1).trans (congrArg (x_iconst 1) ((xe_iload 1).trans (congrArg (x_iload 1) ((xe_isub).trans (congrArg (x_isub) ((xe_aload 0).trans (congrArg (x_aload 0) ((xe_g3 (kk := 103) rfl tl_3_0).trans (congrArg (x_g3 103 401 0) ((xe_iconst 12).trans (congrArg (x_iconst 12) ((xe_iaload).trans (congrArg (x_iaload) ((xe_iastore).trans (congrArg (x_iastore) (xe_return_)))))))))))))))))))))))))))))))))))))))))))))))))))))))))))))))))))))))))))
theorem bk_X3_sendOff_84 : ck_ fX3 none cX3_sendOff 84 [.return_] 85 = true := qck_r (nn_ _) (by decide +kernel)
theorem bs_X3_sendOff_84 {P : Zt → Option Zv → Prop} (K : Int → Zl → List Zv → Zt → Prop) : sx_ K P [.return_] 85 = x_return_ P := (xe_return_)
abbrev po_X3_sendOff (T : Zt) (p : Int) (s k : Int) : Zt → Option Zv → Prop := fun T' r => r = none ∧ fr_ [(472, []), (471, []), (470, []), (103, [3]), (468, [])] T T' ∧ (oi_ T T' p ∧ (T' 103 p 3 = 0 → 1 ≤ T' 470 p 0 ∧ 1 ≤ T' 470 p 1))
set_option maxHeartbeats 4000000 in
theorem ct_X3_sendOff {T : Zt} {p : Int} {s k : Int} (hs : 0 ≤ s ∧ s ≤ 1) (hk : k = -1 ∨ (0 ≤ k ∧ k < T 470 p s)) (hf : 1 ≤ T 401 (T 103 p 0) 9 ∧ T 401 (T 103 p 0) 9 ≤ 6) (hfd : 1 ≤ T 470 p 0 ∧ 1 ≤ T 470 p 1) : Ct_ yX3_sendOff zX3_sendOff T [vR 103 p, vI s, vI k] (po_X3_sendOff T p s k) := by
  refine ct_of pn_3 rfl rfl (Nat.le_of_ble_eq_true rfl) (fun hT hav => ?_)
  have hr_s : -2147483648 ≤ s ∧ s ≤ 2147483647 := hav (vI s) (by simp)
  have hr_k : -2147483648 ≤ k ∧ k ≤ 2147483647 := hav (vI k) (by simp)
  have hz : zX3_sendOff.2.2.2.1 = some .boolean → ∀ (T' : Zt) (x : Int), po_X3_sendOff T p s k T' (some (vI x)) → 0 ≤ x ∧ x ≤ 1 := fun h => by cases h
  have hfs : 0 ≤ T 470 p s ∧ T 470 p s ≤ 6 := bd_a hT 470 (by decide +kernel : ta_ 470 = some (1, some 2, 0, 6)) p (by omega)
  show J_ zX3_sendOff T (po_X3_sendOff T p s k) 0 0 0 [some (vR 103 p), some (vI s), some (vI k)] [] T
  refine j_blx (F := fX3) tb_X3 (nn_ _) bk_X3_sendOff_0 bs_X3_sendOff_0 hz (fun K hK => ?_)
  refine And.intro (fun c1 => ?_) (fun c1 => ?_)
  · refine hK 6 _ [] T ?_
    refine j_blx (F := fX3) tb_X3 (nn_ _) bk_X3_sendOff_6 bs_X3_sendOff_6 hz (fun K hK => ?_)
    refine rg_i (by omega) ?_
    refine rg_i (by omega) ?_
    refine ix_i (by omega) ?_
    intro b2 b2b
    refine iy_i (by omega) (by omega) ?_
    refine x_nm (fun U3 hU3 => ?_)
    have e4 := up_f hU3
    refine hK 26 _ [vI k, vI s, vR 103 p] U3 ?_
    refine j_callV (y := yX3_closeGap) (Yc := zX3_closeGap) (rest := []) [vI s, vI k] (ct_X3_closeGap (T := U3) (by omega) (by omega)) cl_X3_119 (qd_c (by decide +kernel)) (nn_ _) rfl (rf_of rfl) (Nat.le_of_ble_eq_true rfl) (Nat.le_of_ble_eq_true rfl) (Nat.le_of_ble_eq_true rfl) rfl ?_
    rintro U5 _ ⟨rfl, fU5, qU5o, qU5⟩
    show J_ zX3_sendOff T (po_X3_sendOff T p s k) 0 0 29 _ [] U5
    refine j_blx (F := fX3) tb_X3 (nn_ _) bk_X3_sendOff_29 bs_X3_sendOff_29 hz (fun K hK => ?_)
    refine ix_i (by omega) ?_
    intro b6 b6b
    have e7 : U5 470 p s = T 470 p s := (fU5 470 p s rfl).trans (up_k hU3 (by exact Nat.ne_of_beq_eq_false rfl) p s)
    rw [e7] at b6 b6b ⊢
    refine rg_i (by omega) ?_
    refine iy_i (by omega) (by omega) ?_
    refine x_nm (fun U8 hU8 => ?_)
    have e9 := up_f hU8
    refine ix_i (by omega) ?_
    intro b10 b10b
    have e11 : U8 470 p s = (T 470 p s) - 1 := up_f hU8
    rw [e11] at b10 b10b ⊢
    refine rg_i (by omega) ?_
    have e13 : U8 103 p 0 = T 103 p 0 := (up_k hU8 (by exact Nat.ne_of_beq_eq_false rfl) p 0).trans ((fU5 103 p 0 rfl).trans (up_k hU3 (by exact Nat.ne_of_beq_eq_false rfl) p 0))
    refine ix_i (by omega) ?_
    intro b14 b14b
    have e15 : U8 401 (T 103 p 0) 9 = T 401 (T 103 p 0) 9 := (up_k hU8 (by exact Nat.ne_of_beq_eq_false rfl) (T 103 p 0) 9).trans ((fU5 401 (T 103 p 0) 9 rfl).trans (up_k hU3 (by exact Nat.ne_of_beq_eq_false rfl) (T 103 p 0) 9))
    have e16 : U8 401 (U8 103 p 0) 9 = T 401 (T 103 p 0) 9 := by rw [e13]; exact e15
    rw [e16] at b14 b14b ⊢
    refine And.intro (fun c17 => ?_) (fun c17 => ?_)
    · refine hK 84 _ [] U8 ?_
      refine j_blx (F := fX3) tb_X3 (nn_ _) bk_X3_sendOff_84 bs_X3_sendOff_84 hz (fun K hK => ?_)
      refine (show po_X3_sendOff T p s k U8 (none) from ?_)
      have e18 : U8 103 p 3 = T 103 p 3 := (up_k hU8 (by exact Nat.ne_of_beq_eq_false rfl) p 3).trans ((fU5 103 p 3 rfl).trans (up_k hU3 (by exact Nat.ne_of_beq_eq_false rfl) p 3))
      have e19 : U8 103 p 3 = T 103 p 3 := (up_k hU8 (by exact Nat.ne_of_beq_eq_false rfl) p 3).trans ((fU5 103 p 3 rfl).trans (up_k hU3 (by exact Nat.ne_of_beq_eq_false rfl) p 3))
      have g20 := fd_u hU8 hs
      have g21 : U5 470 p 0 = T 470 p 0 := (fU5 470 p 0 rfl).trans (up_k hU3 (by exact Nat.ne_of_beq_eq_false rfl) p 0)
      have g22 : U5 470 p 1 = T 470 p 1 := (fU5 470 p 1 rfl).trans (up_k hU3 (by exact Nat.ne_of_beq_eq_false rfl) p 1)
      exact ⟨rfl, fr_u (fr_t (fr_u (fr_0 _ _) hU3 rfl) (fr_s fU5 rfl)) hU8 rfl, oi_u (oi_t (oi_u (oi_r) hU3) qU5o) hU8, by exact fun z9 => by omega⟩
    · refine bd_i (by omega) ?_
      refine x_nm (fun U23 hU23 => ?_)
      have e24 := up_f hU23
      refine iy_i (by omega) (by omega) ?_
      refine x_nm (fun U25 hU25 => ?_)
      have e26 := up_f hU25
      refine rg_i (by omega) ?_
      have e28 : U25 103 p 0 = T 103 p 0 := (up_k hU25 (by exact Nat.ne_of_beq_eq_false rfl) p 0).trans ((up_j hU23 (by exact ni_ rfl) 103 p).trans ((up_k hU8 (by exact Nat.ne_of_beq_eq_false rfl) p 0).trans ((fU5 103 p 0 rfl).trans (up_k hU3 (by exact Nat.ne_of_beq_eq_false rfl) p 0))))
      refine ix_i (by omega) ?_
      intro b29 b29b
      have e30 : U25 401 (T 103 p 0) 12 = T 401 (T 103 p 0) 12 := (up_k hU25 (by exact Nat.ne_of_beq_eq_false rfl) (T 103 p 0) 12).trans ((up_k hU23 (by exact Nat.ne_of_beq_eq_false rfl) (T 103 p 0) 12).trans ((up_k hU8 (by exact Nat.ne_of_beq_eq_false rfl) (T 103 p 0) 12).trans ((fU5 401 (T 103 p 0) 12 rfl).trans (up_k hU3 (by exact Nat.ne_of_beq_eq_false rfl) (T 103 p 0) 12))))
      have e31 : U25 401 (U25 103 p 0) 12 = T 401 (T 103 p 0) 12 := by rw [e28]; exact e30
      rw [e31] at b29 b29b ⊢
      refine iy_i (by omega) (by omega) ?_
      refine x_nm (fun U32 hU32 => ?_)
      have e33 := up_f hU32
      refine (show po_X3_sendOff T p s k U32 (none) from ?_)
      have e34 : U32 103 p 3 = 1 := (up_k hU32 (by exact Nat.ne_of_beq_eq_false rfl) p 3).trans ((up_k hU25 (by exact Nat.ne_of_beq_eq_false rfl) p 3).trans (up_f hU23))
      have e35 : U32 470 p 0 = U8 470 p 0 := (up_k hU32 (by exact Nat.ne_of_beq_eq_false rfl) p 0).trans ((up_k hU25 (by exact Nat.ne_of_beq_eq_false rfl) p 0).trans (up_k hU23 (by exact Nat.ne_of_beq_eq_false rfl) p 0))
      have e36 : U32 470 p 1 = U8 470 p 1 := (up_k hU32 (by exact Nat.ne_of_beq_eq_false rfl) p 1).trans ((up_k hU25 (by exact Nat.ne_of_beq_eq_false rfl) p 1).trans (up_k hU23 (by exact Nat.ne_of_beq_eq_false rfl) p 1))
      have g37 : U32 470 p 0 = U8 470 p 0 := (up_k hU32 (by exact Nat.ne_of_beq_eq_false rfl) p 0).trans ((up_k hU25 (by exact Nat.ne_of_beq_eq_false rfl) p 0).trans (up_k hU23 (by exact Nat.ne_of_beq_eq_false rfl) p 0))
      have g38 : U32 470 p 1 = U8 470 p 1 := (up_k hU32 (by exact Nat.ne_of_beq_eq_false rfl) p 1).trans ((up_k hU25 (by exact Nat.ne_of_beq_eq_false rfl) p 1).trans (up_k hU23 (by exact Nat.ne_of_beq_eq_false rfl) p 1))
      have e39 : U32 103 p 3 = 1 := (up_k hU32 (by exact Nat.ne_of_beq_eq_false rfl) p 3).trans ((up_k hU25 (by exact Nat.ne_of_beq_eq_false rfl) p 3).trans (up_f hU23))
      have g40 := fd_u hU8 hs
      have g41 : U5 470 p 0 = T 470 p 0 := (fU5 470 p 0 rfl).trans (up_k hU3 (by exact Nat.ne_of_beq_eq_false rfl) p 0)
      have g42 : U5 470 p 1 = T 470 p 1 := (fU5 470 p 1 rfl).trans (up_k hU3 (by exact Nat.ne_of_beq_eq_false rfl) p 1)
      exact ⟨rfl, fr_u (fr_u (fr_u (fr_u (fr_t (fr_u (fr_0 _ _) hU3 rfl) (fr_s fU5 rfl)) hU8 rfl) hU23 rfl) hU25 rfl) hU32 rfl, oi_u (oi_u (oi_u (oi_u (oi_t (oi_u (oi_r) hU3) qU5o) hU8) hU23) hU25) hU32, by exact fun z9 => by omega⟩
  · refine (show po_X3_sendOff T p s k T (none) from ?_)
    exact ⟨rfl, fr_0 _ _, oi_r, by exact fun _ => by omega⟩
abbrev cX3_showYellow : ByteArray := prog_5_method_15_code
def yX3_showYellow : MethodName := ⟨RX3, "showYellow", "(II)V"⟩
def zX3_showYellow : Zm := (RX3, cX3_showYellow, 4, none, { frames := 2, cells := 0, slots := 0, locals := 45 })
theorem bk_X3_showYellow_0 : ck_ fX3 none cX3_showYellow 0 [.iload 2, .iconst (-1), .if_icmp .ne 6, .return_] 6 = true := qck_r (nn_ _) (by decide +kernel)
theorem bs_X3_showYellow_0 {P : Zt → Option Zv → Prop} (K : Int → Zl → List Zv → Zt → Prop) : sx_ K P [.iload 2, .iconst (-1), .if_icmp .ne 6, .return_] 6 = x_iload 2 (x_iconst (-1) (x_if_icmp .ne 6 K (x_return_ P))) := ((xe_iload 2).trans (congrArg (x_iload 2) ((xe_iconst (-1)).trans (congrArg (x_iconst (-1)) ((xe_if_icmp .ne 6).trans (congrArg (x_if_icmp .ne 6 K) (xe_return_)))))))
theorem bk_X3_showYellow_6 : ck_ fX3 none cX3_showYellow 6 [.aload 0, .tableswitch 0 3 11 #[], .iload 1, .iconst 6, .imul, .iload 2, .iadd, .iaload, .istore 3, .aload 0, .tableswitch 0 3 13 #[], .iload 3, .dup2, .iaload, .iconst 1, .fadd, .iastore, .aload 0, .tableswitch 0 3 13 #[], .iload 3, .iaload, .iconst 2, .if_icmp .ne 44, .aload 0, .iload 1, .iload 2] 41 = true := qck_r (nn_ _) (by decide +kernel)
theorem bs_X3_showYellow_6 {P : Zt → Option Zv → Prop} (K : Int → Zl → List Zv → Zt → Prop) : sx_ K P [.aload 0, .tableswitch 0 3 11 #[], .iload 1, .iconst 6, .imul, .iload 2, .iadd, .iaload, .istore 3, .aload 0, .tableswitch 0 3 13 #[], .iload 3, .dup2, .iaload, .iconst 1, .fadd, .iastore, .aload 0, .tableswitch 0 3 13 #[], .iload 3, .iaload, .iconst 2, .if_icmp .ne 44, .aload 0, .iload 1, .iload 2] 41 = x_aload 0 (x_g2 103 471 (x_iload 1 (x_iconst 6 (x_imul (x_iload 2 (x_iadd (x_iaload (x_istore 3 (x_aload 0 (x_g2 103 473 (x_iload 3 (x_dup2 (x_iaload (x_iconst 1 (x_fadd (x_iastore (x_aload 0 (x_g2 103 473 (x_iload 3 (x_iaload (x_iconst 2 (x_if_icmp .ne 44 K (x_aload 0 (x_iload 1 (x_iload 2 (K 41)))))))))))))))))))))))))) := ((xe_aload 0).trans (congrArg (x_aload 0) ((xe_g2 (kk := 103) rfl tl_3_11).trans (congrArg (x_g2 103 471) ((xe_iload 1).trans (congrArg (x_iload 1) ((xe_iconst 6).trans (congrArg (x_iconst 6) ((xe_imul).trans (congrArg (x_imul) ((xe_iload 2).trans (congrArg (x_iload 2) ((xe_iadd).trans (congrArg (x_iadd) ((xe_iaload).trans (congrArg (x_iaload) ((xe_istore 3).trans (congrArg (x_istore 3) ((xe_aload 0).trans (congrArg (x_aload 0) ((xe_g2 (kk := 103) rfl tl_3_13).trans (congrArg (x_g2 103 473) ((xe_iload 3).trans (congrArg (x_iload 3) ((xe_dup2).trans (congrArg (x_dup2) ((xe_iaload).trans (congrArg (x_iaload) ((xe_iconst 1).trans (congrArg (x_iconst 1) ((xe_fadd).trans (congrArg (x_fadd) ((xe_iastore).trans (congrArg (x_iastore) ((xe_aload 0).trans (congrArg (x_aload 0) ((xe_g2 (kk := 103) rfl tl_3_13).trans (congrArg (x_g2 103 473) ((xe_iload 3).trans (congrArg (x_iload 3) ((xe_iaload).trans (congrArg (x_iaload) ((xe_iconst 2).trans (congrArg (x_iconst 2) ((xe_if_icmp .ne 44).trans (congrArg (x_if_icmp .ne 44 K) ((xe_aload 0).trans (congrArg (x_aload 0) ((xe_iload 1).trans (congrArg (x_iload 1) ((xe_iload 2).trans (congrArg (x_iload 2) xe_nil))))))))))))))))))))))))))))))))))))))))))))))))))))
theorem bk_X3_showYellow_44 : ck_ fX3 none cX3_showYellow 44 [.return_] 45 = true := qck_r (nn_ _) (by decide +kernel)
theorem bs_X3_showYellow_44 {P : Zt → Option Zv → Prop} (K : Int → Zl → List Zv → Zt → Prop) : sx_ K P [.return_] 45 = x_return_ P := (xe_return_)
set_option maxRecDepth 100000 in
theorem cl_X3_116 : cv_ RX3 116 yX3_sendOff zX3_sendOff 3 2 := ⟨gi_V (lw_b5 76 (by decide +kernel) rfl : Cond.methodLink RX3 116 yX3_sendOff ∈ lw_g) (lw_b5 78 (by decide +kernel) rfl : Cond.instanceMethod yX3_sendOff ∈ lw_g) (lw_sel 99 rfl : Cond.selects yX3_sendOff.cls yX3_sendOff yX3_sendOff ∈ lw_g) (lw_b1 18 (by decide +kernel) rfl : Cond.initialized yX3_sendOff.cls ∈ lw_g) (lw_b5 79 rfl rfl : Cond.code yX3_sendOff cX3_sendOff 3 none ∈ lw_g), ⟨by decide, by decide, by decide +kernel⟩, ⟨_, _, rfl⟩⟩
abbrev po_X3_showYellow (T : Zt) (p : Int) (s k : Int) : Zt → Option Zv → Prop := fun T' r => r = none ∧ fr_ [(472, []), (471, []), (470, []), (103, [3]), (468, []), (473, [])] T T' ∧ (oi_ T T' p ∧ (T' 103 p 3 = 0 → 1 ≤ T' 470 p 0 ∧ 1 ≤ T' 470 p 1))
set_option maxHeartbeats 4000000 in
theorem ct_X3_showYellow {T : Zt} {p : Int} {s k : Int} (hs : 0 ≤ s ∧ s ≤ 1) (hk : k = -1 ∨ (0 ≤ k ∧ k < T 470 p s)) (hf : 1 ≤ T 401 (T 103 p 0) 9 ∧ T 401 (T 103 p 0) 9 ≤ 6) (hfd : 1 ≤ T 470 p 0 ∧ 1 ≤ T 470 p 1) : Ct_ yX3_showYellow zX3_showYellow T [vR 103 p, vI s, vI k] (po_X3_showYellow T p s k) := by
  refine ct_of pn_3 rfl rfl (Nat.le_of_ble_eq_true rfl) (fun hT hav => ?_)
  have hr_s : -2147483648 ≤ s ∧ s ≤ 2147483647 := hav (vI s) (by simp)
  have hr_k : -2147483648 ≤ k ∧ k ≤ 2147483647 := hav (vI k) (by simp)
  have hz : zX3_showYellow.2.2.2.1 = some .boolean → ∀ (T' : Zt) (x : Int), po_X3_showYellow T p s k T' (some (vI x)) → 0 ≤ x ∧ x ≤ 1 := fun h => by cases h
  have hfs : 0 ≤ T 470 p s ∧ T 470 p s ≤ 6 := bd_a hT 470 (by decide +kernel : ta_ 470 = some (1, some 2, 0, 6)) p (by omega)
  show J_ zX3_showYellow T (po_X3_showYellow T p s k) 0 0 0 [some (vR 103 p), some (vI s), some (vI k), none] [] T
  refine j_blx (F := fX3) tb_X3 (nn_ _) bk_X3_showYellow_0 bs_X3_showYellow_0 hz (fun K hK => ?_)
  refine And.intro (fun c1 => ?_) (fun c1 => ?_)
  · refine hK 6 _ [] T ?_
    refine j_blx (F := fX3) tb_X3 (nn_ _) bk_X3_showYellow_6 bs_X3_showYellow_6 hz (fun K hK => ?_)
    refine rg_i (by omega) ?_
    refine rg_i (by omega) ?_
    refine ix_i (by omega) ?_
    intro b2 b2b
    refine ix_i (by omega) ?_
    intro b3 b3b
    intro w4 w4b
    refine iy_i (by omega) (by omega) ?_
    refine x_nm (fun U5 hU5 => ?_)
    have e6 := up_f hU5
    refine ix_i (by omega) ?_
    intro b7 b7b
    have e8 : U5 473 p (T 471 p ((s * 6) + k)) = wr_ ((T 473 p (T 471 p ((s * 6) + k))) + 1) := up_f hU5
    rw [e8] at b7 b7b ⊢
    refine And.intro (fun c9 => ?_) (fun c9 => ?_)
    · refine hK 44 [some (vR 103 p), some (vI s), some (vI k), some (vI (T 471 p ((s * 6) + k)))] [] U5 ?_
      refine j_blx (F := fX3) tb_X3 (nn_ _) bk_X3_showYellow_44 bs_X3_showYellow_44 hz (fun K hK => ?_)
      refine (show po_X3_showYellow T p s k U5 (none) from ?_)
      have e10 : U5 103 p 3 = T 103 p 3 := up_k hU5 (by exact Nat.ne_of_beq_eq_false rfl) p 3
      have e11 : U5 470 p 0 = T 470 p 0 := up_k hU5 (by exact Nat.ne_of_beq_eq_false rfl) p 0
      have e12 : U5 470 p 1 = T 470 p 1 := up_k hU5 (by exact Nat.ne_of_beq_eq_false rfl) p 1
      have g13 : U5 470 p 0 = T 470 p 0 := up_k hU5 (by exact Nat.ne_of_beq_eq_false rfl) p 0
      have g14 : U5 470 p 1 = T 470 p 1 := up_k hU5 (by exact Nat.ne_of_beq_eq_false rfl) p 1
      have e15 : U5 103 p 3 = T 103 p 3 := up_k hU5 (by exact Nat.ne_of_beq_eq_false rfl) p 3
      exact ⟨rfl, fr_u (fr_0 _ _) hU5 rfl, oi_u (oi_r) hU5, by exact fun _ => by omega⟩
    · refine hK 41 _ [vI k, vI s, vR 103 p] U5 ?_
      have e16 : U5 103 p 0 = T 103 p 0 := up_k hU5 (by exact Nat.ne_of_beq_eq_false rfl) p 0
      have e17 : U5 401 (T 103 p 0) 9 = T 401 (T 103 p 0) 9 := up_k hU5 (by exact Nat.ne_of_beq_eq_false rfl) (T 103 p 0) 9
      have r18 : U5 401 (U5 103 p 0) 9 = T 401 (T 103 p 0) 9 := by rw [e16]; exact e17
      have e19 : U5 103 p 0 = T 103 p 0 := up_k hU5 (by exact Nat.ne_of_beq_eq_false rfl) p 0
      have e20 : U5 401 (T 103 p 0) 9 = T 401 (T 103 p 0) 9 := up_k hU5 (by exact Nat.ne_of_beq_eq_false rfl) (T 103 p 0) 9
      have r21 : U5 401 (U5 103 p 0) 9 = T 401 (T 103 p 0) 9 := by rw [e19]; exact e20
      have e22 : U5 470 p s = T 470 p s := up_k hU5 (by exact Nat.ne_of_beq_eq_false rfl) p s
      have e23 : U5 103 p 0 = T 103 p 0 := up_k hU5 (by exact Nat.ne_of_beq_eq_false rfl) p 0
      have e24 : U5 470 p 0 = T 470 p 0 := up_k hU5 (by exact Nat.ne_of_beq_eq_false rfl) p 0
      have e25 : U5 470 p 1 = T 470 p 1 := up_k hU5 (by exact Nat.ne_of_beq_eq_false rfl) p 1
      refine j_callV (y := yX3_sendOff) (Yc := zX3_sendOff) (rest := []) [vI s, vI k] (ct_X3_sendOff (T := U5) (by omega) (by (have y9 : U5 470 p s = T 470 p s := up_k hU5 (by exact Nat.ne_of_beq_eq_false rfl) p s); omega) (by omega) (by omega)) cl_X3_116 (qd_c (by decide +kernel)) (nn_ _) rfl (rf_of rfl) (Nat.le_of_ble_eq_true rfl) (Nat.le_of_ble_eq_true rfl) (Nat.le_of_ble_eq_true rfl) rfl ?_
      rintro U26 _ ⟨rfl, fU26, qU26o, qU26⟩
      show J_ zX3_showYellow T (po_X3_showYellow T p s k) 0 0 44 _ [] U26
      refine j_blx (F := fX3) tb_X3 (nn_ _) bk_X3_showYellow_44 bs_X3_showYellow_44 hz (fun K hK => ?_)
      refine (show po_X3_showYellow T p s k U26 (none) from ?_)
      exact ⟨rfl, fr_t (fr_u (fr_0 _ _) hU5 rfl) (fr_s fU26 rfl), oi_t (oi_u (oi_r) hU5) qU26o, by exact fun z9 => by have y9 := qU26; omega⟩
  · refine (show po_X3_showYellow T p s k T (none) from ?_)
    exact ⟨rfl, fr_0 _ _, oi_r, by exact fun _ => by omega⟩
abbrev cX3_substitute : ByteArray := prog_5_method_13_code
def yX3_substitute : MethodName := ⟨RX3, "substitute", "(III)V"⟩
def zX3_substitute : Zm := (RX3, cX3_substitute, 6, none, { frames := 2, cells := 0, slots := 0, locals := 45 })
theorem bk_X3_substitute_0 : ck_ fX3 none cX3_substitute 0 [.aload 0, .iload 1, .iload 2] 3 = true := qck_r (nn_ _) (by decide +kernel)
theorem bs_X3_substitute_0 {P : Zt → Option Zv → Prop} (K : Int → Zl → List Zv → Zt → Prop) : sx_ K P [.aload 0, .iload 1, .iload 2] 3 = x_aload 0 (x_iload 1 (x_iload 2 (K 3))) := ((xe_aload 0).trans (congrArg (x_aload 0) ((xe_iload 1).trans (congrArg (x_iload 1) ((xe_iload 2).trans (congrArg (x_iload 2) xe_nil))))))
set_option maxRecDepth 100000 in
theorem cl_X3_79 : cv_ RX3 79 yX3_fieldPlace zX3_fieldPlace 3 2 := ⟨gi_V (lw_b5 44 (by decide +kernel) rfl : Cond.methodLink RX3 79 yX3_fieldPlace ∈ lw_g) (lw_b5 46 (by decide +kernel) rfl : Cond.instanceMethod yX3_fieldPlace ∈ lw_g) (lw_sel 87 rfl : Cond.selects yX3_fieldPlace.cls yX3_fieldPlace yX3_fieldPlace ∈ lw_g) (lw_b1 18 (by decide +kernel) rfl : Cond.initialized yX3_fieldPlace.cls ∈ lw_g) (lw_b5 47 rfl rfl : Cond.code yX3_fieldPlace cX3_fieldPlace 4 (some .int) ∈ lw_g), ⟨by decide, by decide, by decide +kernel⟩, ⟨_, _, rfl⟩⟩
theorem bk_X3_substitute_6 : ck_ fX3 none cX3_substitute 6 [.istore 4, .aload 0, .iload 1, .iload 3] 11 = true := qck_r (nn_ _) (by decide +kernel)
theorem bs_X3_substitute_6 {P : Zt → Option Zv → Prop} (K : Int → Zl → List Zv → Zt → Prop) : sx_ K P [.istore 4, .aload 0, .iload 1, .iload 3] 11 = x_istore 4 (x_aload 0 (x_iload 1 (x_iload 3 (K 11)))) := ((xe_istore 4).trans (congrArg (x_istore 4) ((xe_aload 0).trans (congrArg (x_aload 0) ((xe_iload 1).trans (congrArg (x_iload 1) ((xe_iload 3).trans (congrArg (x_iload 3) xe_nil))))))))
set_option maxRecDepth 100000 in
theorem cl_X3_83 : cv_ RX3 83 yX3_benchPlace zX3_benchPlace 3 2 := ⟨gi_V (lw_b5 52 (by decide +kernel) rfl : Cond.methodLink RX3 83 yX3_benchPlace ∈ lw_g) (lw_b5 54 (by decide +kernel) rfl : Cond.instanceMethod yX3_benchPlace ∈ lw_g) (lw_sel 83 rfl : Cond.selects yX3_benchPlace.cls yX3_benchPlace yX3_benchPlace ∈ lw_g) (lw_b1 18 (by decide +kernel) rfl : Cond.initialized yX3_benchPlace.cls ∈ lw_g) (lw_b5 55 rfl rfl : Cond.code yX3_benchPlace cX3_benchPlace 5 (some .int) ∈ lw_g), ⟨by decide, by decide, by decide +kernel⟩, ⟨_, _, rfl⟩⟩
theorem bk_X3_substitute_14 : ck_ fX3 none cX3_substitute 14 [.istore 5, .iload 4, .iconst (-1), .if_icmp .eq 28, .iload 5, .iconst (-1), .if_icmp .ne 29, .return_] 29 = true := qck_r (nn_ _) (by decide +kernel)
theorem bs_X3_substitute_14 {P : Zt → Option Zv → Prop} (K : Int → Zl → List Zv → Zt → Prop) : sx_ K P [.istore 5, .iload 4, .iconst (-1), .if_icmp .eq 28, .iload 5, .iconst (-1), .if_icmp .ne 29, .return_] 29 = x_istore 5 (x_iload 4 (x_iconst (-1) (x_if_icmp .eq 28 K (x_iload 5 (x_iconst (-1) (x_if_icmp .ne 29 K (x_return_ P))))))) := ((xe_istore 5).trans (congrArg (x_istore 5) ((xe_iload 4).trans (congrArg (x_iload 4) ((xe_iconst (-1)).trans (congrArg (x_iconst (-1)) ((xe_if_icmp .eq 28).trans (congrArg (x_if_icmp .eq 28 K) ((xe_iload 5).trans (congrArg (x_iload 5) ((xe_iconst (-1)).trans (congrArg (x_iconst (-1)) ((xe_if_icmp .ne 29).trans (congrArg (x_if_icmp .ne 29 K) (xe_return_)))))))))))))))
theorem bk_X3_substitute_28 : ck_ fX3 none cX3_substitute 28 [.return_] 29 = true := qck_r (nn_ _) (by decide +kernel)
theorem bs_X3_substitute_28 {P : Zt → Option Zv → Prop} (K : Int → Zl → List Zv → Zt → Prop) : sx_ K P [.return_] 29 = x_return_ P := (xe_return_)
theorem bk_X3_substitute_29 : ck_ fX3 none cX3_substitute 29 [.aload 0, .tableswitch 0 3 12 #[], .aload 0, .tableswitch 0 3 11 #[], .iload 1, .iconst 6, .imul, .iload 4, .iadd, .iaload, .iconst 2, .iastore, .aload 0, .tableswitch 0 3 12 #[], .iload 5, .iconst 1, .iastore, .aload 0, .tableswitch 0 3 11 #[], .iload 1, .iconst 6, .imul, .iload 4, .iadd, .iload 5, .iastore, .aload 0, .tableswitch 0 3 9 #[], .iload 1, .dup2, .iaload, .iconst 1, .fadd, .iastore, .return_] 80 = true := qck_r (nn_ _) (by decide +kernel)
theorem bs_X3_substitute_29 {P : Zt → Option Zv → Prop} (K : Int → Zl → List Zv → Zt → Prop) : sx_ K P [.aload 0, .tableswitch 0 3 12 #[], .aload 0, .tableswitch 0 3 11 #[], .iload 1, .iconst 6, .imul, .iload 4, .iadd, .iaload, .iconst 2, .iastore, .aload 0, .tableswitch 0 3 12 #[], .iload 5, .iconst 1, .iastore, .aload 0, .tableswitch 0 3 11 #[], .iload 1, .iconst 6, .imul, .iload 4, .iadd, .iload 5, .iastore, .aload 0, .tableswitch 0 3 9 #[], .iload 1, .dup2, .iaload, .iconst 1, .fadd, .iastore, .return_] 80 = x_aload 0 (x_g2 103 472 (x_aload 0 (x_g2 103 471 (x_iload 1 (x_iconst 6 (x_imul (x_iload 4 (x_iadd (x_iaload (x_iconst 2 (x_iastore (x_aload 0 (x_g2 103 472 (x_iload 5 (x_iconst 1 (x_iastore (x_aload 0 (x_g2 103 471 (x_iload 1 (x_iconst 6 (x_imul (x_iload 4 (x_iadd (x_iload 5 (x_iastore (x_aload 0 (x_g2 103 469 (x_iload 1 (x_dup2 (x_iaload (x_iconst 1 (x_fadd (x_iastore (x_return_ P)))))))))))))))))))))))))))))))))) := ((xe_aload 0).trans (congrArg (x_aload 0) ((xe_g2 (kk := 103) rfl tl_3_12).trans (congrArg (x_g2 103 472) ((xe_aload 0).trans (congrArg (x_aload 0) ((xe_g2 (kk := 103) rfl tl_3_11).trans (congrArg (x_g2 103 471) ((xe_iload 1).trans (congrArg (x_iload 1) ((xe_iconst 6).trans (congrArg (x_iconst 6) ((xe_imul).trans (congrArg (x_imul) ((xe_iload 4).trans (congrArg (x_iload 4) ((xe_iadd).trans (congrArg (x_iadd) ((xe_iaload).trans (congrArg (x_iaload) ((xe_iconst 2).trans (congrArg (x_iconst 2) ((xe_iastore).trans (congrArg (x_iastore) ((xe_aload 0).trans (congrArg (x_aload 0) ((xe_g2 (kk := 103) rfl tl_3_12).trans (congrArg (x_g2 103 472) ((xe_iload 5).trans (congrArg (x_iload 5) ((xe_iconst 1).trans (congrArg (x_iconst 1) ((xe_iastore).trans (congrArg (x_iastore) ((xe_aload 0).trans (congrArg (x_aload 0) ((xe_g2 (kk := 103) rfl tl_3_11).trans (congrArg (x_g2 103 471) ((xe_iload 1).trans (congrArg (x_iload 1) ((xe_iconst 6).trans (congrArg (x_iconst 6) ((xe_imul).trans (congrArg (x_imul) ((xe_iload 4).trans (congrArg (x_iload 4) ((xe_iadd).trans (congrArg (x_iadd) ((xe_iload 5).trans (congrArg (x_iload 5) ((xe_iastore).trans (congrArg (x_iastore) ((xe_aload 0).trans (congrArg (x_aload 0) ((xe_g2 (kk := 103) rfl tl_3_9).trans (congrArg (x_g2 103 469) ((xe_iload 1).trans (congrArg (x_iload 1) ((xe_dup2).trans (congrArg (x_dup2) ((xe_iaload).trans (congrArg (x_iaload) ((xe_iconst 1).trans (congrArg (x_iconst 1) ((xe_fadd).trans (congrArg (x_fadd) ((xe_iastore).trans (congrArg (x_iastore) (xe_return_)))))))))))))))))))))))))))))))))))))))))))))))))))))))))))))))))))))
abbrev po_X3_substitute (T : Zt) (p : Int) (s a b : Int) : Zt → Option Zv → Prop := fun T' r => r = none ∧ fr_ [(472, []), (471, []), (469, [])] T T' ∧ (oi_ T T' p ∧ (0 = (0 : Int)))
set_option maxHeartbeats 4000000 in
theorem ct_X3_substitute {T : Zt} {p : Int} {s a b : Int} (hs : 0 ≤ s ∧ s ≤ 1) : Ct_ yX3_substitute zX3_substitute T [vR 103 p, vI s, vI a, vI b] (po_X3_substitute T p s a b) := by
  refine ct_of pn_3 rfl rfl (Nat.le_of_ble_eq_true rfl) (fun hT hav => ?_)
  have hr_s : -2147483648 ≤ s ∧ s ≤ 2147483647 := hav (vI s) (by simp)
  have hr_a : -2147483648 ≤ a ∧ a ≤ 2147483647 := hav (vI a) (by simp)
  have hr_b : -2147483648 ≤ b ∧ b ≤ 2147483647 := hav (vI b) (by simp)
  have hz : zX3_substitute.2.2.2.1 = some .boolean → ∀ (T' : Zt) (x : Int), po_X3_substitute T p s a b T' (some (vI x)) → 0 ≤ x ∧ x ≤ 1 := fun h => by cases h
  have hfs : 0 ≤ T 470 p s ∧ T 470 p s ≤ 6 := bd_a hT 470 (by decide +kernel : ta_ 470 = some (1, some 2, 0, 6)) p (by omega)
  show J_ zX3_substitute T (po_X3_substitute T p s a b) 0 0 0 [some (vR 103 p), some (vI s), some (vI a), some (vI b), none, none] [] T
  refine j_blx (F := fX3) tb_X3 (nn_ _) bk_X3_substitute_0 bs_X3_substitute_0 hz (fun K hK => ?_)
  refine hK 3 _ [vI a, vI s, vR 103 p] T ?_
  refine j_callV (y := yX3_fieldPlace) (Yc := zX3_fieldPlace) (rest := []) [vI s, vI a] (ct_X3_fieldPlace (T := T) (by omega)) cl_X3_79 (qd_c (by decide +kernel)) (nn_ _) rfl (rf_of rfl) (Nat.le_of_ble_eq_true rfl) (Nat.le_of_ble_eq_true rfl) (Nat.le_of_ble_eq_true rfl) rfl ?_
  rintro _ _ ⟨rfl, x1, rfl, hx1⟩
  show J_ zX3_substitute T (po_X3_substitute T p s a b) 0 0 6 _ [vI x1] T
  refine j_blx (F := fX3) tb_X3 (nn_ _) bk_X3_substitute_6 bs_X3_substitute_6 hz (fun K hK => ?_)
  refine hK 11 [some (vR 103 p), some (vI s), some (vI a), some (vI b), some (vI x1), none] [vI b, vI s, vR 103 p] T ?_
  refine j_callV (y := yX3_benchPlace) (Yc := zX3_benchPlace) (rest := []) [vI s, vI b] (ct_X3_benchPlace (T := T) (by omega)) cl_X3_83 (qd_c (by decide +kernel)) (nn_ _) rfl (rf_of rfl) (Nat.le_of_ble_eq_true rfl) (Nat.le_of_ble_eq_true rfl) (Nat.le_of_ble_eq_true rfl) rfl ?_
  rintro _ _ ⟨rfl, x2, rfl, hx2⟩
  show J_ zX3_substitute T (po_X3_substitute T p s a b) 0 0 14 _ [vI x2] T
  refine j_blx (F := fX3) tb_X3 (nn_ _) bk_X3_substitute_14 bs_X3_substitute_14 hz (fun K hK => ?_)
  refine And.intro (fun c3 => ?_) (fun c3 => ?_)
  · refine hK 28 [some (vR 103 p), some (vI s), some (vI a), some (vI b), some (vI x1), some (vI x2)] [] T ?_
    refine j_blx (F := fX3) tb_X3 (nn_ _) bk_X3_substitute_28 bs_X3_substitute_28 hz (fun K hK => ?_)
    refine (show po_X3_substitute T p s a b T (none) from ?_)
    exact ⟨rfl, fr_0 _ _, oi_r, by rfl⟩
  · refine And.intro (fun c4 => ?_) (fun c4 => ?_)
    · refine hK 29 _ [] T ?_
      refine j_blx (F := fX3) tb_X3 (nn_ _) bk_X3_substitute_29 bs_X3_substitute_29 hz (fun K hK => ?_)
      refine rg_i (by omega) ?_
      refine rg_i (by omega) ?_
      refine ix_i (by omega) ?_
      intro b5 b5b
      refine iy_i (by omega) (by omega) ?_
      refine x_nm (fun U6 hU6 => ?_)
      have e7 := up_f hU6
      refine iy_i (by omega) (by omega) ?_
      refine x_nm (fun U8 hU8 => ?_)
      have e9 := up_f hU8
      refine rg_i (by omega) ?_
      refine rg_i (by omega) ?_
      refine iy_i (by omega) (by omega) ?_
      refine x_nm (fun U10 hU10 => ?_)
      have e11 := up_f hU10
      refine ix_i (by omega) ?_
      intro b12 b12b
      have e13 : U10 469 p s = T 469 p s := (up_k hU10 (by exact Nat.ne_of_beq_eq_false rfl) p s).trans ((up_k hU8 (by exact Nat.ne_of_beq_eq_false rfl) p s).trans (up_k hU6 (by exact Nat.ne_of_beq_eq_false rfl) p s))
      rw [e13] at b12 b12b ⊢
      intro w14 w14b
      refine iy_i (by omega) (by omega) ?_
      refine x_nm (fun U15 hU15 => ?_)
      have e16 := up_f hU15
      refine (show po_X3_substitute T p s a b U15 (none) from ?_)
      exact ⟨rfl, fr_u (fr_u (fr_u (fr_u (fr_0 _ _) hU6 rfl) hU8 rfl) hU10 rfl) hU15 rfl, oi_u (oi_u (oi_u (oi_u (oi_r) hU6) hU8) hU10) hU15, by rfl⟩
    · refine (show po_X3_substitute T p s a b T (none) from ?_)
      exact ⟨rfl, fr_0 _ _, oi_r, by rfl⟩
abbrev cX3_playFootball : ByteArray := prog_5_method_14_code
def yX3_playFootball : MethodName := ⟨RX3, "playFootball", "(III)V"⟩
def zX3_playFootball : Zm := (RX3, cX3_playFootball, 4, none, { frames := 3, cells := 0, slots := 0, locals := 68 })
theorem bk_X3_playFootball_0 : ck_ fX3 none cX3_playFootball 0 [.iload 1] 1 = true := qck_r (nn_ _) (by decide +kernel)
theorem bs_X3_playFootball_0 {P : Zt → Option Zv → Prop} (K : Int → Zl → List Zv → Zt → Prop) : sx_ K P [.iload 1] 1 = x_iload 1 (K 1) := ((xe_iload 1).trans (congrArg (x_iload 1) xe_nil))
theorem ds_X3_playFootball_1 : decode cX3_playFootball 1 = .ok (.tableswitch 87 1 4 #[31, 44, 59, 73], 31) := by decide +kernel
theorem bk_X3_playFootball_32 : ck_ fX3 none cX3_playFootball 32 [.aload 0, .tableswitch 0 3 8 #[], .iload 2, .dup2, .iaload, .iconst 1, .fadd, .iastore, .goto 115] 45 = true := qck_r (nn_ _) (by decide +kernel)
theorem bs_X3_playFootball_32 {P : Zt → Option Zv → Prop} (K : Int → Zl → List Zv → Zt → Prop) : sx_ K P [.aload 0, .tableswitch 0 3 8 #[], .iload 2, .dup2, .iaload, .iconst 1, .fadd, .iastore, .goto 115] 45 = x_aload 0 (x_g2 103 468 (x_iload 2 (x_dup2 (x_iaload (x_iconst 1 (x_fadd (x_iastore (x_goto 115 K)))))))) := ((xe_aload 0).trans (congrArg (x_aload 0) ((xe_g2 (kk := 103) rfl tl_3_8).trans (congrArg (x_g2 103 468) ((xe_iload 2).trans (congrArg (x_iload 2) ((xe_dup2).trans (congrArg (x_dup2) ((xe_iaload).trans (congrArg (x_iaload) ((xe_iconst 1).trans (congrArg (x_iconst 1) ((xe_fadd).trans (congrArg (x_fadd) ((xe_iastore).trans (congrArg (x_iastore) (xe_goto 115)))))))))))))))))
theorem bk_X3_playFootball_115 : ck_ fX3 none cX3_playFootball 115 [.return_] 116 = true := qck_r (nn_ _) (by decide +kernel)
theorem bs_X3_playFootball_115 {P : Zt → Option Zv → Prop} (K : Int → Zl → List Zv → Zt → Prop) : sx_ K P [.return_] 116 = x_return_ P := (xe_return_)
theorem bk_X3_playFootball_45 : ck_ fX3 none cX3_playFootball 45 [.aload 0, .tableswitch 0 3 8 #[], .iconst 1, .iload 2, .isub, .dup2, .iaload, .iconst 1, .fadd, .iastore, .goto 115] 60 = true := qck_r (nn_ _) (by decide +kernel)
theorem bs_X3_playFootball_45 {P : Zt → Option Zv → Prop} (K : Int → Zl → List Zv → Zt → Prop) : sx_ K P [.aload 0, .tableswitch 0 3 8 #[], .iconst 1, .iload 2, .isub, .dup2, .iaload, .iconst 1, .fadd, .iastore, .goto 115] 60 = x_aload 0 (x_g2 103 468 (x_iconst 1 (x_iload 2 (x_isub (x_dup2 (x_iaload (x_iconst 1 (x_fadd (x_iastore (x_goto 115 K)))))))))) := ((xe_aload 0).trans (congrArg (x_aload 0) ((xe_g2 (kk := 103) rfl tl_3_8).trans (congrArg (x_g2 103 468) ((xe_iconst 1).trans (congrArg (x_iconst 1) ((xe_iload 2).trans (congrArg (x_iload 2) ((xe_isub).trans (congrArg (x_isub) ((xe_dup2).trans (congrArg (x_dup2) ((xe_iaload).trans (congrArg (x_iaload) ((xe_iconst 1).trans (congrArg (x_iconst 1) ((xe_fadd).trans (congrArg (x_fadd) ((xe_iastore).trans (congrArg (x_iastore) (xe_goto 115)))))))))))))))))))))
theorem bk_X3_playFootball_60 : ck_ fX3 none cX3_playFootball 60 [.aload 0, .iload 2, .aload 0, .iload 2, .iload 3] 65 = true := qck_r (nn_ _) (by decide +kernel)
theorem bs_X3_playFootball_60 {P : Zt → Option Zv → Prop} (K : Int → Zl → List Zv → Zt → Prop) : sx_ K P [.aload 0, .iload 2, .aload 0, .iload 2, .iload 3] 65 = x_aload 0 (x_iload 2 (x_aload 0 (x_iload 2 (x_iload 3 (K 65))))) := ((xe_aload 0).trans (congrArg (x_aload 0) ((xe_iload 2).trans (congrArg (x_iload 2) ((xe_aload 0).trans (congrArg (x_aload 0) ((xe_iload 2).trans (congrArg (x_iload 2) ((xe_iload 3).trans (congrArg (x_iload 3) xe_nil))))))))))
set_option maxRecDepth 100000 in
theorem cl_X3_113 : cv_ RX3 113 yX3_showYellow zX3_showYellow 3 2 := ⟨gi_V (lw_b5 72 (by decide +kernel) rfl : Cond.methodLink RX3 113 yX3_showYellow ∈ lw_g) (lw_b5 74 (by decide +kernel) rfl : Cond.instanceMethod yX3_showYellow ∈ lw_g) (lw_sel 100 rfl : Cond.selects yX3_showYellow.cls yX3_showYellow yX3_showYellow ∈ lw_g) (lw_b1 18 (by decide +kernel) rfl : Cond.initialized yX3_showYellow.cls ∈ lw_g) (lw_b5 75 rfl rfl : Cond.code yX3_showYellow cX3_showYellow 4 none ∈ lw_g), ⟨by decide, by decide, by decide +kernel⟩, ⟨_, _, rfl⟩⟩
theorem bk_X3_playFootball_71 : ck_ fX3 none cX3_playFootball 71 [.goto 115] 74 = true := qck_r (nn_ _) (by decide +kernel)
theorem bs_X3_playFootball_71 {P : Zt → Option Zv → Prop} (K : Int → Zl → List Zv → Zt → Prop) : sx_ K P [.goto 115] 74 = x_goto 115 K := (xe_goto 115)
theorem bk_X3_playFootball_74 : ck_ fX3 none cX3_playFootball 74 [.aload 0, .iload 2, .aload 0, .iload 2, .iload 3] 79 = true := qck_r (nn_ _) (by decide +kernel)
theorem bs_X3_playFootball_74 {P : Zt → Option Zv → Prop} (K : Int → Zl → List Zv → Zt → Prop) : sx_ K P [.aload 0, .iload 2, .aload 0, .iload 2, .iload 3] 79 = x_aload 0 (x_iload 2 (x_aload 0 (x_iload 2 (x_iload 3 (K 79))))) := ((xe_aload 0).trans (congrArg (x_aload 0) ((xe_iload 2).trans (congrArg (x_iload 2) ((xe_aload 0).trans (congrArg (x_aload 0) ((xe_iload 2).trans (congrArg (x_iload 2) ((xe_iload 3).trans (congrArg (x_iload 3) xe_nil))))))))))
theorem bk_X3_playFootball_85 : ck_ fX3 none cX3_playFootball 85 [.goto 115] 88 = true := qck_r (nn_ _) (by decide +kernel)
theorem bs_X3_playFootball_85 {P : Zt → Option Zv → Prop} (K : Int → Zl → List Zv → Zt → Prop) : sx_ K P [.goto 115] 88 = x_goto 115 K := (xe_goto 115)
theorem bk_X3_playFootball_88 : ck_ fX3 none cX3_playFootball 88 [.aload 0, .dup, .tableswitch 0 3 4 #[], .iconst 1, .fadd, .tableswitch 1 3 4 #[], .aload 0, .aload 0, .tableswitch 0 3 4 #[], .iconst 3, .if_icmp .ne 111, .iconst 1, .goto 112] 111 = true := qck_r (nn_ _) (by decide +kernel)
theorem bs_X3_playFootball_88 {P : Zt → Option Zv → Prop} (K : Int → Zl → List Zv → Zt → Prop) : sx_ K P [.aload 0, .dup, .tableswitch 0 3 4 #[], .iconst 1, .fadd, .tableswitch 1 3 4 #[], .aload 0, .aload 0, .tableswitch 0 3 4 #[], .iconst 3, .if_icmp .ne 111, .iconst 1, .goto 112] 111 = x_aload 0 (x_dup (x_g0 103 4 (-2147483648) 2147483647 (x_iconst 1 (x_fadd (x_p 103 4 (-2147483648) 2147483647 (x_aload 0 (x_aload 0 (x_g0 103 4 (-2147483648) 2147483647 (x_iconst 3 (x_if_icmp .ne 111 K (x_iconst 1 (x_goto 112 K)))))))))))) := ((xe_aload 0).trans (congrArg (x_aload 0) ((xe_dup).trans (congrArg (x_dup) ((xe_g0 (kk := 103) rfl tl_3_4).trans (congrArg (x_g0 103 4 (-2147483648) 2147483647) ((xe_iconst 1).trans (congrArg (x_iconst 1) ((xe_fadd).trans (congrArg (x_fadd) ((xe_p (kk := 103) rfl tl_3_4).trans (congrArg (x_p 103 4 (-2147483648) 2147483647) ((xe_aload 0).trans (congrArg (x_aload 0) ((xe_aload 0).trans (congrArg (x_aload 0) ((xe_g0 (kk := 103) rfl tl_3_4).trans (congrArg (x_g0 103 4 (-2147483648) 2147483647) ((xe_iconst 3).trans (congrArg (x_iconst 3) ((xe_if_icmp .ne 111).trans (congrArg (x_if_icmp .ne 111 K) ((xe_iconst 1).trans (congrArg (x_iconst 1) (xe_goto 112)))))))))))))))))))))))))
theorem bk_X3_playFootball_111 : ck_ fX3 none cX3_playFootball 111 [.iconst 0, .tableswitch 1 3 3 #[], .return_] 116 = true := qck_r (nn_ _) (by decide +kernel)
theorem bs_X3_playFootball_111 {P : Zt → Option Zv → Prop} (K : Int → Zl → List Zv → Zt → Prop) : sx_ K P [.iconst 0, .tableswitch 1 3 3 #[], .return_] 116 = x_iconst 0 (x_p 103 3 0 1 (x_return_ P)) := ((xe_iconst 0).trans (congrArg (x_iconst 0) ((xe_p (kk := 103) rfl tl_3_3).trans (congrArg (x_p 103 3 0 1) (xe_return_)))))
theorem bk_X3_playFootball_112 : ck_ fX3 none cX3_playFootball 112 [.tableswitch 1 3 3 #[], .return_] 116 = true := qck_r (nn_ _) (by decide +kernel)
theorem bs_X3_playFootball_112 {P : Zt → Option Zv → Prop} (K : Int → Zl → List Zv → Zt → Prop) : sx_ K P [.tableswitch 1 3 3 #[], .return_] 116 = x_p 103 3 0 1 (x_return_ P) := ((xe_p (kk := 103) rfl tl_3_3).trans (congrArg (x_p 103 3 0 1) (xe_return_)))
abbrev po_X3_playFootball (T : Zt) (p : Int) (k s q : Int) : Zt → Option Zv → Prop := fun T' r => r = none ∧ fr_ [(472, []), (471, []), (470, []), (103, [3, 4]), (468, []), (473, [])] T T' ∧ (oi_ T T' p ∧ (T' 103 p 3 = 0 → 1 ≤ T' 470 p 0 ∧ 1 ≤ T' 470 p 1))
set_option maxHeartbeats 4000000 in
theorem ct_X3_playFootball {T : Zt} {p : Int} {k s q : Int} (hs : k = 0 ∨ (0 ≤ s ∧ s ≤ 1)) (hk : 0 ≤ k ∧ k ≤ 4) (hf : 1 ≤ T 401 (T 103 p 0) 9 ∧ T 401 (T 103 p 0) 9 ≤ 6) (hfd : 1 ≤ T 470 p 0 ∧ 1 ≤ T 470 p 1) : Ct_ yX3_playFootball zX3_playFootball T [vR 103 p, vI k, vI s, vI q] (po_X3_playFootball T p k s q) := by
  refine ct_of pn_3 rfl rfl (Nat.le_of_ble_eq_true rfl) (fun hT hav => ?_)
  have hr_k : -2147483648 ≤ k ∧ k ≤ 2147483647 := hav (vI k) (by simp)
  have hr_s : -2147483648 ≤ s ∧ s ≤ 2147483647 := hav (vI s) (by simp)
  have hr_q : -2147483648 ≤ q ∧ q ≤ 2147483647 := hav (vI q) (by simp)
  have hz : zX3_playFootball.2.2.2.1 = some .boolean → ∀ (T' : Zt) (x : Int), po_X3_playFootball T p k s q T' (some (vI x)) → 0 ≤ x ∧ x ≤ 1 := fun h => by cases h
  show J_ zX3_playFootball T (po_X3_playFootball T p k s q) 0 0 0 [some (vR 103 p), some (vI k), some (vI s), some (vI q)] [] T
  refine j_blx (F := fX3) tb_X3 (nn_ _) bk_X3_playFootball_0 bs_X3_playFootball_0 hz (fun K hK => ?_)
  refine hK 1 _ [vI k] T ?_
  by_cases z1_0 : k = 1
  · refine j_tsI (pc := 1) 0 (off := 31) (tgt := 32) (by decide) ds_X3_playFootball_1 (by omega) (by decide) rfl (by decide) (by decide) ?_
    refine j_blx (F := fX3) tb_X3 (nn_ _) bk_X3_playFootball_32 bs_X3_playFootball_32 hz (fun K hK => ?_)
    refine ix_i (by omega) ?_
    intro b2 b2b
    intro w3 w3b
    refine iy_i (by omega) (by omega) ?_
    refine x_nm (fun U4 hU4 => ?_)
    have e5 := up_f hU4
    refine hK 115 _ [] U4 ?_
    refine j_blx (F := fX3) tb_X3 (nn_ _) bk_X3_playFootball_115 bs_X3_playFootball_115 hz (fun K hK => ?_)
    refine (show po_X3_playFootball T p k s q U4 (none) from ?_)
    have e6 : U4 103 p 3 = T 103 p 3 := up_k hU4 (by exact Nat.ne_of_beq_eq_false rfl) p 3
    have e7 : U4 470 p 0 = T 470 p 0 := up_k hU4 (by exact Nat.ne_of_beq_eq_false rfl) p 0
    have e8 : U4 470 p 1 = T 470 p 1 := up_k hU4 (by exact Nat.ne_of_beq_eq_false rfl) p 1
    have g9 : U4 470 p 0 = T 470 p 0 := up_k hU4 (by exact Nat.ne_of_beq_eq_false rfl) p 0
    have g10 : U4 470 p 1 = T 470 p 1 := up_k hU4 (by exact Nat.ne_of_beq_eq_false rfl) p 1
    have e11 : U4 103 p 3 = T 103 p 3 := up_k hU4 (by exact Nat.ne_of_beq_eq_false rfl) p 3
    exact ⟨rfl, fr_u (fr_0 _ _) hU4 rfl, oi_u (oi_r) hU4, by exact fun _ => by omega⟩
  by_cases z1_1 : k = 2
  · refine j_tsI (pc := 1) 1 (off := 44) (tgt := 45) (by decide) ds_X3_playFootball_1 (by omega) (by decide) rfl (by decide) (by decide) ?_
    refine j_blx (F := fX3) tb_X3 (nn_ _) bk_X3_playFootball_45 bs_X3_playFootball_45 hz (fun K hK => ?_)
    refine rg_i (by omega) ?_
    refine ix_i (by omega) ?_
    intro b12 b12b
    intro w13 w13b
    refine iy_i (by omega) (by omega) ?_
    refine x_nm (fun U14 hU14 => ?_)
    have e15 := up_f hU14
    refine hK 115 _ [] U14 ?_
    refine j_blx (F := fX3) tb_X3 (nn_ _) bk_X3_playFootball_115 bs_X3_playFootball_115 hz (fun K hK => ?_)
    refine (show po_X3_playFootball T p k s q U14 (none) from ?_)
    have e16 : U14 103 p 3 = T 103 p 3 := up_k hU14 (by exact Nat.ne_of_beq_eq_false rfl) p 3
    have e17 : U14 470 p 0 = T 470 p 0 := up_k hU14 (by exact Nat.ne_of_beq_eq_false rfl) p 0
    have e18 : U14 470 p 1 = T 470 p 1 := up_k hU14 (by exact Nat.ne_of_beq_eq_false rfl) p 1
    have g19 : U14 470 p 0 = T 470 p 0 := up_k hU14 (by exact Nat.ne_of_beq_eq_false rfl) p 0
    have g20 : U14 470 p 1 = T 470 p 1 := up_k hU14 (by exact Nat.ne_of_beq_eq_false rfl) p 1
    have e21 : U14 103 p 3 = T 103 p 3 := up_k hU14 (by exact Nat.ne_of_beq_eq_false rfl) p 3
    exact ⟨rfl, fr_u (fr_0 _ _) hU14 rfl, oi_u (oi_r) hU14, by exact fun _ => by omega⟩
  by_cases z1_2 : k = 3
  · refine j_tsI (pc := 1) 2 (off := 59) (tgt := 60) (by decide) ds_X3_playFootball_1 (by omega) (by decide) rfl (by decide) (by decide) ?_
    refine j_blx (F := fX3) tb_X3 (nn_ _) bk_X3_playFootball_60 bs_X3_playFootball_60 hz (fun K hK => ?_)
    refine hK 65 _ [vI q, vI s, vR 103 p, vI s, vR 103 p] T ?_
    refine j_callV (y := yX3_fieldPlace) (Yc := zX3_fieldPlace) (rest := [vI s, vR 103 p]) [vI s, vI q] (ct_X3_fieldPlace (T := T) (by omega)) cl_X3_79 (qd_c (by decide +kernel)) (nn_ _) rfl (rf_of rfl) (Nat.le_of_ble_eq_true rfl) (Nat.le_of_ble_eq_true rfl) (Nat.le_of_ble_eq_true rfl) rfl ?_
    rintro _ _ ⟨rfl, x22, rfl, hx22⟩
    show J_ zX3_playFootball T (po_X3_playFootball T p k s q) 0 0 68 _ [vI x22, vI s, vR 103 p] T
    refine j_callV (y := yX3_showYellow) (Yc := zX3_showYellow) (rest := []) [vI s, vI x22] (ct_X3_showYellow (T := T) (by omega) (by omega) (by omega) (by omega)) cl_X3_113 (qd_c (by decide +kernel)) (nn_ _) rfl (rf_of rfl) (Nat.le_of_ble_eq_true rfl) (Nat.le_of_ble_eq_true rfl) (Nat.le_of_ble_eq_true rfl) rfl ?_
    rintro U23 _ ⟨rfl, fU23, qU23o, qU23⟩
    show J_ zX3_playFootball T (po_X3_playFootball T p k s q) 0 0 71 _ [] U23
    refine j_blx (F := fX3) tb_X3 (nn_ _) bk_X3_playFootball_71 bs_X3_playFootball_71 hz (fun K hK => ?_)
    refine hK 115 _ [] U23 ?_
    refine j_blx (F := fX3) tb_X3 (nn_ _) bk_X3_playFootball_115 bs_X3_playFootball_115 hz (fun K hK => ?_)
    refine (show po_X3_playFootball T p k s q U23 (none) from ?_)
    exact ⟨rfl, fr_t (fr_0 _ _) (fr_s fU23 rfl), oi_t (oi_r) qU23o, by exact fun z9 => by have y9 := qU23; omega⟩
  by_cases z1_3 : k = 4
  · refine j_tsI (pc := 1) 3 (off := 73) (tgt := 74) (by decide) ds_X3_playFootball_1 (by omega) (by decide) rfl (by decide) (by decide) ?_
    refine j_blx (F := fX3) tb_X3 (nn_ _) bk_X3_playFootball_74 bs_X3_playFootball_74 hz (fun K hK => ?_)
    refine hK 79 _ [vI q, vI s, vR 103 p, vI s, vR 103 p] T ?_
    refine j_callV (y := yX3_fieldPlace) (Yc := zX3_fieldPlace) (rest := [vI s, vR 103 p]) [vI s, vI q] (ct_X3_fieldPlace (T := T) (by omega)) cl_X3_79 (qd_c (by decide +kernel)) (nn_ _) rfl (rf_of rfl) (Nat.le_of_ble_eq_true rfl) (Nat.le_of_ble_eq_true rfl) (Nat.le_of_ble_eq_true rfl) rfl ?_
    rintro _ _ ⟨rfl, x24, rfl, hx24⟩
    show J_ zX3_playFootball T (po_X3_playFootball T p k s q) 0 0 82 _ [vI x24, vI s, vR 103 p] T
    refine j_callV (y := yX3_sendOff) (Yc := zX3_sendOff) (rest := []) [vI s, vI x24] (ct_X3_sendOff (T := T) (by omega) (by omega) (by omega) (by omega)) cl_X3_116 (qd_c (by decide +kernel)) (nn_ _) rfl (rf_of rfl) (Nat.le_of_ble_eq_true rfl) (Nat.le_of_ble_eq_true rfl) (Nat.le_of_ble_eq_true rfl) rfl ?_
    rintro U25 _ ⟨rfl, fU25, qU25o, qU25⟩
    show J_ zX3_playFootball T (po_X3_playFootball T p k s q) 0 0 85 _ [] U25
    refine j_blx (F := fX3) tb_X3 (nn_ _) bk_X3_playFootball_85 bs_X3_playFootball_85 hz (fun K hK => ?_)
    refine hK 115 _ [] U25 ?_
    refine j_blx (F := fX3) tb_X3 (nn_ _) bk_X3_playFootball_115 bs_X3_playFootball_115 hz (fun K hK => ?_)
    refine (show po_X3_playFootball T p k s q U25 (none) from ?_)
    exact ⟨rfl, fr_t (fr_0 _ _) (fr_s fU25 rfl), oi_t (oi_r) qU25o, by exact fun z9 => by have y9 := qU25; omega⟩
  refine j_tsO (pc := 1) (tgt := 88) (by decide) ds_X3_playFootball_1 (by omega) (by decide) (by decide) ?_
  refine j_blx (F := fX3) tb_X3 (nn_ _) bk_X3_playFootball_88 bs_X3_playFootball_88 hz (fun K hK => ?_)
  intro b26 b26b
  intro w27 w27b
  refine bd_i (by omega) ?_
  refine x_nm (fun U28 hU28 => ?_)
  have e29 := up_f hU28
  intro b30 b30b
  have e31 : U28 103 p 4 = wr_ ((T 103 p 4) + 1) := up_f hU28
  rw [e31] at b30 b30b ⊢
  refine And.intro (fun c32 => ?_) (fun c32 => ?_)
  · refine hK 111 _ [vR 103 p] U28 ?_
    refine j_blx (F := fX3) tb_X3 (nn_ _) bk_X3_playFootball_111 bs_X3_playFootball_111 hz (fun K hK => ?_)
    refine bd_i (by omega) ?_
    refine x_nm (fun U33 hU33 => ?_)
    have e34 := up_f hU33
    refine (show po_X3_playFootball T p k s q U33 (none) from ?_)
    have e35 : U33 103 p 3 = 0 := up_f hU33
    have e36 : U33 470 p 0 = T 470 p 0 := (up_k hU33 (by exact Nat.ne_of_beq_eq_false rfl) p 0).trans (up_k hU28 (by exact Nat.ne_of_beq_eq_false rfl) p 0)
    have e37 : U33 470 p 1 = T 470 p 1 := (up_k hU33 (by exact Nat.ne_of_beq_eq_false rfl) p 1).trans (up_k hU28 (by exact Nat.ne_of_beq_eq_false rfl) p 1)
    have g38 : U33 470 p 0 = T 470 p 0 := (up_k hU33 (by exact Nat.ne_of_beq_eq_false rfl) p 0).trans (up_k hU28 (by exact Nat.ne_of_beq_eq_false rfl) p 0)
    have g39 : U33 470 p 1 = T 470 p 1 := (up_k hU33 (by exact Nat.ne_of_beq_eq_false rfl) p 1).trans (up_k hU28 (by exact Nat.ne_of_beq_eq_false rfl) p 1)
    have e40 : U33 103 p 3 = 0 := up_f hU33
    exact ⟨rfl, fr_u (fr_u (fr_0 _ _) hU28 rfl) hU33 rfl, oi_u (oi_u (oi_r) hU28) hU33, by exact fun _ => by omega⟩
  · refine hK 112 _ [vI 1, vR 103 p] U28 ?_
    refine j_blx (F := fX3) tb_X3 (nn_ _) bk_X3_playFootball_112 bs_X3_playFootball_112 hz (fun K hK => ?_)
    refine bd_i (by omega) ?_
    refine x_nm (fun U41 hU41 => ?_)
    have e42 := up_f hU41
    refine (show po_X3_playFootball T p k s q U41 (none) from ?_)
    have e43 : U41 103 p 3 = 1 := up_f hU41
    have e44 : U41 470 p 0 = T 470 p 0 := (up_k hU41 (by exact Nat.ne_of_beq_eq_false rfl) p 0).trans (up_k hU28 (by exact Nat.ne_of_beq_eq_false rfl) p 0)
    have e45 : U41 470 p 1 = T 470 p 1 := (up_k hU41 (by exact Nat.ne_of_beq_eq_false rfl) p 1).trans (up_k hU28 (by exact Nat.ne_of_beq_eq_false rfl) p 1)
    have g46 : U41 470 p 0 = T 470 p 0 := (up_k hU41 (by exact Nat.ne_of_beq_eq_false rfl) p 0).trans (up_k hU28 (by exact Nat.ne_of_beq_eq_false rfl) p 0)
    have g47 : U41 470 p 1 = T 470 p 1 := (up_k hU41 (by exact Nat.ne_of_beq_eq_false rfl) p 1).trans (up_k hU28 (by exact Nat.ne_of_beq_eq_false rfl) p 1)
    have e48 : U41 103 p 3 = 1 := up_f hU41
    exact ⟨rfl, fr_u (fr_u (fr_0 _ _) hU28 rfl) hU41 rfl, oi_u (oi_u (oi_r) hU28) hU41, by exact fun _ => by omega⟩
abbrev cX3_playVolleyball : ByteArray := prog_5_method_18_code
def yX3_playVolleyball : MethodName := ⟨RX3, "playVolleyball", "(I)V"⟩
def zX3_playVolleyball : Zm := (RX3, cX3_playVolleyball, 3, none, { frames := 2, cells := 0, slots := 0, locals := 45 })
theorem bk_X3_playVolleyball_59 : ck_ fX3 none cX3_playVolleyball 59 [.istore 2, .aload 0, .tableswitch 0 3 6 #[], .iload 1, .iload 2] 66 = true := qck_r (nn_ _) (by decide +kernel)
theorem bs_X3_playVolleyball_59 {P : Zt → Option Zv → Prop} (K : Int → Zl → List Zv → Zt → Prop) : sx_ K P [.istore 2, .aload 0, .tableswitch 0 3 6 #[], .iload 1, .iload 2] 66 = x_istore 2 (x_aload 0 (x_g2 103 466 (x_iload 1 (x_iload 2 (K 66))))) := ((xe_istore 2).trans (congrArg (x_istore 2) ((xe_aload 0).trans (congrArg (x_aload 0) ((xe_g2 (kk := 103) rfl tl_3_6).trans (congrArg (x_g2 103 466) ((xe_iload 1).trans (congrArg (x_iload 1) ((xe_iload 2).trans (congrArg (x_iload 2) xe_nil))))))))))
set_option maxRecDepth 100000 in
theorem cl_X3_125 : cs_ RX3 125 yX3_isWon zX3_isWon 3 := ⟨gi_S (lw_b5 92 (by decide +kernel) rfl : Cond.methodLink RX3 125 yX3_isWon ∈ lw_g) (lw_b5 93 (by decide +kernel) rfl : Cond.static yX3_isWon ∈ lw_g) (lw_b1 18 (by decide +kernel) rfl : Cond.initialized yX3_isWon.cls ∈ lw_g) (lw_b5 94 rfl rfl : Cond.code yX3_isWon cX3_isWon 3 (some .boolean) ∈ lw_g), ⟨by decide, by decide, by decide +kernel⟩⟩
theorem bk_X3_playVolleyball_69 : ck_ fX3 none cX3_playVolleyball 69 [.ifCond .ne 73, .return_] 73 = true := qck_r (nn_ _) (by decide +kernel)
theorem bs_X3_playVolleyball_69 {P : Zt → Option Zv → Prop} (K : Int → Zl → List Zv → Zt → Prop) : sx_ K P [.ifCond .ne 73, .return_] 73 = x_ifCond .ne 73 K (x_return_ P) := ((xe_ifCond .ne 73).trans (congrArg (x_ifCond .ne 73 K) (xe_return_)))
theorem bk_X3_playVolleyball_73 : ck_ fX3 none cX3_playVolleyball 73 [.aload 0, .tableswitch 0 3 6 #[], .iconst 0] 78 = true := qck_r (nn_ _) (by decide +kernel)
theorem bs_X3_playVolleyball_73 {P : Zt → Option Zv → Prop} (K : Int → Zl → List Zv → Zt → Prop) : sx_ K P [.aload 0, .tableswitch 0 3 6 #[], .iconst 0] 78 = x_aload 0 (x_g2 103 466 (x_iconst 0 (K 78))) := ((xe_aload 0).trans (congrArg (x_aload 0) ((xe_g2 (kk := 103) rfl tl_3_6).trans (congrArg (x_g2 103 466) ((xe_iconst 0).trans (congrArg (x_iconst 0) xe_nil))))))
set_option maxRecDepth 100000 in
theorem cl_X3_62 : cs_ RX3 62 yJ7_fill_53178 zJ7_fill_53178 2 := ⟨gi_S (lw_b5 18 (by decide +kernel) rfl : Cond.methodLink RX3 62 yJ7_fill_53178 ∈ lw_g) (lw_b2 26 (by decide +kernel) rfl : Cond.static yJ7_fill_53178 ∈ lw_g) (lw_b1 7 (by decide +kernel) rfl : Cond.initialized yJ7_fill_53178.cls ∈ lw_g) (lw_b2 27 rfl rfl : Cond.code yJ7_fill_53178 cJ7_fill_53178 4 none ∈ lw_g), ⟨by decide, by decide, by decide +kernel⟩⟩
theorem bk_X3_playVolleyball_81 : ck_ fX3 none cX3_playVolleyball 81 [.aload 0, .tableswitch 0 3 8 #[], .iload 1, .dup2, .iaload, .iconst 1, .fadd, .iastore, .aload 0, .tableswitch 0 3 8 #[], .iload 1, .iaload, .iconst 3, .if_icmp .ne 107, .aload 0, .iconst 1, .tableswitch 1 3 3 #[], .return_] 107 = true := qck_r (nn_ _) (by decide +kernel)
theorem bs_X3_playVolleyball_81 {P : Zt → Option Zv → Prop} (K : Int → Zl → List Zv → Zt → Prop) : sx_ K P [.aload 0, .tableswitch 0 3 8 #[], .iload 1, .dup2, .iaload, .iconst 1, .fadd, .iastore, .aload 0, .tableswitch 0 3 8 #[], .iload 1, .iaload, .iconst 3, .if_icmp .ne 107, .aload 0, .iconst 1, .tableswitch 1 3 3 #[], .return_] 107 = x_aload 0 (x_g2 103 468 (x_iload 1 (x_dup2 (x_iaload (x_iconst 1 (x_fadd (x_iastore (x_aload 0 (x_g2 103 468 (x_iload 1 (x_iaload (x_iconst 3 (x_if_icmp .ne 107 K (x_aload 0 (x_iconst 1 (x_p 103 3 0 1 (x_return_ P))))))))))))))))) := ((xe_aload 0).trans (congrArg (x_aload 0) ((xe_g2 (kk := 103) rfl tl_3_8).trans (congrArg (x_g2 103 468) ((xe_iload 1).trans (congrArg (x_iload 1) ((xe_dup2).trans (congrArg (x_dup2) ((xe_iaload).trans (congrArg (x_iaload) ((xe_iconst 1).trans (congrArg (x_iconst 1) ((xe_fadd).trans (congrArg (x_fadd) ((xe_iastore).trans (congrArg (x_iastore) ((xe_aload 0).trans (congrArg (x_aload 0) ((xe_g2 (kk := 103) rfl tl_3_8).trans (congrArg (x_g2 103 468) ((xe_iload 1).trans (congrArg (x_iload 1) ((xe_iaload).trans (congrArg (x_iaload) ((xe_iconst 3).trans (congrArg (x_iconst 3) ((xe_if_icmp .ne 107).trans (congrArg (x_if_icmp .ne 107 K) ((xe_aload 0).trans (congrArg (x_aload 0) ((xe_iconst 1).trans (congrArg (x_iconst 1) ((xe_p (kk := 103) rfl tl_3_3).trans (congrArg (x_p 103 3 0 1) (xe_return_)))))))))))))))))))))))))))))))))))
theorem bk_X3_playVolleyball_107 : ck_ fX3 none cX3_playVolleyball 107 [.aload 0, .dup, .tableswitch 0 3 4 #[], .iconst 1, .fadd, .tableswitch 1 3 4 #[], .aload 0, .aload 0, .tableswitch 0 3 4 #[], .iconst 1, .iand, .tableswitch 1 3 5 #[], .return_] 128 = true := qck_r (nn_ _) (by decide +kernel)
theorem bs_X3_playVolleyball_107 {P : Zt → Option Zv → Prop} (K : Int → Zl → List Zv → Zt → Prop) : sx_ K P [.aload 0, .dup, .tableswitch 0 3 4 #[], .iconst 1, .fadd, .tableswitch 1 3 4 #[], .aload 0, .aload 0, .tableswitch 0 3 4 #[], .iconst 1, .iand, .tableswitch 1 3 5 #[], .return_] 128 = x_aload 0 (x_dup (x_g0 103 4 (-2147483648) 2147483647 (x_iconst 1 (x_fadd (x_p 103 4 (-2147483648) 2147483647 (x_aload 0 (x_aload 0 (x_g0 103 4 (-2147483648) 2147483647 (x_iconst 1 (x_iand (x_p 103 5 0 1 (x_return_ P)))))))))))) := ((xe_aload 0).trans (congrArg (x_aload 0) ((xe_dup).trans (congrArg (x_dup) ((xe_g0 (kk := 103) rfl tl_3_4).trans (congrArg (x_g0 103 4 (-2147483648) 2147483647) ((xe_iconst 1).trans (congrArg (x_iconst 1) ((xe_fadd).trans (congrArg (x_fadd) ((xe_p (kk := 103) rfl tl_3_4).trans (congrArg (x_p 103 4 (-2147483648) 2147483647) ((xe_aload 0).trans (congrArg (x_aload 0) ((xe_aload 0).trans (congrArg (x_aload 0) ((xe_g0 (kk := 103) rfl tl_3_4).trans (congrArg (x_g0 103 4 (-2147483648) 2147483647) ((xe_iconst 1).trans (congrArg (x_iconst 1) ((xe_iand).trans (congrArg (x_iand) ((xe_p (kk := 103) rfl tl_3_5).trans (congrArg (x_p 103 5 0 1) (xe_return_)))))))))))))))))))))))))
theorem bk_X3_playVolleyball_13 : ck_ fX3 none cX3_playVolleyball 13 [.aload 0, .iload 1, .tableswitch 1 3 5 #[], .aload 0, .tableswitch 0 3 6 #[], .iload 1, .dup2, .iaload, .iconst 1, .fadd, .iastore, .aload 0, .tableswitch 0 3 4 #[], .iconst 4, .if_icmp .ne 52, .iconst 3, .aload 0, .tableswitch 0 3 0 #[], .iconst 11, .iaload, .fmul, .iconst 4, .fadd, .iconst 5, .fdiv, .goto 59] 52 = true := qck_r (nn_ _) (by decide +kernel)
theorem bs_X3_playVolleyball_13 {P : Zt → Option Zv → Prop} (K : Int → Zl → List Zv → Zt → Prop) : sx_ K P [.aload 0, .iload 1, .tableswitch 1 3 5 #[], .aload 0, .tableswitch 0 3 6 #[], .iload 1, .dup2, .iaload, .iconst 1, .fadd, .iastore, .aload 0, .tableswitch 0 3 4 #[], .iconst 4, .if_icmp .ne 52, .iconst 3, .aload 0, .tableswitch 0 3 0 #[], .iconst 11, .iaload, .fmul, .iconst 4, .fadd, .iconst 5, .fdiv, .goto 59] 52 = x_aload 0 (x_iload 1 (x_p 103 5 0 1 (x_aload 0 (x_g2 103 466 (x_iload 1 (x_dup2 (x_iaload (x_iconst 1 (x_fadd (x_iastore (x_aload 0 (x_g0 103 4 (-2147483648) 2147483647 (x_iconst 4 (x_if_icmp .ne 52 K (x_iconst 3 (x_aload 0 (x_g3 103 401 0 (x_iconst 11 (x_iaload (x_fmul (x_iconst 4 (x_fadd (x_iconst 5 (x_fdiv (x_goto 59 K))))))))))))))))))))))))) := ((xe_aload 0).trans (congrArg (x_aload 0) ((xe_iload 1).trans (congrArg (x_iload 1) ((xe_p (kk := 103) rfl tl_3_5).trans (congrArg (x_p 103 5 0 1) ((xe_aload 0).trans (congrArg (x_aload 0) ((xe_g2 (kk := 103) rfl tl_3_6).trans (congrArg (x_g2 103 466) ((xe_iload 1).trans (congrArg (x_iload 1) ((xe_dup2).trans (congrArg (x_dup2) ((xe_iaload).trans (congrArg (x_iaload) ((xe_iconst 1).trans (congrArg (x_iconst 1) ((xe_fadd).trans (congrArg (x_fadd) ((xe_iastore).trans (congrArg (x_iastore) ((xe_aload 0).trans (congrArg (x_aload 0) ((xe_g0 (kk := 103) rfl tl_3_4).trans (congrArg (x_g0 103 4 (-2147483648) 2147483647) ((xe_iconst 4).trans (congrArg (x_iconst 4) ((xe_if_icmp .ne 52).trans (congrArg (x_if_icmp .ne 52 K) ((xe_iconst 3).trans (congrArg (x_iconst 3) ((xe_aload 0).trans (congrArg (x_aload 0) ((xe_g3 (kk := 103) rfl tl_3_0).trans (congrArg (x_g3 103 401 0) ((xe_iconst 11).trans (congrArg (x_iconst 11) ((xe_iaload).trans (congrArg (x_iaload) ((xe_fmul).trans (congrArg (x_fmul) ((xe_iconst 4).trans (congrArg (x_iconst 4) ((xe_fadd).trans (congrArg (x_fadd) ((xe_iconst 5).trans (congrArg (x_iconst 5) ((xe_fdiv).trans (congrArg (x_fdiv) (xe_goto 59)))))))))))))))))))))))))))))))))))))))))))))))))))
theorem bk_X3_playVolleyball_52 : ck_ fX3 none cX3_playVolleyball 52 [.aload 0, .tableswitch 0 3 0 #[], .iconst 11, .iaload] 59 = true := qck_r (nn_ _) (by decide +kernel)
theorem bs_X3_playVolleyball_52 {P : Zt → Option Zv → Prop} (K : Int → Zl → List Zv → Zt → Prop) : sx_ K P [.aload 0, .tableswitch 0 3 0 #[], .iconst 11, .iaload] 59 = x_aload 0 (x_g3 103 401 0 (x_iconst 11 (x_iaload (K 59)))) := ((xe_aload 0).trans (congrArg (x_aload 0) ((xe_g3 (kk := 103) rfl tl_3_0).trans (congrArg (x_g3 103 401 0) ((xe_iconst 11).trans (congrArg (x_iconst 11) ((xe_iaload).trans (congrArg (x_iaload) xe_nil))))))))
theorem bk_X3_playVolleyball_0 : ck_ fX3 none cX3_playVolleyball 0 [.aload 0, .tableswitch 0 3 5 #[], .iload 1, .if_icmp .eq 13, .aload 0, .iload 1] 10 = true := qck_r (nn_ _) (by decide +kernel)
theorem bs_X3_playVolleyball_0 {P : Zt → Option Zv → Prop} (K : Int → Zl → List Zv → Zt → Prop) : sx_ K P [.aload 0, .tableswitch 0 3 5 #[], .iload 1, .if_icmp .eq 13, .aload 0, .iload 1] 10 = x_aload 0 (x_g0 103 5 0 1 (x_iload 1 (x_if_icmp .eq 13 K (x_aload 0 (x_iload 1 (K 10)))))) := ((xe_aload 0).trans (congrArg (x_aload 0) ((xe_g0 (kk := 103) rfl tl_3_5).trans (congrArg (x_g0 103 5 0 1) ((xe_iload 1).trans (congrArg (x_iload 1) ((xe_if_icmp .eq 13).trans (congrArg (x_if_icmp .eq 13 K) ((xe_aload 0).trans (congrArg (x_aload 0) ((xe_iload 1).trans (congrArg (x_iload 1) xe_nil))))))))))))
set_option maxRecDepth 100000 in
theorem cl_X3_122 : cv_ RX3 122 yX3_rotate zX3_rotate 3 1 := ⟨gi_V (lw_b5 88 (by decide +kernel) rfl : Cond.methodLink RX3 122 yX3_rotate ∈ lw_g) (lw_b5 90 (by decide +kernel) rfl : Cond.instanceMethod yX3_rotate ∈ lw_g) (lw_sel 98 rfl : Cond.selects yX3_rotate.cls yX3_rotate yX3_rotate ∈ lw_g) (lw_b1 18 (by decide +kernel) rfl : Cond.initialized yX3_rotate.cls ∈ lw_g) (lw_b5 91 rfl rfl : Cond.code yX3_rotate cX3_rotate 3 none ∈ lw_g), ⟨by decide, by decide, by decide +kernel⟩, ⟨_, _, rfl⟩⟩
abbrev po_X3_playVolleyball (T : Zt) (p : Int) (s : Int) : Zt → Option Zv → Prop := fun T' r => r = none ∧ fr_ [(471, []), (103, [3, 4, 5]), (466, []), (468, [])] T T' ∧ (oi_ T T' p ∧ (T' 103 p 3 = 0 → 1 ≤ T' 470 p 0 ∧ 1 ≤ T' 470 p 1))
set_option maxHeartbeats 4000000 in
theorem ct_X3_playVolleyball {T : Zt} {p : Int} {s : Int} (hs : 0 ≤ s ∧ s ≤ 1) (hfd : 1 ≤ T 470 p 0 ∧ 1 ≤ T 470 p 1) : Ct_ yX3_playVolleyball zX3_playVolleyball T [vR 103 p, vI s] (po_X3_playVolleyball T p s) := by
  refine ct_of pn_3 rfl rfl (Nat.le_of_ble_eq_true rfl) (fun hT hav => ?_)
  have hr_s : -2147483648 ≤ s ∧ s ≤ 2147483647 := hav (vI s) (by simp)
  have hz : zX3_playVolleyball.2.2.2.1 = some .boolean → ∀ (T' : Zt) (x : Int), po_X3_playVolleyball T p s T' (some (vI x)) → 0 ≤ x ∧ x ≤ 1 := fun h => by cases h
  have hfx : 1 ≤ T 470 p s := by rcases (by omega : s = 0 ∨ s = 1) with z | z <;> rw [z] <;> omega
  show J_ zX3_playVolleyball T (po_X3_playVolleyball T p s) 0 0 0 [some (vR 103 p), some (vI s), none] [] T
  have c_59 : ∀ (v : Int) (T2 : Zt), (fr_ [(471, []), (103, [5]), (466, [])] T T2) → (oi_ T T2 p) → J_ zX3_playVolleyball T (po_X3_playVolleyball T p s) 0 0 59 [some (vR 103 p), some (vI s), none] [vI v] T2 := by
    intro v T2 hf_59 o2
    refine j_blx (F := fX3) tb_X3 (nn_ _) bk_X3_playVolleyball_59 bs_X3_playVolleyball_59 hz (fun K hK => ?_)
    refine hK 66 [some (vR 103 p), some (vI s), some (vI v)] [vI v, vI s, vR 466 p] T2 ?_
    refine j_callS (y := yX3_isWon) (Yc := zX3_isWon) (rest := []) [vR 466 p, vI s, vI v] (ct_X3_isWon_466 (T := T2) (by omega)) cl_X3_125 (qd_c (by decide +kernel)) (nn_ _) rfl (rf_of rfl) (Nat.le_of_ble_eq_true rfl) (Nat.le_of_ble_eq_true rfl) (Nat.le_of_ble_eq_true rfl) rfl ?_
    rintro _ _ ⟨rfl, x1, rfl, hx1⟩
    show J_ zX3_playVolleyball T (po_X3_playVolleyball T p s) 0 0 69 _ [vI x1] T2
    refine j_blx (F := fX3) tb_X3 (nn_ _) bk_X3_playVolleyball_69 bs_X3_playVolleyball_69 hz (fun K hK => ?_)
    refine And.intro (fun c2 => ?_) (fun c2 => ?_)
    · refine hK 73 _ [] T2 ?_
      refine j_blx (F := fX3) tb_X3 (nn_ _) bk_X3_playVolleyball_73 bs_X3_playVolleyball_73 hz (fun K hK => ?_)
      refine hK 78 _ [vI 0, vR 466 p] T2 ?_
      refine j_callS (y := yJ7_fill_53178) (Yc := zJ7_fill_53178) (rest := []) [vR 466 p, vI 0] (ct_J7_fill_466 (T := T2) (by omega)) cl_X3_62 (qd_c (by decide +kernel)) (nn_ _) rfl (rf_of rfl) (Nat.le_of_ble_eq_true rfl) (Nat.le_of_ble_eq_true rfl) (Nat.le_of_ble_eq_true rfl) rfl ?_
      rintro U3 _ ⟨rfl, fU3, qU3o, qU3⟩
      show J_ zX3_playVolleyball T (po_X3_playVolleyball T p s) 0 0 81 _ [] U3
      refine j_blx (F := fX3) tb_X3 (nn_ _) bk_X3_playVolleyball_81 bs_X3_playVolleyball_81 hz (fun K hK => ?_)
      refine ix_i (by omega) ?_
      intro b4 b4b
      have e5 : U3 468 p s = T 468 p s := (fU3 468 p s rfl).trans (hf_59 468 p s rfl)
      rw [e5] at b4 b4b ⊢
      intro w6 w6b
      refine iy_i (by omega) (by omega) ?_
      refine x_nm (fun U7 hU7 => ?_)
      have e8 := up_f hU7
      refine ix_i (by omega) ?_
      intro b9 b9b
      have e10 : U7 468 p s = wr_ ((T 468 p s) + 1) := up_f hU7
      rw [e10] at b9 b9b ⊢
      refine And.intro (fun c11 => ?_) (fun c11 => ?_)
      · refine hK 107 _ [] U7 ?_
        refine j_blx (F := fX3) tb_X3 (nn_ _) bk_X3_playVolleyball_107 bs_X3_playVolleyball_107 hz (fun K hK => ?_)
        intro b12 b12b
        have e13 : U7 103 p 4 = T 103 p 4 := (up_k hU7 (by exact Nat.ne_of_beq_eq_false rfl) p 4).trans ((fU3 103 p 4 rfl).trans (hf_59 103 p 4 rfl))
        rw [e13] at b12 b12b ⊢
        intro w14 w14b
        refine bd_i (by omega) ?_
        refine x_nm (fun U15 hU15 => ?_)
        have e16 := up_f hU15
        intro b17 b17b
        have e18 : U15 103 p 4 = wr_ ((T 103 p 4) + 1) := up_f hU15
        rw [e18] at b17 b17b ⊢
        intro w19 w19b
        have n20 := an_1b (wr_ ((T 103 p 4) + 1))
        refine bd_i (by omega) ?_
        refine x_nm (fun U21 hU21 => ?_)
        have e22 := up_f hU21
        refine (show po_X3_playVolleyball T p s U21 (none) from ?_)
        have e23 : U21 103 p 3 = T 103 p 3 := (up_j hU21 (by exact ni_ rfl) 103 p).trans ((up_j hU15 (by exact ni_ rfl) 103 p).trans ((up_k hU7 (by exact Nat.ne_of_beq_eq_false rfl) p 3).trans ((fU3 103 p 3 rfl).trans (hf_59 103 p 3 rfl))))
        have e24 : U21 470 p 0 = T 470 p 0 := (up_k hU21 (by exact Nat.ne_of_beq_eq_false rfl) p 0).trans ((up_k hU15 (by exact Nat.ne_of_beq_eq_false rfl) p 0).trans ((up_k hU7 (by exact Nat.ne_of_beq_eq_false rfl) p 0).trans ((fU3 470 p 0 rfl).trans (hf_59 470 p 0 rfl))))
        have e25 : U21 470 p 1 = T 470 p 1 := (up_k hU21 (by exact Nat.ne_of_beq_eq_false rfl) p 1).trans ((up_k hU15 (by exact Nat.ne_of_beq_eq_false rfl) p 1).trans ((up_k hU7 (by exact Nat.ne_of_beq_eq_false rfl) p 1).trans ((fU3 470 p 1 rfl).trans (hf_59 470 p 1 rfl))))
        have g26 : U21 470 p 0 = T 470 p 0 := (up_k hU21 (by exact Nat.ne_of_beq_eq_false rfl) p 0).trans ((up_k hU15 (by exact Nat.ne_of_beq_eq_false rfl) p 0).trans ((up_k hU7 (by exact Nat.ne_of_beq_eq_false rfl) p 0).trans ((fU3 470 p 0 rfl).trans (hf_59 470 p 0 rfl))))
        have g27 : U21 470 p 1 = T 470 p 1 := (up_k hU21 (by exact Nat.ne_of_beq_eq_false rfl) p 1).trans ((up_k hU15 (by exact Nat.ne_of_beq_eq_false rfl) p 1).trans ((up_k hU7 (by exact Nat.ne_of_beq_eq_false rfl) p 1).trans ((fU3 470 p 1 rfl).trans (hf_59 470 p 1 rfl))))
        have e28 : U21 103 p 3 = T 103 p 3 := (up_j hU21 (by exact ni_ rfl) 103 p).trans ((up_j hU15 (by exact ni_ rfl) 103 p).trans ((up_k hU7 (by exact Nat.ne_of_beq_eq_false rfl) p 3).trans ((fU3 103 p 3 rfl).trans (hf_59 103 p 3 rfl))))
        exact ⟨rfl, fr_u (fr_u (fr_u (fr_t (fr_t (fr_0 _ _) (fr_s hf_59 rfl)) (fr_s fU3 rfl)) hU7 rfl) hU15 rfl) hU21 rfl, oi_u (oi_u (oi_u (oi_t (o2) qU3o) hU7) hU15) hU21, by exact fun _ => by omega⟩
      · refine bd_i (by omega) ?_
        refine x_nm (fun U29 hU29 => ?_)
        have e30 := up_f hU29
        refine (show po_X3_playVolleyball T p s U29 (none) from ?_)
        have e31 : U29 103 p 3 = 1 := up_f hU29
        have e32 : U29 470 p 0 = T 470 p 0 := (up_k hU29 (by exact Nat.ne_of_beq_eq_false rfl) p 0).trans ((up_k hU7 (by exact Nat.ne_of_beq_eq_false rfl) p 0).trans ((fU3 470 p 0 rfl).trans (hf_59 470 p 0 rfl)))
        have e33 : U29 470 p 1 = T 470 p 1 := (up_k hU29 (by exact Nat.ne_of_beq_eq_false rfl) p 1).trans ((up_k hU7 (by exact Nat.ne_of_beq_eq_false rfl) p 1).trans ((fU3 470 p 1 rfl).trans (hf_59 470 p 1 rfl)))
        have g34 : U29 470 p 0 = T 470 p 0 := (up_k hU29 (by exact Nat.ne_of_beq_eq_false rfl) p 0).trans ((up_k hU7 (by exact Nat.ne_of_beq_eq_false rfl) p 0).trans ((fU3 470 p 0 rfl).trans (hf_59 470 p 0 rfl)))
        have g35 : U29 470 p 1 = T 470 p 1 := (up_k hU29 (by exact Nat.ne_of_beq_eq_false rfl) p 1).trans ((up_k hU7 (by exact Nat.ne_of_beq_eq_false rfl) p 1).trans ((fU3 470 p 1 rfl).trans (hf_59 470 p 1 rfl)))
        have e36 : U29 103 p 3 = 1 := up_f hU29
        exact ⟨rfl, fr_u (fr_u (fr_t (fr_t (fr_0 _ _) (fr_s hf_59 rfl)) (fr_s fU3 rfl)) hU7 rfl) hU29 rfl, oi_u (oi_u (oi_t (o2) qU3o) hU7) hU29, by exact fun _ => by omega⟩
    · refine (show po_X3_playVolleyball T p s T2 (none) from ?_)
      have e37 : T2 103 p 3 = T 103 p 3 := hf_59 103 p 3 rfl
      have e38 : T2 470 p 0 = T 470 p 0 := hf_59 470 p 0 rfl
      have e39 : T2 470 p 1 = T 470 p 1 := hf_59 470 p 1 rfl
      have g40 : T2 470 p 0 = T 470 p 0 := hf_59 470 p 0 rfl
      have g41 : T2 470 p 1 = T 470 p 1 := hf_59 470 p 1 rfl
      have e42 : T2 103 p 3 = T 103 p 3 := hf_59 103 p 3 rfl
      exact ⟨rfl, fr_t (fr_0 _ _) (fr_s hf_59 rfl), o2, by exact fun _ => by omega⟩
  have c_13 : ∀ (T1 : Zt), (fr_ [(471, [])] T T1) → (oi_ T T1 p) → J_ zX3_playVolleyball T (po_X3_playVolleyball T p s) 0 0 13 [some (vR 103 p), some (vI s), none] [] T1 := by
    intro T1 hf_13 o1
    refine j_blx (F := fX3) tb_X3 (nn_ _) bk_X3_playVolleyball_13 bs_X3_playVolleyball_13 hz (fun K hK => ?_)
    refine bd_i (by omega) ?_
    refine x_nm (fun U43 hU43 => ?_)
    have e44 := up_f hU43
    refine ix_i (by omega) ?_
    intro b45 b45b
    have e46 : U43 466 p s = T 466 p s := (up_k hU43 (by exact Nat.ne_of_beq_eq_false rfl) p s).trans (hf_13 466 p s rfl)
    rw [e46] at b45 b45b ⊢
    intro w47 w47b
    refine iy_i (by omega) (by omega) ?_
    refine x_nm (fun U48 hU48 => ?_)
    have e49 := up_f hU48
    intro b50 b50b
    have e51 : U48 103 p 4 = T 103 p 4 := (up_k hU48 (by exact Nat.ne_of_beq_eq_false rfl) p 4).trans ((up_j hU43 (by exact ni_ rfl) 103 p).trans (hf_13 103 p 4 rfl))
    rw [e51] at b50 b50b ⊢
    refine And.intro (fun c52 => ?_) (fun c52 => ?_)
    · refine hK 52 _ [] U48 ?_
      refine j_blx (F := fX3) tb_X3 (nn_ _) bk_X3_playVolleyball_52 bs_X3_playVolleyball_52 hz (fun K hK => ?_)
      have e54 : U48 103 p 0 = T 103 p 0 := (up_k hU48 (by exact Nat.ne_of_beq_eq_false rfl) p 0).trans ((up_j hU43 (by exact ni_ rfl) 103 p).trans (hf_13 103 p 0 rfl))
      refine ix_i (by omega) ?_
      intro b55 b55b
      have e56 : U48 401 (T 103 p 0) 11 = T 401 (T 103 p 0) 11 := (up_k hU48 (by exact Nat.ne_of_beq_eq_false rfl) (T 103 p 0) 11).trans ((up_k hU43 (by exact Nat.ne_of_beq_eq_false rfl) (T 103 p 0) 11).trans (hf_13 401 (T 103 p 0) 11 rfl))
      have e57 : U48 401 (U48 103 p 0) 11 = T 401 (T 103 p 0) 11 := by rw [e54]; exact e56
      rw [e57] at b55 b55b ⊢
      refine hK 59 _ [vI (T 401 (T 103 p 0) 11)] U48 ?_
      refine c_59 (T 401 (T 103 p 0) 11) U48 ?_ ?_
      · exact fr_u (fr_u (fr_t (fr_0 _ _) (fr_s hf_13 rfl)) hU43 rfl) hU48 rfl
      · exact oi_u (oi_u (o1) hU43) hU48
    · have e59 : U48 103 p 0 = T 103 p 0 := (up_k hU48 (by exact Nat.ne_of_beq_eq_false rfl) p 0).trans ((up_j hU43 (by exact ni_ rfl) 103 p).trans (hf_13 103 p 0 rfl))
      refine ix_i (by omega) ?_
      intro b60 b60b
      have e61 : U48 401 (T 103 p 0) 11 = T 401 (T 103 p 0) 11 := (up_k hU48 (by exact Nat.ne_of_beq_eq_false rfl) (T 103 p 0) 11).trans ((up_k hU43 (by exact Nat.ne_of_beq_eq_false rfl) (T 103 p 0) 11).trans (hf_13 401 (T 103 p 0) 11 rfl))
      have e62 : U48 401 (U48 103 p 0) 11 = T 401 (T 103 p 0) 11 := by rw [e59]; exact e61
      rw [e62] at b60 b60b ⊢
      intro w63 w63b
      intro w64 w64b
      refine And.intro (by omega) (fun w65 w65b => ?_)
      refine hK 59 _ [vI (dq_ (wr_ ((wr_ (3 * (T 401 (T 103 p 0) 11))) + 4)) 5)] U48 ?_
      refine c_59 (dq_ (wr_ ((wr_ (3 * (T 401 (T 103 p 0) 11))) + 4)) 5) U48 ?_ ?_
      · exact fr_u (fr_u (fr_t (fr_0 _ _) (fr_s hf_13 rfl)) hU43 rfl) hU48 rfl
      · exact oi_u (oi_u (o1) hU43) hU48
  refine j_blx (F := fX3) tb_X3 (nn_ _) bk_X3_playVolleyball_0 bs_X3_playVolleyball_0 hz (fun K hK => ?_)
  intro b66 b66b
  refine And.intro (fun c67 => ?_) (fun c67 => ?_)
  · refine hK 13 _ [] T ?_
    refine c_13 T ?_ ?_
    · exact fr_0 _ _
    · exact oi_r
  · refine hK 10 _ [vI s, vR 103 p] T ?_
    refine j_callV (y := yX3_rotate) (Yc := zX3_rotate) (rest := []) [vI s] (ct_X3_rotate (T := T) (by omega) (by omega)) cl_X3_122 (qd_c (by decide +kernel)) (nn_ _) rfl (rf_of rfl) (Nat.le_of_ble_eq_true rfl) (Nat.le_of_ble_eq_true rfl) (Nat.le_of_ble_eq_true rfl) rfl ?_
    rintro U68 _ ⟨rfl, fU68, qU68o, qU68⟩
    show J_ zX3_playVolleyball T (po_X3_playVolleyball T p s) 0 0 13 _ [] U68
    refine c_13 U68 ?_ ?_
    · exact fr_t (fr_0 _ _) (fr_s fU68 rfl)
    · exact oi_t (oi_r) qU68o
abbrev cX3_playTennis : ByteArray := prog_5_method_21_code
def yX3_playTennis : MethodName := ⟨RX3, "playTennis", "(II)V"⟩
def zX3_playTennis : Zm := (RX3, cX3_playTennis, 5, none, { frames := 1, cells := 0, slots := 0, locals := 23 })
theorem bk_X3_playTennis_165 : ck_ fX3 none cX3_playTennis 165 [.aload 0, .iconst 1, .aload 0, .tableswitch 0 3 5 #[], .isub, .tableswitch 1 3 5 #[], .return_] 176 = true := qck_r (nn_ _) (by decide +kernel)
theorem bs_X3_playTennis_165 {P : Zt → Option Zv → Prop} (K : Int → Zl → List Zv → Zt → Prop) : sx_ K P [.aload 0, .iconst 1, .aload 0, .tableswitch 0 3 5 #[], .isub, .tableswitch 1 3 5 #[], .return_] 176 = x_aload 0 (x_iconst 1 (x_aload 0 (x_g0 103 5 0 1 (x_isub (x_p 103 5 0 1 (x_return_ P)))))) := ((xe_aload 0).trans (congrArg (x_aload 0) ((xe_iconst 1).trans (congrArg (x_iconst 1) ((xe_aload 0).trans (congrArg (x_aload 0) ((xe_g0 (kk := 103) rfl tl_3_5).trans (congrArg (x_g0 103 5 0 1) ((xe_isub).trans (congrArg (x_isub) ((xe_p (kk := 103) rfl tl_3_5).trans (congrArg (x_p 103 5 0 1) (xe_return_)))))))))))))
theorem bk_X3_playTennis_121 : ck_ fX3 none cX3_playTennis 121 [.aload 0, .tableswitch 0 3 7 #[], .iconst 0] 126 = true := qck_r (nn_ _) (by decide +kernel)
theorem bs_X3_playTennis_121 {P : Zt → Option Zv → Prop} (K : Int → Zl → List Zv → Zt → Prop) : sx_ K P [.aload 0, .tableswitch 0 3 7 #[], .iconst 0] 126 = x_aload 0 (x_g2 103 467 (x_iconst 0 (K 126))) := ((xe_aload 0).trans (congrArg (x_aload 0) ((xe_g2 (kk := 103) rfl tl_3_7).trans (congrArg (x_g2 103 467) ((xe_iconst 0).trans (congrArg (x_iconst 0) xe_nil))))))
theorem bk_X3_playTennis_129 : ck_ fX3 none cX3_playTennis 129 [.aload 0, .tableswitch 0 3 8 #[], .iload 2, .dup2, .iaload, .iconst 1, .fadd, .iastore, .aload 0, .tableswitch 0 3 8 #[], .iload 2, .iaload, .iconst 2, .if_icmp .ne 155, .aload 0, .iconst 1, .tableswitch 1 3 3 #[], .return_] 155 = true := qck_r (nn_ _) (by decide +kernel)
theorem bs_X3_playTennis_129 {P : Zt → Option Zv → Prop} (K : Int → Zl → List Zv → Zt → Prop) : sx_ K P [.aload 0, .tableswitch 0 3 8 #[], .iload 2, .dup2, .iaload, .iconst 1, .fadd, .iastore, .aload 0, .tableswitch 0 3 8 #[], .iload 2, .iaload, .iconst 2, .if_icmp .ne 155, .aload 0, .iconst 1, .tableswitch 1 3 3 #[], .return_] 155 = x_aload 0 (x_g2 103 468 (x_iload 2 (x_dup2 (x_iaload (x_iconst 1 (x_fadd (x_iastore (x_aload 0 (x_g2 103 468 (x_iload 2 (x_iaload (x_iconst 2 (x_if_icmp .ne 155 K (x_aload 0 (x_iconst 1 (x_p 103 3 0 1 (x_return_ P))))))))))))))))) := ((xe_aload 0).trans (congrArg (x_aload 0) ((xe_g2 (kk := 103) rfl tl_3_8).trans (congrArg (x_g2 103 468) ((xe_iload 2).trans (congrArg (x_iload 2) ((xe_dup2).trans (congrArg (x_dup2) ((xe_iaload).trans (congrArg (x_iaload) ((xe_iconst 1).trans (congrArg (x_iconst 1) ((xe_fadd).trans (congrArg (x_fadd) ((xe_iastore).trans (congrArg (x_iastore) ((xe_aload 0).trans (congrArg (x_aload 0) ((xe_g2 (kk := 103) rfl tl_3_8).trans (congrArg (x_g2 103 468) ((xe_iload 2).trans (congrArg (x_iload 2) ((xe_iaload).trans (congrArg (x_iaload) ((xe_iconst 2).trans (congrArg (x_iconst 2) ((xe_if_icmp .ne 155).trans (congrArg (x_if_icmp .ne 155 K) ((xe_aload 0).trans (congrArg (x_aload 0) ((xe_iconst 1).trans (congrArg (x_iconst 1) ((xe_p (kk := 103) rfl tl_3_3).trans (congrArg (x_p 103 3 0 1) (xe_return_)))))))))))))))))))))))))))))))))))
theorem bk_X3_playTennis_155 : ck_ fX3 none cX3_playTennis 155 [.aload 0, .dup, .tableswitch 0 3 4 #[], .iconst 1, .fadd, .tableswitch 1 3 4 #[]] 165 = true := qck_r (nn_ _) (by decide +kernel)
theorem bs_X3_playTennis_155 {P : Zt → Option Zv → Prop} (K : Int → Zl → List Zv → Zt → Prop) : sx_ K P [.aload 0, .dup, .tableswitch 0 3 4 #[], .iconst 1, .fadd, .tableswitch 1 3 4 #[]] 165 = x_aload 0 (x_dup (x_g0 103 4 (-2147483648) 2147483647 (x_iconst 1 (x_fadd (x_p 103 4 (-2147483648) 2147483647 (K 165)))))) := ((xe_aload 0).trans (congrArg (x_aload 0) ((xe_dup).trans (congrArg (x_dup) ((xe_g0 (kk := 103) rfl tl_3_4).trans (congrArg (x_g0 103 4 (-2147483648) 2147483647) ((xe_iconst 1).trans (congrArg (x_iconst 1) ((xe_fadd).trans (congrArg (x_fadd) ((xe_p (kk := 103) rfl tl_3_4).trans (congrArg (x_p 103 4 (-2147483648) 2147483647) xe_nil))))))))))))
theorem bk_X3_playTennis_65 : ck_ fX3 none cX3_playTennis 65 [.istore 4, .aload 0, .tableswitch 0 3 6 #[], .iload 2, .iload 4] 74 = true := qck_r (nn_ _) (by decide +kernel)
theorem bs_X3_playTennis_65 {P : Zt → Option Zv → Prop} (K : Int → Zl → List Zv → Zt → Prop) : sx_ K P [.istore 4, .aload 0, .tableswitch 0 3 6 #[], .iload 2, .iload 4] 74 = x_istore 4 (x_aload 0 (x_g2 103 466 (x_iload 2 (x_iload 4 (K 74))))) := ((xe_istore 4).trans (congrArg (x_istore 4) ((xe_aload 0).trans (congrArg (x_aload 0) ((xe_g2 (kk := 103) rfl tl_3_6).trans (congrArg (x_g2 103 466) ((xe_iload 2).trans (congrArg (x_iload 2) ((xe_iload 4).trans (congrArg (x_iload 4) xe_nil))))))))))
theorem bk_X3_playTennis_77 : ck_ fX3 none cX3_playTennis 77 [.ifCond .ne 81, .return_] 81 = true := qck_r (nn_ _) (by decide +kernel)
theorem bs_X3_playTennis_77 {P : Zt → Option Zv → Prop} (K : Int → Zl → List Zv → Zt → Prop) : sx_ K P [.ifCond .ne 81, .return_] 81 = x_ifCond .ne 81 K (x_return_ P) := ((xe_ifCond .ne 81).trans (congrArg (x_ifCond .ne 81 K) (xe_return_)))
theorem bk_X3_playTennis_81 : ck_ fX3 none cX3_playTennis 81 [.aload 0, .tableswitch 0 3 6 #[], .iconst 0] 86 = true := qck_r (nn_ _) (by decide +kernel)
theorem bs_X3_playTennis_81 {P : Zt → Option Zv → Prop} (K : Int → Zl → List Zv → Zt → Prop) : sx_ K P [.aload 0, .tableswitch 0 3 6 #[], .iconst 0] 86 = x_aload 0 (x_g2 103 466 (x_iconst 0 (K 86))) := ((xe_aload 0).trans (congrArg (x_aload 0) ((xe_g2 (kk := 103) rfl tl_3_6).trans (congrArg (x_g2 103 466) ((xe_iconst 0).trans (congrArg (x_iconst 0) xe_nil))))))
theorem bk_X3_playTennis_89 : ck_ fX3 none cX3_playTennis 89 [.aload 0, .tableswitch 0 3 7 #[], .iload 2, .dup2, .iaload, .iconst 1, .fadd, .iastore, .aload 0, .tableswitch 0 3 7 #[], .iload 2, .iload 3] 105 = true := qck_r (nn_ _) (by decide +kernel)
theorem bs_X3_playTennis_89 {P : Zt → Option Zv → Prop} (K : Int → Zl → List Zv → Zt → Prop) : sx_ K P [.aload 0, .tableswitch 0 3 7 #[], .iload 2, .dup2, .iaload, .iconst 1, .fadd, .iastore, .aload 0, .tableswitch 0 3 7 #[], .iload 2, .iload 3] 105 = x_aload 0 (x_g2 103 467 (x_iload 2 (x_dup2 (x_iaload (x_iconst 1 (x_fadd (x_iastore (x_aload 0 (x_g2 103 467 (x_iload 2 (x_iload 3 (K 105)))))))))))) := ((xe_aload 0).trans (congrArg (x_aload 0) ((xe_g2 (kk := 103) rfl tl_3_7).trans (congrArg (x_g2 103 467) ((xe_iload 2).trans (congrArg (x_iload 2) ((xe_dup2).trans (congrArg (x_dup2) ((xe_iaload).trans (congrArg (x_iaload) ((xe_iconst 1).trans (congrArg (x_iconst 1) ((xe_fadd).trans (congrArg (x_fadd) ((xe_iastore).trans (congrArg (x_iastore) ((xe_aload 0).trans (congrArg (x_aload 0) ((xe_g2 (kk := 103) rfl tl_3_7).trans (congrArg (x_g2 103 467) ((xe_iload 2).trans (congrArg (x_iload 2) ((xe_iload 3).trans (congrArg (x_iload 3) xe_nil))))))))))))))))))))))))
theorem bk_X3_playTennis_108 : ck_ fX3 none cX3_playTennis 108 [.ifCond .ne 121, .aload 0, .tableswitch 0 3 7 #[], .iload 2, .iaload, .iload 3, .if_icmp .le 165] 121 = true := qck_r (nn_ _) (by decide +kernel)
theorem bs_X3_playTennis_108 {P : Zt → Option Zv → Prop} (K : Int → Zl → List Zv → Zt → Prop) : sx_ K P [.ifCond .ne 121, .aload 0, .tableswitch 0 3 7 #[], .iload 2, .iaload, .iload 3, .if_icmp .le 165] 121 = x_ifCond .ne 121 K (x_aload 0 (x_g2 103 467 (x_iload 2 (x_iaload (x_iload 3 (x_if_icmp .le 165 K (K 121))))))) := ((xe_ifCond .ne 121).trans (congrArg (x_ifCond .ne 121 K) ((xe_aload 0).trans (congrArg (x_aload 0) ((xe_g2 (kk := 103) rfl tl_3_7).trans (congrArg (x_g2 103 467) ((xe_iload 2).trans (congrArg (x_iload 2) ((xe_iaload).trans (congrArg (x_iaload) ((xe_iload 3).trans (congrArg (x_iload 3) ((xe_if_icmp .le 165).trans (congrArg (x_if_icmp .le 165 K) xe_nil))))))))))))))
theorem bk_X3_playTennis_0 : ck_ fX3 none cX3_playTennis 0 [.iload 1, .iconst 6, .if_icmp .ne 21, .aload 0, .tableswitch 0 3 8 #[], .iconst 1, .iload 2, .isub, .iconst 2, .iastore, .aload 0, .iconst 1, .tableswitch 1 3 3 #[], .return_] 21 = true := qck_r (nn_ _) (by decide +kernel)
theorem bs_X3_playTennis_0 {P : Zt → Option Zv → Prop} (K : Int → Zl → List Zv → Zt → Prop) : sx_ K P [.iload 1, .iconst 6, .if_icmp .ne 21, .aload 0, .tableswitch 0 3 8 #[], .iconst 1, .iload 2, .isub, .iconst 2, .iastore, .aload 0, .iconst 1, .tableswitch 1 3 3 #[], .return_] 21 = x_iload 1 (x_iconst 6 (x_if_icmp .ne 21 K (x_aload 0 (x_g2 103 468 (x_iconst 1 (x_iload 2 (x_isub (x_iconst 2 (x_iastore (x_aload 0 (x_iconst 1 (x_p 103 3 0 1 (x_return_ P))))))))))))) := ((xe_iload 1).trans (congrArg (x_iload 1) ((xe_iconst 6).trans (congrArg (x_iconst 6) ((xe_if_icmp .ne 21).trans (congrArg (x_if_icmp .ne 21 K) ((xe_aload 0).trans (congrArg (x_aload 0) ((xe_g2 (kk := 103) rfl tl_3_8).trans (congrArg (x_g2 103 468) ((xe_iconst 1).trans (congrArg (x_iconst 1) ((xe_iload 2).trans (congrArg (x_iload 2) ((xe_isub).trans (congrArg (x_isub) ((xe_iconst 2).trans (congrArg (x_iconst 2) ((xe_iastore).trans (congrArg (x_iastore) ((xe_aload 0).trans (congrArg (x_aload 0) ((xe_iconst 1).trans (congrArg (x_iconst 1) ((xe_p (kk := 103) rfl tl_3_3).trans (congrArg (x_p 103 3 0 1) (xe_return_)))))))))))))))))))))))))))
theorem bk_X3_playTennis_21 : ck_ fX3 none cX3_playTennis 21 [.aload 0, .tableswitch 0 3 0 #[], .iconst 11, .iaload, .istore 3, .aload 0, .tableswitch 0 3 6 #[], .iload 2, .dup2, .iaload, .iconst 1, .fadd, .iastore, .aload 0, .tableswitch 0 3 7 #[], .iconst 0, .iaload, .iload 3, .if_icmp .ne 64, .aload 0, .tableswitch 0 3 7 #[], .iconst 1, .iaload, .iload 3, .if_icmp .ne 64, .iconst 7, .goto 65] 64 = true := qck_r (nn_ _) (by decide +kernel)
theorem bs_X3_playTennis_21 {P : Zt → Option Zv → Prop} (K : Int → Zl → List Zv → Zt → Prop) : sx_ K P [.aload 0, .tableswitch 0 3 0 #[], .iconst 11, .iaload, .istore 3, .aload 0, .tableswitch 0 3 6 #[], .iload 2, .dup2, .iaload, .iconst 1, .fadd, .iastore, .aload 0, .tableswitch 0 3 7 #[], .iconst 0, .iaload, .iload 3, .if_icmp .ne 64, .aload 0, .tableswitch 0 3 7 #[], .iconst 1, .iaload, .iload 3, .if_icmp .ne 64, .iconst 7, .goto 65] 64 = x_aload 0 (x_g3 103 401 0 (x_iconst 11 (x_iaload (x_istore 3 (x_aload 0 (x_g2 103 466 (x_iload 2 (x_dup2 (x_iaload (x_iconst 1 (x_fadd (x_iastore (x_aload 0 (x_g2 103 467 (x_iconst 0 (x_iaload (x_iload 3 (x_if_icmp .ne 64 K (x_aload 0 (x_g2 103 467 (x_iconst 1 (x_iaload (x_iload 3 (x_if_icmp .ne 64 K (x_iconst 7 (x_goto 65 K)))))))))))))))))))))))))) := ((xe_aload 0).trans (congrArg (x_aload 0) ((xe_g3 (kk := 103) rfl tl_3_0).trans (congrArg (x_g3 103 401 0) ((xe_iconst 11).trans (congrArg (x_iconst 11) ((xe_iaload).trans (congrArg (x_iaload) ((xe_istore 3).trans (congrArg (x_istore 3) ((xe_aload 0).trans (congrArg (x_aload 0) ((xe_g2 (kk := 103) rfl tl_3_6).trans (congrArg (x_g2 103 466) ((xe_iload 2).trans (congrArg (x_iload 2) ((xe_dup2).trans (congrArg (x_dup2) ((xe_iaload).trans (congrArg (x_iaload) ((xe_iconst 1).trans (congrArg (x_iconst 1) ((xe_fadd).trans (congrArg (x_fadd) ((xe_iastore).trans (congrArg (x_iastore) ((xe_aload 0).trans (congrArg (x_aload 0) ((xe_g2 (kk := 103) rfl tl_3_7).trans (congrArg (x_g2 103 467) ((xe_iconst 0).trans (congrArg (x_iconst 0) ((xe_iaload).trans (congrArg (x_iaload) ((xe_iload 3).trans (congrArg (x_iload 3) ((xe_if_icmp .ne 64).trans (congrArg (x_if_icmp .ne 64 K) ((xe_aload 0).trans (congrArg (x_aload 0) ((xe_g2 (kk := 103) rfl tl_3_7).trans (congrArg (x_g2 103 467) ((xe_iconst 1).trans (congrArg (x_iconst 1) ((xe_iaload).trans (congrArg (x_iaload) ((xe_iload 3).trans (congrArg (x_iload 3) ((xe_if_icmp .ne 64).trans (congrArg (x_if_icmp .ne 64 K) ((xe_iconst 7).trans (congrArg (x_iconst 7) (xe_goto 65)))))))))))))))))))))))))))))))))))))))))))))))))))))
theorem bk_X3_playTennis_64 : ck_ fX3 none cX3_playTennis 64 [.iconst 4] 65 = true := qck_r (nn_ _) (by decide +kernel)
theorem bs_X3_playTennis_64 {P : Zt → Option Zv → Prop} (K : Int → Zl → List Zv → Zt → Prop) : sx_ K P [.iconst 4] 65 = x_iconst 4 (K 65) := ((xe_iconst 4).trans (congrArg (x_iconst 4) xe_nil))
abbrev po_X3_playTennis (T : Zt) (p : Int) (k s : Int) : Zt → Option Zv → Prop := fun T' r => r = none ∧ fr_ [(103, [3, 4, 5]), (466, []), (467, []), (468, [])] T T' ∧ (oi_ T T' p ∧ (T' 103 p 3 = 0 → 1 ≤ T' 470 p 0 ∧ 1 ≤ T' 470 p 1))
set_option maxHeartbeats 4000000 in
theorem ct_X3_playTennis {T : Zt} {p : Int} {k s : Int} (hs : 0 ≤ s ∧ s ≤ 1) (hfd : 1 ≤ T 470 p 0 ∧ 1 ≤ T 470 p 1) : Ct_ yX3_playTennis zX3_playTennis T [vR 103 p, vI k, vI s] (po_X3_playTennis T p k s) := by
  refine ct_of pn_3 rfl rfl (Nat.le_of_ble_eq_true rfl) (fun hT hav => ?_)
  have hr_k : -2147483648 ≤ k ∧ k ≤ 2147483647 := hav (vI k) (by simp)
  have hr_s : -2147483648 ≤ s ∧ s ≤ 2147483647 := hav (vI s) (by simp)
  have hz : zX3_playTennis.2.2.2.1 = some .boolean → ∀ (T' : Zt) (x : Int), po_X3_playTennis T p k s T' (some (vI x)) → 0 ≤ x ∧ x ≤ 1 := fun h => by cases h
  show J_ zX3_playTennis T (po_X3_playTennis T p k s) 0 0 0 [some (vR 103 p), some (vI k), some (vI s), none, none] [] T
  have c_165 : ∀ (T3 : Zt), (fr_ [(103, [4]), (466, []), (467, []), (468, [])] T T3) → (oi_ T T3 p) → J_ zX3_playTennis T (po_X3_playTennis T p k s) 0 0 165 [some (vR 103 p), some (vI k), some (vI s), none, none] [] T3 := by
    intro T3 hf_165 o3
    refine j_blx (F := fX3) tb_X3 (nn_ _) bk_X3_playTennis_165 bs_X3_playTennis_165 hz (fun K hK => ?_)
    intro b1 b1b
    have e2 : T3 103 p 5 = T 103 p 5 := hf_165 103 p 5 rfl
    rw [e2] at b1 b1b ⊢
    refine rg_i (by omega) ?_
    refine bd_i (by omega) ?_
    refine x_nm (fun U3 hU3 => ?_)
    have e4 := up_f hU3
    refine (show po_X3_playTennis T p k s U3 (none) from ?_)
    have e5 : U3 103 p 3 = T 103 p 3 := (up_j hU3 (by exact ni_ rfl) 103 p).trans (hf_165 103 p 3 rfl)
    have e6 : U3 470 p 0 = T 470 p 0 := (up_k hU3 (by exact Nat.ne_of_beq_eq_false rfl) p 0).trans (hf_165 470 p 0 rfl)
    have e7 : U3 470 p 1 = T 470 p 1 := (up_k hU3 (by exact Nat.ne_of_beq_eq_false rfl) p 1).trans (hf_165 470 p 1 rfl)
    have g8 : U3 470 p 0 = T 470 p 0 := (up_k hU3 (by exact Nat.ne_of_beq_eq_false rfl) p 0).trans (hf_165 470 p 0 rfl)
    have g9 : U3 470 p 1 = T 470 p 1 := (up_k hU3 (by exact Nat.ne_of_beq_eq_false rfl) p 1).trans (hf_165 470 p 1 rfl)
    have e10 : U3 103 p 3 = T 103 p 3 := (up_j hU3 (by exact ni_ rfl) 103 p).trans (hf_165 103 p 3 rfl)
    exact ⟨rfl, fr_u (fr_t (fr_0 _ _) (fr_s hf_165 rfl)) hU3 rfl, oi_u (o3) hU3, by exact fun _ => by omega⟩
  have c_121 : ∀ (T2 : Zt), (fr_ [(466, []), (467, [])] T T2) → (oi_ T T2 p) → J_ zX3_playTennis T (po_X3_playTennis T p k s) 0 0 121 [some (vR 103 p), some (vI k), some (vI s), none, none] [] T2 := by
    intro T2 hf_121 o2
    refine j_blx (F := fX3) tb_X3 (nn_ _) bk_X3_playTennis_121 bs_X3_playTennis_121 hz (fun K hK => ?_)
    refine hK 126 _ [vI 0, vR 467 p] T2 ?_
    refine j_callS (y := yJ7_fill_53178) (Yc := zJ7_fill_53178) (rest := []) [vR 467 p, vI 0] (ct_J7_fill_467 (T := T2) (by omega)) cl_X3_62 (qd_c (by decide +kernel)) (nn_ _) rfl (rf_of rfl) (Nat.le_of_ble_eq_true rfl) (Nat.le_of_ble_eq_true rfl) (Nat.le_of_ble_eq_true rfl) rfl ?_
    rintro U11 _ ⟨rfl, fU11, qU11o, qU11⟩
    show J_ zX3_playTennis T (po_X3_playTennis T p k s) 0 0 129 _ [] U11
    refine j_blx (F := fX3) tb_X3 (nn_ _) bk_X3_playTennis_129 bs_X3_playTennis_129 hz (fun K hK => ?_)
    refine ix_i (by omega) ?_
    intro b12 b12b
    have e13 : U11 468 p s = T 468 p s := (fU11 468 p s rfl).trans (hf_121 468 p s rfl)
    rw [e13] at b12 b12b ⊢
    intro w14 w14b
    refine iy_i (by omega) (by omega) ?_
    refine x_nm (fun U15 hU15 => ?_)
    have e16 := up_f hU15
    refine ix_i (by omega) ?_
    intro b17 b17b
    have e18 : U15 468 p s = wr_ ((T 468 p s) + 1) := up_f hU15
    rw [e18] at b17 b17b ⊢
    refine And.intro (fun c19 => ?_) (fun c19 => ?_)
    · refine hK 155 _ [] U15 ?_
      refine j_blx (F := fX3) tb_X3 (nn_ _) bk_X3_playTennis_155 bs_X3_playTennis_155 hz (fun K hK => ?_)
      intro b20 b20b
      have e21 : U15 103 p 4 = T 103 p 4 := (up_k hU15 (by exact Nat.ne_of_beq_eq_false rfl) p 4).trans ((fU11 103 p 4 rfl).trans (hf_121 103 p 4 rfl))
      rw [e21] at b20 b20b ⊢
      intro w22 w22b
      refine bd_i (by omega) ?_
      refine x_nm (fun U23 hU23 => ?_)
      have e24 := up_f hU23
      refine hK 165 _ [] U23 ?_
      refine c_165 U23 ?_ ?_
      · exact fr_u (fr_u (fr_t (fr_t (fr_0 _ _) (fr_s hf_121 rfl)) (fr_s fU11 rfl)) hU15 rfl) hU23 rfl
      · exact oi_u (oi_u (oi_t (o2) qU11o) hU15) hU23
    · refine bd_i (by omega) ?_
      refine x_nm (fun U25 hU25 => ?_)
      have e26 := up_f hU25
      refine (show po_X3_playTennis T p k s U25 (none) from ?_)
      have e27 : U25 103 p 3 = 1 := up_f hU25
      have e28 : U25 470 p 0 = T 470 p 0 := (up_k hU25 (by exact Nat.ne_of_beq_eq_false rfl) p 0).trans ((up_k hU15 (by exact Nat.ne_of_beq_eq_false rfl) p 0).trans ((fU11 470 p 0 rfl).trans (hf_121 470 p 0 rfl)))
      have e29 : U25 470 p 1 = T 470 p 1 := (up_k hU25 (by exact Nat.ne_of_beq_eq_false rfl) p 1).trans ((up_k hU15 (by exact Nat.ne_of_beq_eq_false rfl) p 1).trans ((fU11 470 p 1 rfl).trans (hf_121 470 p 1 rfl)))
      have g30 : U25 470 p 0 = T 470 p 0 := (up_k hU25 (by exact Nat.ne_of_beq_eq_false rfl) p 0).trans ((up_k hU15 (by exact Nat.ne_of_beq_eq_false rfl) p 0).trans ((fU11 470 p 0 rfl).trans (hf_121 470 p 0 rfl)))
      have g31 : U25 470 p 1 = T 470 p 1 := (up_k hU25 (by exact Nat.ne_of_beq_eq_false rfl) p 1).trans ((up_k hU15 (by exact Nat.ne_of_beq_eq_false rfl) p 1).trans ((fU11 470 p 1 rfl).trans (hf_121 470 p 1 rfl)))
      have e32 : U25 103 p 3 = 1 := up_f hU25
      exact ⟨rfl, fr_u (fr_u (fr_t (fr_t (fr_0 _ _) (fr_s hf_121 rfl)) (fr_s fU11 rfl)) hU15 rfl) hU25 rfl, oi_u (oi_u (oi_t (o2) qU11o) hU15) hU25, by exact fun _ => by omega⟩
  have c_65 : ∀ (v : Int) (T1 : Zt), (fr_ [(466, [])] T T1) → (oi_ T T1 p) → J_ zX3_playTennis T (po_X3_playTennis T p k s) 0 0 65 [some (vR 103 p), some (vI k), some (vI s), some (vI (T 401 (T 103 p 0) 11)), none] [vI v] T1 := by
    intro v T1 hf_65 o1
    refine j_blx (F := fX3) tb_X3 (nn_ _) bk_X3_playTennis_65 bs_X3_playTennis_65 hz (fun K hK => ?_)
    refine hK 74 [some (vR 103 p), some (vI k), some (vI s), some (vI (T 401 (T 103 p 0) 11)), some (vI v)] [vI v, vI s, vR 466 p] T1 ?_
    refine j_callS (y := yX3_isWon) (Yc := zX3_isWon) (rest := []) [vR 466 p, vI s, vI v] (ct_X3_isWon_466 (T := T1) (by omega)) cl_X3_125 (qd_c (by decide +kernel)) (nn_ _) rfl (rf_of rfl) (Nat.le_of_ble_eq_true rfl) (Nat.le_of_ble_eq_true rfl) (Nat.le_of_ble_eq_true rfl) rfl ?_
    rintro _ _ ⟨rfl, x33, rfl, hx33⟩
    show J_ zX3_playTennis T (po_X3_playTennis T p k s) 0 0 77 _ [vI x33] T1
    refine j_blx (F := fX3) tb_X3 (nn_ _) bk_X3_playTennis_77 bs_X3_playTennis_77 hz (fun K hK => ?_)
    refine And.intro (fun c34 => ?_) (fun c34 => ?_)
    · refine hK 81 _ [] T1 ?_
      refine j_blx (F := fX3) tb_X3 (nn_ _) bk_X3_playTennis_81 bs_X3_playTennis_81 hz (fun K hK => ?_)
      refine hK 86 _ [vI 0, vR 466 p] T1 ?_
      refine j_callS (y := yJ7_fill_53178) (Yc := zJ7_fill_53178) (rest := []) [vR 466 p, vI 0] (ct_J7_fill_466 (T := T1) (by omega)) cl_X3_62 (qd_c (by decide +kernel)) (nn_ _) rfl (rf_of rfl) (Nat.le_of_ble_eq_true rfl) (Nat.le_of_ble_eq_true rfl) (Nat.le_of_ble_eq_true rfl) rfl ?_
      rintro U35 _ ⟨rfl, fU35, qU35o, qU35⟩
      show J_ zX3_playTennis T (po_X3_playTennis T p k s) 0 0 89 _ [] U35
      refine j_blx (F := fX3) tb_X3 (nn_ _) bk_X3_playTennis_89 bs_X3_playTennis_89 hz (fun K hK => ?_)
      refine ix_i (by omega) ?_
      intro b36 b36b
      have e37 : U35 467 p s = T 467 p s := (fU35 467 p s rfl).trans (hf_65 467 p s rfl)
      rw [e37] at b36 b36b ⊢
      intro w38 w38b
      refine iy_i (by omega) (by omega) ?_
      refine x_nm (fun U39 hU39 => ?_)
      have e40 := up_f hU39
      refine hK 105 _ [vI (T 401 (T 103 p 0) 11), vI s, vR 467 p] U39 ?_
      refine j_callS (y := yX3_isWon) (Yc := zX3_isWon) (rest := []) [vR 467 p, vI s, vI (T 401 (T 103 p 0) 11)] (ct_X3_isWon_467 (T := U39) (by omega)) cl_X3_125 (qd_c (by decide +kernel)) (nn_ _) rfl (rf_of rfl) (Nat.le_of_ble_eq_true rfl) (Nat.le_of_ble_eq_true rfl) (Nat.le_of_ble_eq_true rfl) rfl ?_
      rintro _ _ ⟨rfl, x41, rfl, hx41⟩
      show J_ zX3_playTennis T (po_X3_playTennis T p k s) 0 0 108 _ [vI x41] U39
      refine j_blx (F := fX3) tb_X3 (nn_ _) bk_X3_playTennis_108 bs_X3_playTennis_108 hz (fun K hK => ?_)
      refine And.intro (fun c42 => ?_) (fun c42 => ?_)
      · refine hK 121 _ [] U39 ?_
        refine j_drop [some (vR 103 p), some (vI k), some (vI s), none, none] (fun k v hk => ?_) rfl ?_
        · match k, hk with
          | 0, hk => exact hk
          | 1, hk => exact hk
          | 2, hk => exact hk
          | 3, hk => cases hk
          | 4, hk => cases hk
          | k + 5, hk => cases hk
        refine c_121 U39 ?_ ?_
        · exact fr_u (fr_t (fr_t (fr_0 _ _) (fr_s hf_65 rfl)) (fr_s fU35 rfl)) hU39 rfl
        · exact oi_u (oi_t (o1) qU35o) hU39
      · refine ix_i (by omega) ?_
        intro b43 b43b
        have e44 : U39 467 p s = wr_ ((T 467 p s) + 1) := up_f hU39
        rw [e44] at b43 b43b ⊢
        refine And.intro (fun c45 => ?_) (fun c45 => ?_)
        · refine hK 165 [some (vR 103 p), some (vI k), some (vI s), some (vI (T 401 (T 103 p 0) 11)), some (vI v)] [] U39 ?_
          refine j_drop [some (vR 103 p), some (vI k), some (vI s), none, none] (fun k v hk => ?_) rfl ?_
          · match k, hk with
            | 0, hk => exact hk
            | 1, hk => exact hk
            | 2, hk => exact hk
            | 3, hk => cases hk
            | 4, hk => cases hk
            | k + 5, hk => cases hk
          refine c_165 U39 ?_ ?_
          · exact fr_u (fr_t (fr_t (fr_0 _ _) (fr_s hf_65 rfl)) (fr_s fU35 rfl)) hU39 rfl
          · exact oi_u (oi_t (o1) qU35o) hU39
        · refine hK 121 [some (vR 103 p), some (vI k), some (vI s), some (vI (T 401 (T 103 p 0) 11)), some (vI v)] [] U39 ?_
          refine j_drop [some (vR 103 p), some (vI k), some (vI s), none, none] (fun k v hk => ?_) rfl ?_
          · match k, hk with
            | 0, hk => exact hk
            | 1, hk => exact hk
            | 2, hk => exact hk
            | 3, hk => cases hk
            | 4, hk => cases hk
            | k + 5, hk => cases hk
          refine c_121 U39 ?_ ?_
          · exact fr_u (fr_t (fr_t (fr_0 _ _) (fr_s hf_65 rfl)) (fr_s fU35 rfl)) hU39 rfl
          · exact oi_u (oi_t (o1) qU35o) hU39
    · refine (show po_X3_playTennis T p k s T1 (none) from ?_)
      have e46 : T1 103 p 3 = T 103 p 3 := hf_65 103 p 3 rfl
      have e47 : T1 470 p 0 = T 470 p 0 := hf_65 470 p 0 rfl
      have e48 : T1 470 p 1 = T 470 p 1 := hf_65 470 p 1 rfl
      have g49 : T1 470 p 0 = T 470 p 0 := hf_65 470 p 0 rfl
      have g50 : T1 470 p 1 = T 470 p 1 := hf_65 470 p 1 rfl
      have e51 : T1 103 p 3 = T 103 p 3 := hf_65 103 p 3 rfl
      exact ⟨rfl, fr_t (fr_0 _ _) (fr_s hf_65 rfl), o1, by exact fun _ => by omega⟩
  refine j_blx (F := fX3) tb_X3 (nn_ _) bk_X3_playTennis_0 bs_X3_playTennis_0 hz (fun K hK => ?_)
  refine And.intro (fun c52 => ?_) (fun c52 => ?_)
  · refine hK 21 _ [] T ?_
    refine j_blx (F := fX3) tb_X3 (nn_ _) bk_X3_playTennis_21 bs_X3_playTennis_21 hz (fun K hK => ?_)
    refine ix_i (by omega) ?_
    intro b54 b54b
    refine ix_i (by omega) ?_
    intro b55 b55b
    intro w56 w56b
    refine iy_i (by omega) (by omega) ?_
    refine x_nm (fun U57 hU57 => ?_)
    have e58 := up_f hU57
    refine ix_i (by omega) ?_
    intro b59 b59b
    have e60 : U57 467 p 0 = T 467 p 0 := up_k hU57 (by exact Nat.ne_of_beq_eq_false rfl) p 0
    rw [e60] at b59 b59b ⊢
    refine And.intro (fun c61 => ?_) (fun c61 => ?_)
    · refine hK 64 [some (vR 103 p), some (vI k), some (vI s), some (vI (T 401 (T 103 p 0) 11)), none] [] U57 ?_
      refine j_blx (F := fX3) tb_X3 (nn_ _) bk_X3_playTennis_64 bs_X3_playTennis_64 hz (fun K hK => ?_)
      refine hK 65 _ [vI 4] U57 ?_
      refine c_65 4 U57 ?_ ?_
      · exact fr_u (fr_0 _ _) hU57 rfl
      · exact oi_u (oi_r) hU57
    · refine ix_i (by omega) ?_
      intro b62 b62b
      have e63 : U57 467 p 1 = T 467 p 1 := up_k hU57 (by exact Nat.ne_of_beq_eq_false rfl) p 1
      rw [e63] at b62 b62b ⊢
      refine And.intro (fun c64 => ?_) (fun c64 => ?_)
      · refine hK 64 _ [] U57 ?_
        refine j_blx (F := fX3) tb_X3 (nn_ _) bk_X3_playTennis_64 bs_X3_playTennis_64 hz (fun K hK => ?_)
        refine hK 65 _ [vI 4] U57 ?_
        refine c_65 4 U57 ?_ ?_
        · exact fr_u (fr_0 _ _) hU57 rfl
        · exact oi_u (oi_r) hU57
      · refine hK 65 _ [vI 7] U57 ?_
        refine c_65 7 U57 ?_ ?_
        · exact fr_u (fr_0 _ _) hU57 rfl
        · exact oi_u (oi_r) hU57
  · refine rg_i (by omega) ?_
    refine iy_i (by omega) (by omega) ?_
    refine x_nm (fun U65 hU65 => ?_)
    have e66 := up_f hU65
    refine bd_i (by omega) ?_
    refine x_nm (fun U67 hU67 => ?_)
    have e68 := up_f hU67
    refine (show po_X3_playTennis T p k s U67 (none) from ?_)
    have e69 : U67 103 p 3 = 1 := up_f hU67
    have e70 : U67 470 p 0 = T 470 p 0 := (up_k hU67 (by exact Nat.ne_of_beq_eq_false rfl) p 0).trans (up_k hU65 (by exact Nat.ne_of_beq_eq_false rfl) p 0)
    have e71 : U67 470 p 1 = T 470 p 1 := (up_k hU67 (by exact Nat.ne_of_beq_eq_false rfl) p 1).trans (up_k hU65 (by exact Nat.ne_of_beq_eq_false rfl) p 1)
    have g72 : U67 470 p 0 = T 470 p 0 := (up_k hU67 (by exact Nat.ne_of_beq_eq_false rfl) p 0).trans (up_k hU65 (by exact Nat.ne_of_beq_eq_false rfl) p 0)
    have g73 : U67 470 p 1 = T 470 p 1 := (up_k hU67 (by exact Nat.ne_of_beq_eq_false rfl) p 1).trans (up_k hU65 (by exact Nat.ne_of_beq_eq_false rfl) p 1)
    have e74 : U67 103 p 3 = 1 := up_f hU67
    exact ⟨rfl, fr_u (fr_u (fr_0 _ _) hU65 rfl) hU67 rfl, oi_u (oi_u (oi_r) hU65) hU67, by exact fun _ => by omega⟩
abbrev cX3_endHalf : ByteArray := prog_5_method_28_code
def yX3_endHalf : MethodName := ⟨RX3, "endHalf", "()V"⟩
def zX3_endHalf : Zm := (RX3, cX3_endHalf, 2, none, { frames := 1, cells := 0, slots := 0, locals := 20 })
theorem bk_X3_endHalf_64 : ck_ fX3 none cX3_endHalf 64 [.istore 1, .aload 0] 66 = true := qck_r (nn_ _) (by decide +kernel)
theorem bs_X3_endHalf_64 {P : Zt → Option Zv → Prop} (K : Int → Zl → List Zv → Zt → Prop) : sx_ K P [.istore 1, .aload 0] 66 = x_istore 1 (x_aload 0 (K 66)) := ((xe_istore 1).trans (congrArg (x_istore 1) ((xe_aload 0).trans (congrArg (x_aload 0) xe_nil))))
set_option maxRecDepth 100000 in
theorem cl_X3_147 : cv_ RX3 147 yX3_isLastInning zX3_isLastInning 3 0 := ⟨gi_V (lw_b5 117 (by decide +kernel) rfl : Cond.methodLink RX3 147 yX3_isLastInning ∈ lw_g) (lw_b5 119 (by decide +kernel) rfl : Cond.instanceMethod yX3_isLastInning ∈ lw_g) (lw_sel 91 rfl : Cond.selects yX3_isLastInning.cls yX3_isLastInning yX3_isLastInning ∈ lw_g) (lw_b1 18 (by decide +kernel) rfl : Cond.initialized yX3_isLastInning.cls ∈ lw_g) (lw_b5 120 rfl rfl : Cond.code yX3_isLastInning cX3_isLastInning 1 (some .boolean) ∈ lw_g), ⟨by decide, by decide, by decide +kernel⟩, ⟨_, _, rfl⟩⟩
theorem bk_X3_endHalf_69 : ck_ fX3 none cX3_endHalf 69 [.ifCond .eq 76, .iload 1, .ifCond .ne 95, .aload 0, .tableswitch 0 3 4 #[], .iconst 1, .fadd, .aload 0, .tableswitch 0 3 0 #[], .iconst 11, .iaload, .iconst 20, .fadd, .if_icmp .ne 101, .aload 0, .iconst 1, .tableswitch 1 3 3 #[], .return_] 101 = true := qck_r (nn_ _) (by decide +kernel)
theorem bs_X3_endHalf_69 {P : Zt → Option Zv → Prop} (K : Int → Zl → List Zv → Zt → Prop) : sx_ K P [.ifCond .eq 76, .iload 1, .ifCond .ne 95, .aload 0, .tableswitch 0 3 4 #[], .iconst 1, .fadd, .aload 0, .tableswitch 0 3 0 #[], .iconst 11, .iaload, .iconst 20, .fadd, .if_icmp .ne 101, .aload 0, .iconst 1, .tableswitch 1 3 3 #[], .return_] 101 = x_ifCond .eq 76 K (x_iload 1 (x_ifCond .ne 95 K (x_aload 0 (x_g0 103 4 (-2147483648) 2147483647 (x_iconst 1 (x_fadd (x_aload 0 (x_g3 103 401 0 (x_iconst 11 (x_iaload (x_iconst 20 (x_fadd (x_if_icmp .ne 101 K (x_aload 0 (x_iconst 1 (x_p 103 3 0 1 (x_return_ P))))))))))))))))) := ((xe_ifCond .eq 76).trans (congrArg (x_ifCond .eq 76 K) ((xe_iload 1).trans (congrArg (x_iload 1) ((xe_ifCond .ne 95).trans (congrArg (x_ifCond .ne 95 K) ((xe_aload 0).trans (congrArg (x_aload 0) ((xe_g0 (kk := 103) rfl tl_3_4).trans (congrArg (x_g0 103 4 (-2147483648) 2147483647) ((xe_iconst 1).trans (congrArg (x_iconst 1) ((xe_fadd).trans (congrArg (x_fadd) ((xe_aload 0).trans (congrArg (x_aload 0) ((xe_g3 (kk := 103) rfl tl_3_0).trans (congrArg (x_g3 103 401 0) ((xe_iconst 11).trans (congrArg (x_iconst 11) ((xe_iaload).trans (congrArg (x_iaload) ((xe_iconst 20).trans (congrArg (x_iconst 20) ((xe_fadd).trans (congrArg (x_fadd) ((xe_if_icmp .ne 101).trans (congrArg (x_if_icmp .ne 101 K) ((xe_aload 0).trans (congrArg (x_aload 0) ((xe_iconst 1).trans (congrArg (x_iconst 1) ((xe_p (kk := 103) rfl tl_3_3).trans (congrArg (x_p 103 3 0 1) (xe_return_)))))))))))))))))))))))))))))))))))
theorem bk_X3_endHalf_76 : ck_ fX3 none cX3_endHalf 76 [.aload 0, .tableswitch 0 3 4 #[], .iconst 1, .fadd, .aload 0, .tableswitch 0 3 0 #[], .iconst 11, .iaload, .iconst 20, .fadd, .if_icmp .ne 101, .aload 0, .iconst 1, .tableswitch 1 3 3 #[], .return_] 101 = true := qck_r (nn_ _) (by decide +kernel)
theorem bs_X3_endHalf_76 {P : Zt → Option Zv → Prop} (K : Int → Zl → List Zv → Zt → Prop) : sx_ K P [.aload 0, .tableswitch 0 3 4 #[], .iconst 1, .fadd, .aload 0, .tableswitch 0 3 0 #[], .iconst 11, .iaload, .iconst 20, .fadd, .if_icmp .ne 101, .aload 0, .iconst 1, .tableswitch 1 3 3 #[], .return_] 101 = x_aload 0 (x_g0 103 4 (-2147483648) 2147483647 (x_iconst 1 (x_fadd (x_aload 0 (x_g3 103 401 0 (x_iconst 11 (x_iaload (x_iconst 20 (x_fadd (x_if_icmp .ne 101 K (x_aload 0 (x_iconst 1 (x_p 103 3 0 1 (x_return_ P)))))))))))))) := ((xe_aload 0).trans (congrArg (x_aload 0) ((xe_g0 (kk := 103) rfl tl_3_4).trans (congrArg (x_g0 103 4 (-2147483648) 2147483647) ((xe_iconst 1).trans (congrArg (x_iconst 1) ((xe_fadd).trans (congrArg (x_fadd) ((xe_aload 0).trans (congrArg (x_aload 0) ((xe_g3 (kk := 103) rfl tl_3_0).trans (congrArg (x_g3 103 401 0) ((xe_iconst 11).trans (congrArg (x_iconst 11) ((xe_iaload).trans (congrArg (x_iaload) ((xe_iconst 20).trans (congrArg (x_iconst 20) ((xe_fadd).trans (congrArg (x_fadd) ((xe_if_icmp .ne 101).trans (congrArg (x_if_icmp .ne 101 K) ((xe_aload 0).trans (congrArg (x_aload 0) ((xe_iconst 1).trans (congrArg (x_iconst 1) ((xe_p (kk := 103) rfl tl_3_3).trans (congrArg (x_p 103 3 0 1) (xe_return_)))))))))))))))))))))))))))))
theorem bk_X3_endHalf_101 : ck_ fX3 none cX3_endHalf 101 [.aload 0, .dup, .tableswitch 0 3 4 #[], .iconst 1, .fadd, .tableswitch 1 3 4 #[], .aload 0, .iconst 1, .tableswitch 1 3 5 #[], .return_] 117 = true := qck_r (nn_ _) (by decide +kernel)
theorem bs_X3_endHalf_101 {P : Zt → Option Zv → Prop} (K : Int → Zl → List Zv → Zt → Prop) : sx_ K P [.aload 0, .dup, .tableswitch 0 3 4 #[], .iconst 1, .fadd, .tableswitch 1 3 4 #[], .aload 0, .iconst 1, .tableswitch 1 3 5 #[], .return_] 117 = x_aload 0 (x_dup (x_g0 103 4 (-2147483648) 2147483647 (x_iconst 1 (x_fadd (x_p 103 4 (-2147483648) 2147483647 (x_aload 0 (x_iconst 1 (x_p 103 5 0 1 (x_return_ P))))))))) := ((xe_aload 0).trans (congrArg (x_aload 0) ((xe_dup).trans (congrArg (x_dup) ((xe_g0 (kk := 103) rfl tl_3_4).trans (congrArg (x_g0 103 4 (-2147483648) 2147483647) ((xe_iconst 1).trans (congrArg (x_iconst 1) ((xe_fadd).trans (congrArg (x_fadd) ((xe_p (kk := 103) rfl tl_3_4).trans (congrArg (x_p 103 4 (-2147483648) 2147483647) ((xe_aload 0).trans (congrArg (x_aload 0) ((xe_iconst 1).trans (congrArg (x_iconst 1) ((xe_p (kk := 103) rfl tl_3_5).trans (congrArg (x_p 103 5 0 1) (xe_return_)))))))))))))))))))
theorem bk_X3_endHalf_95 : ck_ fX3 none cX3_endHalf 95 [.aload 0, .iconst 1, .tableswitch 1 3 3 #[], .return_] 101 = true := qck_r (nn_ _) (by decide +kernel)
theorem bs_X3_endHalf_95 {P : Zt → Option Zv → Prop} (K : Int → Zl → List Zv → Zt → Prop) : sx_ K P [.aload 0, .iconst 1, .tableswitch 1 3 3 #[], .return_] 101 = x_aload 0 (x_iconst 1 (x_p 103 3 0 1 (x_return_ P))) := ((xe_aload 0).trans (congrArg (x_aload 0) ((xe_iconst 1).trans (congrArg (x_iconst 1) ((xe_p (kk := 103) rfl tl_3_3).trans (congrArg (x_p 103 3 0 1) (xe_return_)))))))
theorem bk_X3_endHalf_0 : ck_ fX3 none cX3_endHalf 0 [.aload 0, .tableswitch 0 3 5 #[], .iconst 1, .if_icmp .ne 44, .aload 0] 9 = true := qck_r (nn_ _) (by decide +kernel)
theorem bs_X3_endHalf_0 {P : Zt → Option Zv → Prop} (K : Int → Zl → List Zv → Zt → Prop) : sx_ K P [.aload 0, .tableswitch 0 3 5 #[], .iconst 1, .if_icmp .ne 44, .aload 0] 9 = x_aload 0 (x_g0 103 5 0 1 (x_iconst 1 (x_if_icmp .ne 44 K (x_aload 0 (K 9))))) := ((xe_aload 0).trans (congrArg (x_aload 0) ((xe_g0 (kk := 103) rfl tl_3_5).trans (congrArg (x_g0 103 5 0 1) ((xe_iconst 1).trans (congrArg (x_iconst 1) ((xe_if_icmp .ne 44).trans (congrArg (x_if_icmp .ne 44 K) ((xe_aload 0).trans (congrArg (x_aload 0) xe_nil))))))))))
theorem bk_X3_endHalf_44 : ck_ fX3 none cX3_endHalf 44 [.aload 0, .tableswitch 0 3 8 #[], .iconst 0, .iaload, .aload 0, .tableswitch 0 3 8 #[], .iconst 1, .iaload, .if_icmp .eq 63, .iconst 1, .goto 64] 63 = true := qck_r (nn_ _) (by decide +kernel)
theorem bs_X3_endHalf_44 {P : Zt → Option Zv → Prop} (K : Int → Zl → List Zv → Zt → Prop) : sx_ K P [.aload 0, .tableswitch 0 3 8 #[], .iconst 0, .iaload, .aload 0, .tableswitch 0 3 8 #[], .iconst 1, .iaload, .if_icmp .eq 63, .iconst 1, .goto 64] 63 = x_aload 0 (x_g2 103 468 (x_iconst 0 (x_iaload (x_aload 0 (x_g2 103 468 (x_iconst 1 (x_iaload (x_if_icmp .eq 63 K (x_iconst 1 (x_goto 64 K)))))))))) := ((xe_aload 0).trans (congrArg (x_aload 0) ((xe_g2 (kk := 103) rfl tl_3_8).trans (congrArg (x_g2 103 468) ((xe_iconst 0).trans (congrArg (x_iconst 0) ((xe_iaload).trans (congrArg (x_iaload) ((xe_aload 0).trans (congrArg (x_aload 0) ((xe_g2 (kk := 103) rfl tl_3_8).trans (congrArg (x_g2 103 468) ((xe_iconst 1).trans (congrArg (x_iconst 1) ((xe_iaload).trans (congrArg (x_iaload) ((xe_if_icmp .eq 63).trans (congrArg (x_if_icmp .eq 63 K) ((xe_iconst 1).trans (congrArg (x_iconst 1) (xe_goto 64)))))))))))))))))))))
theorem bk_X3_endHalf_63 : ck_ fX3 none cX3_endHalf 63 [.iconst 0] 64 = true := qck_r (nn_ _) (by decide +kernel)
theorem bs_X3_endHalf_63 {P : Zt → Option Zv → Prop} (K : Int → Zl → List Zv → Zt → Prop) : sx_ K P [.iconst 0] 64 = x_iconst 0 (K 64) := ((xe_iconst 0).trans (congrArg (x_iconst 0) xe_nil))
theorem bk_X3_endHalf_12 : ck_ fX3 none cX3_endHalf 12 [.ifCond .eq 38, .aload 0, .tableswitch 0 3 8 #[], .iconst 0, .iaload, .aload 0, .tableswitch 0 3 8 #[], .iconst 1, .iaload, .if_icmp .le 38, .aload 0, .iconst 1, .tableswitch 1 3 3 #[], .goto 43] 38 = true := qck_r (nn_ _) (by decide +kernel)
theorem bs_X3_endHalf_12 {P : Zt → Option Zv → Prop} (K : Int → Zl → List Zv → Zt → Prop) : sx_ K P [.ifCond .eq 38, .aload 0, .tableswitch 0 3 8 #[], .iconst 0, .iaload, .aload 0, .tableswitch 0 3 8 #[], .iconst 1, .iaload, .if_icmp .le 38, .aload 0, .iconst 1, .tableswitch 1 3 3 #[], .goto 43] 38 = x_ifCond .eq 38 K (x_aload 0 (x_g2 103 468 (x_iconst 0 (x_iaload (x_aload 0 (x_g2 103 468 (x_iconst 1 (x_iaload (x_if_icmp .le 38 K (x_aload 0 (x_iconst 1 (x_p 103 3 0 1 (x_goto 43 K))))))))))))) := ((xe_ifCond .eq 38).trans (congrArg (x_ifCond .eq 38 K) ((xe_aload 0).trans (congrArg (x_aload 0) ((xe_g2 (kk := 103) rfl tl_3_8).trans (congrArg (x_g2 103 468) ((xe_iconst 0).trans (congrArg (x_iconst 0) ((xe_iaload).trans (congrArg (x_iaload) ((xe_aload 0).trans (congrArg (x_aload 0) ((xe_g2 (kk := 103) rfl tl_3_8).trans (congrArg (x_g2 103 468) ((xe_iconst 1).trans (congrArg (x_iconst 1) ((xe_iaload).trans (congrArg (x_iaload) ((xe_if_icmp .le 38).trans (congrArg (x_if_icmp .le 38 K) ((xe_aload 0).trans (congrArg (x_aload 0) ((xe_iconst 1).trans (congrArg (x_iconst 1) ((xe_p (kk := 103) rfl tl_3_3).trans (congrArg (x_p 103 3 0 1) (xe_goto 43)))))))))))))))))))))))))))
theorem bk_X3_endHalf_38 : ck_ fX3 none cX3_endHalf 38 [.aload 0, .iconst 0, .tableswitch 1 3 5 #[], .return_] 44 = true := qck_r (nn_ _) (by decide +kernel)
theorem bs_X3_endHalf_38 {P : Zt → Option Zv → Prop} (K : Int → Zl → List Zv → Zt → Prop) : sx_ K P [.aload 0, .iconst 0, .tableswitch 1 3 5 #[], .return_] 44 = x_aload 0 (x_iconst 0 (x_p 103 5 0 1 (x_return_ P))) := ((xe_aload 0).trans (congrArg (x_aload 0) ((xe_iconst 0).trans (congrArg (x_iconst 0) ((xe_p (kk := 103) rfl tl_3_5).trans (congrArg (x_p 103 5 0 1) (xe_return_)))))))
theorem bk_X3_endHalf_43 : ck_ fX3 none cX3_endHalf 43 [.return_] 44 = true := qck_r (nn_ _) (by decide +kernel)
theorem bs_X3_endHalf_43 {P : Zt → Option Zv → Prop} (K : Int → Zl → List Zv → Zt → Prop) : sx_ K P [.return_] 44 = x_return_ P := (xe_return_)
abbrev po_X3_endHalf (T : Zt) (p : Int) : Zt → Option Zv → Prop := fun T' r => r = none ∧ fr_ [(103, [3, 4, 5])] T T' ∧ (oi_ T T' p ∧ (T' 103 p 3 = 0 → 1 ≤ T' 470 p 0 ∧ 1 ≤ T' 470 p 1))
set_option maxHeartbeats 4000000 in
theorem ct_X3_endHalf {T : Zt} {p : Int} (hfd : 1 ≤ T 470 p 0 ∧ 1 ≤ T 470 p 1) : Ct_ yX3_endHalf zX3_endHalf T [vR 103 p] (po_X3_endHalf T p) := by
  refine ct_of pn_3 rfl rfl (Nat.le_of_ble_eq_true rfl) (fun hT hav => ?_)
  have hz : zX3_endHalf.2.2.2.1 = some .boolean → ∀ (T' : Zt) (x : Int), po_X3_endHalf T p T' (some (vI x)) → 0 ≤ x ∧ x ≤ 1 := fun h => by cases h
  show J_ zX3_endHalf T (po_X3_endHalf T p) 0 0 0 [some (vR 103 p), none] [] T
  have c_64 : ∀ (v : Int), J_ zX3_endHalf T (po_X3_endHalf T p) 0 0 64 [some (vR 103 p), none] [vI v] T := by
    intro v 
    refine j_blx (F := fX3) tb_X3 (nn_ _) bk_X3_endHalf_64 bs_X3_endHalf_64 hz (fun K hK => ?_)
    refine hK 66 [some (vR 103 p), some (vI v)] [vR 103 p] T ?_
    refine j_callV (y := yX3_isLastInning) (Yc := zX3_isLastInning) (rest := []) [] (ct_X3_isLastInning (T := T)) cl_X3_147 (qd_c (by decide +kernel)) (nn_ _) rfl (rf_of rfl) (Nat.le_of_ble_eq_true rfl) (Nat.le_of_ble_eq_true rfl) (Nat.le_of_ble_eq_true rfl) rfl ?_
    rintro _ _ ⟨rfl, x1, rfl, hx1⟩
    show J_ zX3_endHalf T (po_X3_endHalf T p) 0 0 69 _ [vI x1] T
    refine j_blx (F := fX3) tb_X3 (nn_ _) bk_X3_endHalf_69 bs_X3_endHalf_69 hz (fun K hK => ?_)
    refine And.intro (fun c2 => ?_) (fun c2 => ?_)
    · refine hK 76 _ [] T ?_
      refine j_blx (F := fX3) tb_X3 (nn_ _) bk_X3_endHalf_76 bs_X3_endHalf_76 hz (fun K hK => ?_)
      intro b3 b3b
      intro w4 w4b
      refine ix_i (by omega) ?_
      intro b6 b6b
      intro w7 w7b
      refine And.intro (fun c8 => ?_) (fun c8 => ?_)
      · refine hK 101 _ [] T ?_
        refine j_blx (F := fX3) tb_X3 (nn_ _) bk_X3_endHalf_101 bs_X3_endHalf_101 hz (fun K hK => ?_)
        intro b9 b9b
        intro w10 w10b
        refine bd_i (by omega) ?_
        refine x_nm (fun U11 hU11 => ?_)
        have e12 := up_f hU11
        refine bd_i (by omega) ?_
        refine x_nm (fun U13 hU13 => ?_)
        have e14 := up_f hU13
        refine (show po_X3_endHalf T p U13 (none) from ?_)
        have e15 : U13 103 p 3 = T 103 p 3 := (up_j hU13 (by exact ni_ rfl) 103 p).trans (up_j hU11 (by exact ni_ rfl) 103 p)
        have e16 : U13 470 p 0 = T 470 p 0 := (up_k hU13 (by exact Nat.ne_of_beq_eq_false rfl) p 0).trans (up_k hU11 (by exact Nat.ne_of_beq_eq_false rfl) p 0)
        have e17 : U13 470 p 1 = T 470 p 1 := (up_k hU13 (by exact Nat.ne_of_beq_eq_false rfl) p 1).trans (up_k hU11 (by exact Nat.ne_of_beq_eq_false rfl) p 1)
        have g18 : U13 470 p 0 = T 470 p 0 := (up_k hU13 (by exact Nat.ne_of_beq_eq_false rfl) p 0).trans (up_k hU11 (by exact Nat.ne_of_beq_eq_false rfl) p 0)
        have g19 : U13 470 p 1 = T 470 p 1 := (up_k hU13 (by exact Nat.ne_of_beq_eq_false rfl) p 1).trans (up_k hU11 (by exact Nat.ne_of_beq_eq_false rfl) p 1)
        have e20 : U13 103 p 3 = T 103 p 3 := (up_j hU13 (by exact ni_ rfl) 103 p).trans (up_j hU11 (by exact ni_ rfl) 103 p)
        exact ⟨rfl, fr_u (fr_u (fr_0 _ _) hU11 rfl) hU13 rfl, oi_u (oi_u (oi_r) hU11) hU13, by exact fun _ => by omega⟩
      · refine bd_i (by omega) ?_
        refine x_nm (fun U21 hU21 => ?_)
        have e22 := up_f hU21
        refine (show po_X3_endHalf T p U21 (none) from ?_)
        have e23 : U21 103 p 3 = 1 := up_f hU21
        have e24 : U21 470 p 0 = T 470 p 0 := up_k hU21 (by exact Nat.ne_of_beq_eq_false rfl) p 0
        have e25 : U21 470 p 1 = T 470 p 1 := up_k hU21 (by exact Nat.ne_of_beq_eq_false rfl) p 1
        have g26 : U21 470 p 0 = T 470 p 0 := up_k hU21 (by exact Nat.ne_of_beq_eq_false rfl) p 0
        have g27 : U21 470 p 1 = T 470 p 1 := up_k hU21 (by exact Nat.ne_of_beq_eq_false rfl) p 1
        have e28 : U21 103 p 3 = 1 := up_f hU21
        exact ⟨rfl, fr_u (fr_0 _ _) hU21 rfl, oi_u (oi_r) hU21, by exact fun _ => by omega⟩
    · refine And.intro (fun c29 => ?_) (fun c29 => ?_)
      · refine hK 95 _ [] T ?_
        refine j_blx (F := fX3) tb_X3 (nn_ _) bk_X3_endHalf_95 bs_X3_endHalf_95 hz (fun K hK => ?_)
        refine bd_i (by omega) ?_
        refine x_nm (fun U30 hU30 => ?_)
        have e31 := up_f hU30
        refine (show po_X3_endHalf T p U30 (none) from ?_)
        have e32 : U30 103 p 3 = 1 := up_f hU30
        have e33 : U30 470 p 0 = T 470 p 0 := up_k hU30 (by exact Nat.ne_of_beq_eq_false rfl) p 0
        have e34 : U30 470 p 1 = T 470 p 1 := up_k hU30 (by exact Nat.ne_of_beq_eq_false rfl) p 1
        have g35 : U30 470 p 0 = T 470 p 0 := up_k hU30 (by exact Nat.ne_of_beq_eq_false rfl) p 0
        have g36 : U30 470 p 1 = T 470 p 1 := up_k hU30 (by exact Nat.ne_of_beq_eq_false rfl) p 1
        have e37 : U30 103 p 3 = 1 := up_f hU30
        exact ⟨rfl, fr_u (fr_0 _ _) hU30 rfl, oi_u (oi_r) hU30, by exact fun _ => by omega⟩
      · intro b38 b38b
        intro w39 w39b
        refine ix_i (by omega) ?_
        intro b41 b41b
        intro w42 w42b
        refine And.intro (fun c43 => ?_) (fun c43 => ?_)
        · refine hK 101 _ [] T ?_
          refine j_blx (F := fX3) tb_X3 (nn_ _) bk_X3_endHalf_101 bs_X3_endHalf_101 hz (fun K hK => ?_)
          intro b44 b44b
          intro w45 w45b
          refine bd_i (by omega) ?_
          refine x_nm (fun U46 hU46 => ?_)
          have e47 := up_f hU46
          refine bd_i (by omega) ?_
          refine x_nm (fun U48 hU48 => ?_)
          have e49 := up_f hU48
          refine (show po_X3_endHalf T p U48 (none) from ?_)
          have e50 : U48 103 p 3 = T 103 p 3 := (up_j hU48 (by exact ni_ rfl) 103 p).trans (up_j hU46 (by exact ni_ rfl) 103 p)
          have e51 : U48 470 p 0 = T 470 p 0 := (up_k hU48 (by exact Nat.ne_of_beq_eq_false rfl) p 0).trans (up_k hU46 (by exact Nat.ne_of_beq_eq_false rfl) p 0)
          have e52 : U48 470 p 1 = T 470 p 1 := (up_k hU48 (by exact Nat.ne_of_beq_eq_false rfl) p 1).trans (up_k hU46 (by exact Nat.ne_of_beq_eq_false rfl) p 1)
          have g53 : U48 470 p 0 = T 470 p 0 := (up_k hU48 (by exact Nat.ne_of_beq_eq_false rfl) p 0).trans (up_k hU46 (by exact Nat.ne_of_beq_eq_false rfl) p 0)
          have g54 : U48 470 p 1 = T 470 p 1 := (up_k hU48 (by exact Nat.ne_of_beq_eq_false rfl) p 1).trans (up_k hU46 (by exact Nat.ne_of_beq_eq_false rfl) p 1)
          have e55 : U48 103 p 3 = T 103 p 3 := (up_j hU48 (by exact ni_ rfl) 103 p).trans (up_j hU46 (by exact ni_ rfl) 103 p)
          exact ⟨rfl, fr_u (fr_u (fr_0 _ _) hU46 rfl) hU48 rfl, oi_u (oi_u (oi_r) hU46) hU48, by exact fun _ => by omega⟩
        · refine bd_i (by omega) ?_
          refine x_nm (fun U56 hU56 => ?_)
          have e57 := up_f hU56
          refine (show po_X3_endHalf T p U56 (none) from ?_)
          have e58 : U56 103 p 3 = 1 := up_f hU56
          have e59 : U56 470 p 0 = T 470 p 0 := up_k hU56 (by exact Nat.ne_of_beq_eq_false rfl) p 0
          have e60 : U56 470 p 1 = T 470 p 1 := up_k hU56 (by exact Nat.ne_of_beq_eq_false rfl) p 1
          have g61 : U56 470 p 0 = T 470 p 0 := up_k hU56 (by exact Nat.ne_of_beq_eq_false rfl) p 0
          have g62 : U56 470 p 1 = T 470 p 1 := up_k hU56 (by exact Nat.ne_of_beq_eq_false rfl) p 1
          have e63 : U56 103 p 3 = 1 := up_f hU56
          exact ⟨rfl, fr_u (fr_0 _ _) hU56 rfl, oi_u (oi_r) hU56, by exact fun _ => by omega⟩
  refine j_blx (F := fX3) tb_X3 (nn_ _) bk_X3_endHalf_0 bs_X3_endHalf_0 hz (fun K hK => ?_)
  intro b64 b64b
  refine And.intro (fun c65 => ?_) (fun c65 => ?_)
  · refine hK 44 _ [] T ?_
    refine j_blx (F := fX3) tb_X3 (nn_ _) bk_X3_endHalf_44 bs_X3_endHalf_44 hz (fun K hK => ?_)
    refine ix_i (by omega) ?_
    intro b66 b66b
    refine ix_i (by omega) ?_
    intro b67 b67b
    refine And.intro (fun c68 => ?_) (fun c68 => ?_)
    · refine hK 63 _ [] T ?_
      refine j_blx (F := fX3) tb_X3 (nn_ _) bk_X3_endHalf_63 bs_X3_endHalf_63 hz (fun K hK => ?_)
      refine hK 64 _ [vI 0] T ?_
      exact c_64 0
    · refine hK 64 _ [vI 1] T ?_
      exact c_64 1
  · refine hK 9 _ [vR 103 p] T ?_
    refine j_callV (y := yX3_isLastInning) (Yc := zX3_isLastInning) (rest := []) [] (ct_X3_isLastInning (T := T)) cl_X3_147 (qd_c (by decide +kernel)) (nn_ _) rfl (rf_of rfl) (Nat.le_of_ble_eq_true rfl) (Nat.le_of_ble_eq_true rfl) (Nat.le_of_ble_eq_true rfl) rfl ?_
    rintro _ _ ⟨rfl, x69, rfl, hx69⟩
    show J_ zX3_endHalf T (po_X3_endHalf T p) 0 0 12 _ [vI x69] T
    refine j_blx (F := fX3) tb_X3 (nn_ _) bk_X3_endHalf_12 bs_X3_endHalf_12 hz (fun K hK => ?_)
    refine And.intro (fun c70 => ?_) (fun c70 => ?_)
    · refine hK 38 _ [] T ?_
      refine j_blx (F := fX3) tb_X3 (nn_ _) bk_X3_endHalf_38 bs_X3_endHalf_38 hz (fun K hK => ?_)
      refine bd_i (by omega) ?_
      refine x_nm (fun U71 hU71 => ?_)
      have e72 := up_f hU71
      refine (show po_X3_endHalf T p U71 (none) from ?_)
      have e73 : U71 103 p 3 = T 103 p 3 := up_j hU71 (by exact ni_ rfl) 103 p
      have e74 : U71 470 p 0 = T 470 p 0 := up_k hU71 (by exact Nat.ne_of_beq_eq_false rfl) p 0
      have e75 : U71 470 p 1 = T 470 p 1 := up_k hU71 (by exact Nat.ne_of_beq_eq_false rfl) p 1
      have g76 : U71 470 p 0 = T 470 p 0 := up_k hU71 (by exact Nat.ne_of_beq_eq_false rfl) p 0
      have g77 : U71 470 p 1 = T 470 p 1 := up_k hU71 (by exact Nat.ne_of_beq_eq_false rfl) p 1
      have e78 : U71 103 p 3 = T 103 p 3 := up_j hU71 (by exact ni_ rfl) 103 p
      exact ⟨rfl, fr_u (fr_0 _ _) hU71 rfl, oi_u (oi_r) hU71, by exact fun _ => by omega⟩
    · refine ix_i (by omega) ?_
      intro b79 b79b
      refine ix_i (by omega) ?_
      intro b80 b80b
      refine And.intro (fun c81 => ?_) (fun c81 => ?_)
      · refine hK 38 _ [] T ?_
        refine j_blx (F := fX3) tb_X3 (nn_ _) bk_X3_endHalf_38 bs_X3_endHalf_38 hz (fun K hK => ?_)
        refine bd_i (by omega) ?_
        refine x_nm (fun U82 hU82 => ?_)
        have e83 := up_f hU82
        refine (show po_X3_endHalf T p U82 (none) from ?_)
        have e84 : U82 103 p 3 = T 103 p 3 := up_j hU82 (by exact ni_ rfl) 103 p
        have e85 : U82 470 p 0 = T 470 p 0 := up_k hU82 (by exact Nat.ne_of_beq_eq_false rfl) p 0
        have e86 : U82 470 p 1 = T 470 p 1 := up_k hU82 (by exact Nat.ne_of_beq_eq_false rfl) p 1
        have g87 : U82 470 p 0 = T 470 p 0 := up_k hU82 (by exact Nat.ne_of_beq_eq_false rfl) p 0
        have g88 : U82 470 p 1 = T 470 p 1 := up_k hU82 (by exact Nat.ne_of_beq_eq_false rfl) p 1
        have e89 : U82 103 p 3 = T 103 p 3 := up_j hU82 (by exact ni_ rfl) 103 p
        exact ⟨rfl, fr_u (fr_0 _ _) hU82 rfl, oi_u (oi_r) hU82, by exact fun _ => by omega⟩
      · refine bd_i (by omega) ?_
        refine x_nm (fun U90 hU90 => ?_)
        have e91 := up_f hU90
        refine hK 43 _ [] U90 ?_
        refine j_blx (F := fX3) tb_X3 (nn_ _) bk_X3_endHalf_43 bs_X3_endHalf_43 hz (fun K hK => ?_)
        refine (show po_X3_endHalf T p U90 (none) from ?_)
        have e92 : U90 103 p 3 = 1 := up_f hU90
        have e93 : U90 470 p 0 = T 470 p 0 := up_k hU90 (by exact Nat.ne_of_beq_eq_false rfl) p 0
        have e94 : U90 470 p 1 = T 470 p 1 := up_k hU90 (by exact Nat.ne_of_beq_eq_false rfl) p 1
        have g95 : U90 470 p 0 = T 470 p 0 := up_k hU90 (by exact Nat.ne_of_beq_eq_false rfl) p 0
        have g96 : U90 470 p 1 = T 470 p 1 := up_k hU90 (by exact Nat.ne_of_beq_eq_false rfl) p 1
        have e97 : U90 103 p 3 = 1 := up_f hU90
        exact ⟨rfl, fr_u (fr_0 _ _) hU90 rfl, oi_u (oi_r) hU90, by exact fun _ => by omega⟩
abbrev cX3_countOut : ByteArray := prog_5_method_27_code
def yX3_countOut : MethodName := ⟨RX3, "countOut", "()V"⟩
def zX3_countOut : Zm := (RX3, cX3_countOut, 1, none, { frames := 2, cells := 0, slots := 0, locals := 41 })
theorem bk_X3_countOut_0 : ck_ fX3 none cX3_countOut 0 [.aload 0, .tableswitch 0 3 6 #[], .iconst 0] 5 = true := qck_r (nn_ _) (by decide +kernel)
theorem bs_X3_countOut_0 {P : Zt → Option Zv → Prop} (K : Int → Zl → List Zv → Zt → Prop) : sx_ K P [.aload 0, .tableswitch 0 3 6 #[], .iconst 0] 5 = x_aload 0 (x_g2 103 466 (x_iconst 0 (K 5))) := ((xe_aload 0).trans (congrArg (x_aload 0) ((xe_g2 (kk := 103) rfl tl_3_6).trans (congrArg (x_g2 103 466) ((xe_iconst 0).trans (congrArg (x_iconst 0) xe_nil))))))
theorem bk_X3_countOut_8 : ck_ fX3 none cX3_countOut 8 [.aload 0, .tableswitch 0 3 7 #[], .iconst 0, .dup2, .iaload, .iconst 1, .fadd, .iastore, .aload 0, .tableswitch 0 3 7 #[], .iconst 0, .iaload, .iconst 3, .if_icmp .ne 40, .aload 0, .tableswitch 0 3 7 #[], .iconst 0] 33 = true := qck_r (nn_ _) (by decide +kernel)
theorem bs_X3_countOut_8 {P : Zt → Option Zv → Prop} (K : Int → Zl → List Zv → Zt → Prop) : sx_ K P [.aload 0, .tableswitch 0 3 7 #[], .iconst 0, .dup2, .iaload, .iconst 1, .fadd, .iastore, .aload 0, .tableswitch 0 3 7 #[], .iconst 0, .iaload, .iconst 3, .if_icmp .ne 40, .aload 0, .tableswitch 0 3 7 #[], .iconst 0] 33 = x_aload 0 (x_g2 103 467 (x_iconst 0 (x_dup2 (x_iaload (x_iconst 1 (x_fadd (x_iastore (x_aload 0 (x_g2 103 467 (x_iconst 0 (x_iaload (x_iconst 3 (x_if_icmp .ne 40 K (x_aload 0 (x_g2 103 467 (x_iconst 0 (K 33))))))))))))))))) := ((xe_aload 0).trans (congrArg (x_aload 0) ((xe_g2 (kk := 103) rfl tl_3_7).trans (congrArg (x_g2 103 467) ((xe_iconst 0).trans (congrArg (x_iconst 0) ((xe_dup2).trans (congrArg (x_dup2) ((xe_iaload).trans (congrArg (x_iaload) ((xe_iconst 1).trans (congrArg (x_iconst 1) ((xe_fadd).trans (congrArg (x_fadd) ((xe_iastore).trans (congrArg (x_iastore) ((xe_aload 0).trans (congrArg (x_aload 0) ((xe_g2 (kk := 103) rfl tl_3_7).trans (congrArg (x_g2 103 467) ((xe_iconst 0).trans (congrArg (x_iconst 0) ((xe_iaload).trans (congrArg (x_iaload) ((xe_iconst 3).trans (congrArg (x_iconst 3) ((xe_if_icmp .ne 40).trans (congrArg (x_if_icmp .ne 40 K) ((xe_aload 0).trans (congrArg (x_aload 0) ((xe_g2 (kk := 103) rfl tl_3_7).trans (congrArg (x_g2 103 467) ((xe_iconst 0).trans (congrArg (x_iconst 0) xe_nil))))))))))))))))))))))))))))))))))
theorem bk_X3_countOut_40 : ck_ fX3 none cX3_countOut 40 [.return_] 41 = true := qck_r (nn_ _) (by decide +kernel)
theorem bs_X3_countOut_40 {P : Zt → Option Zv → Prop} (K : Int → Zl → List Zv → Zt → Prop) : sx_ K P [.return_] 41 = x_return_ P := (xe_return_)
theorem bk_X3_countOut_36 : ck_ fX3 none cX3_countOut 36 [.aload 0] 37 = true := qck_r (nn_ _) (by decide +kernel)
theorem bs_X3_countOut_36 {P : Zt → Option Zv → Prop} (K : Int → Zl → List Zv → Zt → Prop) : sx_ K P [.aload 0] 37 = x_aload 0 (K 37) := ((xe_aload 0).trans (congrArg (x_aload 0) xe_nil))
set_option maxRecDepth 100000 in
theorem cl_X3_151 : cv_ RX3 151 yX3_endHalf zX3_endHalf 3 0 := ⟨gi_V (lw_b5 129 (by decide +kernel) rfl : Cond.methodLink RX3 151 yX3_endHalf ∈ lw_g) (lw_b5 131 (by decide +kernel) rfl : Cond.instanceMethod yX3_endHalf ∈ lw_g) (lw_sel 86 rfl : Cond.selects yX3_endHalf.cls yX3_endHalf yX3_endHalf ∈ lw_g) (lw_b1 18 (by decide +kernel) rfl : Cond.initialized yX3_endHalf.cls ∈ lw_g) (lw_b5 132 rfl rfl : Cond.code yX3_endHalf cX3_endHalf 2 none ∈ lw_g), ⟨by decide, by decide, by decide +kernel⟩, ⟨_, _, rfl⟩⟩
abbrev po_X3_countOut (T : Zt) (p : Int) : Zt → Option Zv → Prop := fun T' r => r = none ∧ fr_ [(103, [3, 4, 5]), (466, []), (467, [])] T T' ∧ (oi_ T T' p ∧ (T' 103 p 3 = 0 → 1 ≤ T' 470 p 0 ∧ 1 ≤ T' 470 p 1))
set_option maxHeartbeats 4000000 in
theorem ct_X3_countOut {T : Zt} {p : Int} (hfd : 1 ≤ T 470 p 0 ∧ 1 ≤ T 470 p 1) : Ct_ yX3_countOut zX3_countOut T [vR 103 p] (po_X3_countOut T p) := by
  refine ct_of pn_3 rfl rfl (Nat.le_of_ble_eq_true rfl) (fun hT hav => ?_)
  have hz : zX3_countOut.2.2.2.1 = some .boolean → ∀ (T' : Zt) (x : Int), po_X3_countOut T p T' (some (vI x)) → 0 ≤ x ∧ x ≤ 1 := fun h => by cases h
  show J_ zX3_countOut T (po_X3_countOut T p) 0 0 0 [some (vR 103 p)] [] T
  refine j_blx (F := fX3) tb_X3 (nn_ _) bk_X3_countOut_0 bs_X3_countOut_0 hz (fun K hK => ?_)
  refine hK 5 _ [vI 0, vR 466 p] T ?_
  refine j_callS (y := yJ7_fill_53178) (Yc := zJ7_fill_53178) (rest := []) [vR 466 p, vI 0] (ct_J7_fill_466 (T := T) (by omega)) cl_X3_62 (qd_c (by decide +kernel)) (nn_ _) rfl (rf_of rfl) (Nat.le_of_ble_eq_true rfl) (Nat.le_of_ble_eq_true rfl) (Nat.le_of_ble_eq_true rfl) rfl ?_
  rintro U1 _ ⟨rfl, fU1, qU1o, qU1⟩
  show J_ zX3_countOut T (po_X3_countOut T p) 0 0 8 _ [] U1
  refine j_blx (F := fX3) tb_X3 (nn_ _) bk_X3_countOut_8 bs_X3_countOut_8 hz (fun K hK => ?_)
  refine ix_i (by omega) ?_
  intro b2 b2b
  have e3 : U1 467 p 0 = T 467 p 0 := fU1 467 p 0 rfl
  rw [e3] at b2 b2b ⊢
  intro w4 w4b
  refine iy_i (by omega) (by omega) ?_
  refine x_nm (fun U5 hU5 => ?_)
  have e6 := up_f hU5
  refine ix_i (by omega) ?_
  intro b7 b7b
  have e8 : U5 467 p 0 = wr_ ((T 467 p 0) + 1) := up_f hU5
  rw [e8] at b7 b7b ⊢
  refine And.intro (fun c9 => ?_) (fun c9 => ?_)
  · refine hK 40 _ [] U5 ?_
    refine j_blx (F := fX3) tb_X3 (nn_ _) bk_X3_countOut_40 bs_X3_countOut_40 hz (fun K hK => ?_)
    refine (show po_X3_countOut T p U5 (none) from ?_)
    have e10 : U5 103 p 3 = T 103 p 3 := (up_k hU5 (by exact Nat.ne_of_beq_eq_false rfl) p 3).trans (fU1 103 p 3 rfl)
    have e11 : U5 470 p 0 = T 470 p 0 := (up_k hU5 (by exact Nat.ne_of_beq_eq_false rfl) p 0).trans (fU1 470 p 0 rfl)
    have e12 : U5 470 p 1 = T 470 p 1 := (up_k hU5 (by exact Nat.ne_of_beq_eq_false rfl) p 1).trans (fU1 470 p 1 rfl)
    have g13 : U5 470 p 0 = T 470 p 0 := (up_k hU5 (by exact Nat.ne_of_beq_eq_false rfl) p 0).trans (fU1 470 p 0 rfl)
    have g14 : U5 470 p 1 = T 470 p 1 := (up_k hU5 (by exact Nat.ne_of_beq_eq_false rfl) p 1).trans (fU1 470 p 1 rfl)
    have e15 : U5 103 p 3 = T 103 p 3 := (up_k hU5 (by exact Nat.ne_of_beq_eq_false rfl) p 3).trans (fU1 103 p 3 rfl)
    exact ⟨rfl, fr_u (fr_t (fr_0 _ _) (fr_s fU1 rfl)) hU5 rfl, oi_u (oi_t (oi_r) qU1o) hU5, by exact fun _ => by omega⟩
  · refine hK 33 _ [vI 0, vR 467 p] U5 ?_
    refine j_callS (y := yJ7_fill_53178) (Yc := zJ7_fill_53178) (rest := []) [vR 467 p, vI 0] (ct_J7_fill_467 (T := U5) (by omega)) cl_X3_62 (qd_c (by decide +kernel)) (nn_ _) rfl (rf_of rfl) (Nat.le_of_ble_eq_true rfl) (Nat.le_of_ble_eq_true rfl) (Nat.le_of_ble_eq_true rfl) rfl ?_
    rintro U16 _ ⟨rfl, fU16, qU16o, qU16⟩
    show J_ zX3_countOut T (po_X3_countOut T p) 0 0 36 _ [] U16
    refine j_blx (F := fX3) tb_X3 (nn_ _) bk_X3_countOut_36 bs_X3_countOut_36 hz (fun K hK => ?_)
    refine hK 37 _ [vR 103 p] U16 ?_
    have e17 : U16 470 p 0 = T 470 p 0 := (fU16 470 p 0 rfl).trans ((up_k hU5 (by exact Nat.ne_of_beq_eq_false rfl) p 0).trans (fU1 470 p 0 rfl))
    have e18 : U16 470 p 1 = T 470 p 1 := (fU16 470 p 1 rfl).trans ((up_k hU5 (by exact Nat.ne_of_beq_eq_false rfl) p 1).trans (fU1 470 p 1 rfl))
    refine j_callV (y := yX3_endHalf) (Yc := zX3_endHalf) (rest := []) [] (ct_X3_endHalf (T := U16) (by omega)) cl_X3_151 (qd_c (by decide +kernel)) (nn_ _) rfl (rf_of rfl) (Nat.le_of_ble_eq_true rfl) (Nat.le_of_ble_eq_true rfl) (Nat.le_of_ble_eq_true rfl) rfl ?_
    rintro U19 _ ⟨rfl, fU19, qU19o, qU19⟩
    show J_ zX3_countOut T (po_X3_countOut T p) 0 0 40 _ [] U19
    refine j_blx (F := fX3) tb_X3 (nn_ _) bk_X3_countOut_40 bs_X3_countOut_40 hz (fun K hK => ?_)
    refine (show po_X3_countOut T p U19 (none) from ?_)
    have e20 : U19 470 p 0 = T 470 p 0 := (fU19 470 p 0 rfl).trans ((fU16 470 p 0 rfl).trans ((up_k hU5 (by exact Nat.ne_of_beq_eq_false rfl) p 0).trans (fU1 470 p 0 rfl)))
    have e21 : U19 470 p 1 = T 470 p 1 := (fU19 470 p 1 rfl).trans ((fU16 470 p 1 rfl).trans ((up_k hU5 (by exact Nat.ne_of_beq_eq_false rfl) p 1).trans (fU1 470 p 1 rfl)))
    have g22 : U19 470 p 0 = T 470 p 0 := (fU19 470 p 0 rfl).trans ((fU16 470 p 0 rfl).trans ((up_k hU5 (by exact Nat.ne_of_beq_eq_false rfl) p 0).trans (fU1 470 p 0 rfl)))
    have g23 : U19 470 p 1 = T 470 p 1 := (fU19 470 p 1 rfl).trans ((fU16 470 p 1 rfl).trans ((up_k hU5 (by exact Nat.ne_of_beq_eq_false rfl) p 1).trans (fU1 470 p 1 rfl)))
    exact ⟨rfl, fr_t (fr_t (fr_u (fr_t (fr_0 _ _) (fr_s fU1 rfl)) hU5 rfl) (fr_s fU16 rfl)) (fr_s fU19 rfl), oi_t (oi_t (oi_u (oi_t (oi_r) qU1o) hU5) qU16o) qU19o, by exact fun _ => by omega⟩
abbrev cX3_goOnBase : ByteArray := prog_5_method_25_code
def yX3_goOnBase : MethodName := ⟨RX3, "goOnBase", "(II)V"⟩
def zX3_goOnBase : Zm := (RX3, cX3_goOnBase, 3, none, { frames := 1, cells := 0, slots := 0, locals := 23 })
theorem bk_X3_goOnBase_0 : ck_ fX3 none cX3_goOnBase 0 [.aload 0, .tableswitch 0 3 6 #[], .iconst 0] 5 = true := qck_r (nn_ _) (by decide +kernel)
theorem bs_X3_goOnBase_0 {P : Zt → Option Zv → Prop} (K : Int → Zl → List Zv → Zt → Prop) : sx_ K P [.aload 0, .tableswitch 0 3 6 #[], .iconst 0] 5 = x_aload 0 (x_g2 103 466 (x_iconst 0 (K 5))) := ((xe_aload 0).trans (congrArg (x_aload 0) ((xe_g2 (kk := 103) rfl tl_3_6).trans (congrArg (x_g2 103 466) ((xe_iconst 0).trans (congrArg (x_iconst 0) xe_nil))))))
theorem bk_X3_goOnBase_8 : ck_ fX3 none cX3_goOnBase 8 [.aload 0, .tableswitch 0 3 8 #[], .iload 1, .dup2, .iaload, .iload 2, .fadd, .iastore, .aload 0] 19 = true := qck_r (nn_ _) (by decide +kernel)
theorem bs_X3_goOnBase_8 {P : Zt → Option Zv → Prop} (K : Int → Zl → List Zv → Zt → Prop) : sx_ K P [.aload 0, .tableswitch 0 3 8 #[], .iload 1, .dup2, .iaload, .iload 2, .fadd, .iastore, .aload 0] 19 = x_aload 0 (x_g2 103 468 (x_iload 1 (x_dup2 (x_iaload (x_iload 2 (x_fadd (x_iastore (x_aload 0 (K 19))))))))) := ((xe_aload 0).trans (congrArg (x_aload 0) ((xe_g2 (kk := 103) rfl tl_3_8).trans (congrArg (x_g2 103 468) ((xe_iload 1).trans (congrArg (x_iload 1) ((xe_dup2).trans (congrArg (x_dup2) ((xe_iaload).trans (congrArg (x_iaload) ((xe_iload 2).trans (congrArg (x_iload 2) ((xe_fadd).trans (congrArg (x_fadd) ((xe_iastore).trans (congrArg (x_iastore) ((xe_aload 0).trans (congrArg (x_aload 0) xe_nil))))))))))))))))))
theorem bk_X3_goOnBase_22 : ck_ fX3 none cX3_goOnBase 22 [.ifCond .eq 49, .iload 1, .ifCond .ne 49, .aload 0, .tableswitch 0 3 8 #[], .iconst 0, .iaload, .aload 0, .tableswitch 0 3 8 #[], .iconst 1, .iaload, .if_icmp .le 49, .aload 0, .iconst 1, .tableswitch 1 3 3 #[], .return_] 50 = true := qck_r (nn_ _) (by decide +kernel)
theorem bs_X3_goOnBase_22 {P : Zt → Option Zv → Prop} (K : Int → Zl → List Zv → Zt → Prop) : sx_ K P [.ifCond .eq 49, .iload 1, .ifCond .ne 49, .aload 0, .tableswitch 0 3 8 #[], .iconst 0, .iaload, .aload 0, .tableswitch 0 3 8 #[], .iconst 1, .iaload, .if_icmp .le 49, .aload 0, .iconst 1, .tableswitch 1 3 3 #[], .return_] 50 = x_ifCond .eq 49 K (x_iload 1 (x_ifCond .ne 49 K (x_aload 0 (x_g2 103 468 (x_iconst 0 (x_iaload (x_aload 0 (x_g2 103 468 (x_iconst 1 (x_iaload (x_if_icmp .le 49 K (x_aload 0 (x_iconst 1 (x_p 103 3 0 1 (x_return_ P))))))))))))))) := ((xe_ifCond .eq 49).trans (congrArg (x_ifCond .eq 49 K) ((xe_iload 1).trans (congrArg (x_iload 1) ((xe_ifCond .ne 49).trans (congrArg (x_ifCond .ne 49 K) ((xe_aload 0).trans (congrArg (x_aload 0) ((xe_g2 (kk := 103) rfl tl_3_8).trans (congrArg (x_g2 103 468) ((xe_iconst 0).trans (congrArg (x_iconst 0) ((xe_iaload).trans (congrArg (x_iaload) ((xe_aload 0).trans (congrArg (x_aload 0) ((xe_g2 (kk := 103) rfl tl_3_8).trans (congrArg (x_g2 103 468) ((xe_iconst 1).trans (congrArg (x_iconst 1) ((xe_iaload).trans (congrArg (x_iaload) ((xe_if_icmp .le 49).trans (congrArg (x_if_icmp .le 49 K) ((xe_aload 0).trans (congrArg (x_aload 0) ((xe_iconst 1).trans (congrArg (x_iconst 1) ((xe_p (kk := 103) rfl tl_3_3).trans (congrArg (x_p 103 3 0 1) (xe_return_)))))))))))))))))))))))))))))))
theorem bk_X3_goOnBase_49 : ck_ fX3 none cX3_goOnBase 49 [.return_] 50 = true := qck_r (nn_ _) (by decide +kernel)
theorem bs_X3_goOnBase_49 {P : Zt → Option Zv → Prop} (K : Int → Zl → List Zv → Zt → Prop) : sx_ K P [.return_] 50 = x_return_ P := (xe_return_)
abbrev po_X3_goOnBase (T : Zt) (p : Int) (s v : Int) : Zt → Option Zv → Prop := fun T' r => r = none ∧ fr_ [(103, [3]), (466, []), (468, [])] T T' ∧ (oi_ T T' p ∧ (T' 103 p 3 = 0 → 1 ≤ T' 470 p 0 ∧ 1 ≤ T' 470 p 1))
set_option maxHeartbeats 4000000 in
theorem ct_X3_goOnBase {T : Zt} {p : Int} {s v : Int} (hs : 0 ≤ s ∧ s ≤ 1) (hfd : 1 ≤ T 470 p 0 ∧ 1 ≤ T 470 p 1) : Ct_ yX3_goOnBase zX3_goOnBase T [vR 103 p, vI s, vI v] (po_X3_goOnBase T p s v) := by
  refine ct_of pn_3 rfl rfl (Nat.le_of_ble_eq_true rfl) (fun hT hav => ?_)
  have hr_s : -2147483648 ≤ s ∧ s ≤ 2147483647 := hav (vI s) (by simp)
  have hr_v : -2147483648 ≤ v ∧ v ≤ 2147483647 := hav (vI v) (by simp)
  have hz : zX3_goOnBase.2.2.2.1 = some .boolean → ∀ (T' : Zt) (x : Int), po_X3_goOnBase T p s v T' (some (vI x)) → 0 ≤ x ∧ x ≤ 1 := fun h => by cases h
  show J_ zX3_goOnBase T (po_X3_goOnBase T p s v) 0 0 0 [some (vR 103 p), some (vI s), some (vI v)] [] T
  refine j_blx (F := fX3) tb_X3 (nn_ _) bk_X3_goOnBase_0 bs_X3_goOnBase_0 hz (fun K hK => ?_)
  refine hK 5 _ [vI 0, vR 466 p] T ?_
  refine j_callS (y := yJ7_fill_53178) (Yc := zJ7_fill_53178) (rest := []) [vR 466 p, vI 0] (ct_J7_fill_466 (T := T) (by omega)) cl_X3_62 (qd_c (by decide +kernel)) (nn_ _) rfl (rf_of rfl) (Nat.le_of_ble_eq_true rfl) (Nat.le_of_ble_eq_true rfl) (Nat.le_of_ble_eq_true rfl) rfl ?_
  rintro U1 _ ⟨rfl, fU1, qU1o, qU1⟩
  show J_ zX3_goOnBase T (po_X3_goOnBase T p s v) 0 0 8 _ [] U1
  refine j_blx (F := fX3) tb_X3 (nn_ _) bk_X3_goOnBase_8 bs_X3_goOnBase_8 hz (fun K hK => ?_)
  refine ix_i (by omega) ?_
  intro b2 b2b
  have e3 : U1 468 p s = T 468 p s := fU1 468 p s rfl
  rw [e3] at b2 b2b ⊢
  intro w4 w4b
  refine iy_i (by omega) (by omega) ?_
  refine x_nm (fun U5 hU5 => ?_)
  have e6 := up_f hU5
  refine hK 19 _ [vR 103 p] U5 ?_
  refine j_callV (y := yX3_isLastInning) (Yc := zX3_isLastInning) (rest := []) [] (ct_X3_isLastInning (T := U5)) cl_X3_147 (qd_c (by decide +kernel)) (nn_ _) rfl (rf_of rfl) (Nat.le_of_ble_eq_true rfl) (Nat.le_of_ble_eq_true rfl) (Nat.le_of_ble_eq_true rfl) rfl ?_
  rintro _ _ ⟨rfl, x7, rfl, hx7⟩
  show J_ zX3_goOnBase T (po_X3_goOnBase T p s v) 0 0 22 _ [vI x7] U5
  refine j_blx (F := fX3) tb_X3 (nn_ _) bk_X3_goOnBase_22 bs_X3_goOnBase_22 hz (fun K hK => ?_)
  refine And.intro (fun c8 => ?_) (fun c8 => ?_)
  · refine hK 49 _ [] U5 ?_
    refine j_blx (F := fX3) tb_X3 (nn_ _) bk_X3_goOnBase_49 bs_X3_goOnBase_49 hz (fun K hK => ?_)
    refine (show po_X3_goOnBase T p s v U5 (none) from ?_)
    have e9 : U5 103 p 3 = T 103 p 3 := (up_k hU5 (by exact Nat.ne_of_beq_eq_false rfl) p 3).trans (fU1 103 p 3 rfl)
    have e10 : U5 470 p 0 = T 470 p 0 := (up_k hU5 (by exact Nat.ne_of_beq_eq_false rfl) p 0).trans (fU1 470 p 0 rfl)
    have e11 : U5 470 p 1 = T 470 p 1 := (up_k hU5 (by exact Nat.ne_of_beq_eq_false rfl) p 1).trans (fU1 470 p 1 rfl)
    have g12 : U5 470 p 0 = T 470 p 0 := (up_k hU5 (by exact Nat.ne_of_beq_eq_false rfl) p 0).trans (fU1 470 p 0 rfl)
    have g13 : U5 470 p 1 = T 470 p 1 := (up_k hU5 (by exact Nat.ne_of_beq_eq_false rfl) p 1).trans (fU1 470 p 1 rfl)
    have e14 : U5 103 p 3 = T 103 p 3 := (up_k hU5 (by exact Nat.ne_of_beq_eq_false rfl) p 3).trans (fU1 103 p 3 rfl)
    exact ⟨rfl, fr_u (fr_t (fr_0 _ _) (fr_s fU1 rfl)) hU5 rfl, oi_u (oi_t (oi_r) qU1o) hU5, by exact fun _ => by omega⟩
  · refine And.intro (fun c15 => ?_) (fun c15 => ?_)
    · refine hK 49 _ [] U5 ?_
      refine j_blx (F := fX3) tb_X3 (nn_ _) bk_X3_goOnBase_49 bs_X3_goOnBase_49 hz (fun K hK => ?_)
      refine (show po_X3_goOnBase T p s v U5 (none) from ?_)
      have e16 : U5 103 p 3 = T 103 p 3 := (up_k hU5 (by exact Nat.ne_of_beq_eq_false rfl) p 3).trans (fU1 103 p 3 rfl)
      have e17 : U5 470 p 0 = T 470 p 0 := (up_k hU5 (by exact Nat.ne_of_beq_eq_false rfl) p 0).trans (fU1 470 p 0 rfl)
      have e18 : U5 470 p 1 = T 470 p 1 := (up_k hU5 (by exact Nat.ne_of_beq_eq_false rfl) p 1).trans (fU1 470 p 1 rfl)
      have g19 : U5 470 p 0 = T 470 p 0 := (up_k hU5 (by exact Nat.ne_of_beq_eq_false rfl) p 0).trans (fU1 470 p 0 rfl)
      have g20 : U5 470 p 1 = T 470 p 1 := (up_k hU5 (by exact Nat.ne_of_beq_eq_false rfl) p 1).trans (fU1 470 p 1 rfl)
      have e21 : U5 103 p 3 = T 103 p 3 := (up_k hU5 (by exact Nat.ne_of_beq_eq_false rfl) p 3).trans (fU1 103 p 3 rfl)
      exact ⟨rfl, fr_u (fr_t (fr_0 _ _) (fr_s fU1 rfl)) hU5 rfl, oi_u (oi_t (oi_r) qU1o) hU5, by exact fun _ => by omega⟩
    · refine ix_i (by omega) ?_
      intro b22 b22b
      refine ix_i (by omega) ?_
      intro b23 b23b
      refine And.intro (fun c24 => ?_) (fun c24 => ?_)
      · refine hK 49 _ [] U5 ?_
        refine j_blx (F := fX3) tb_X3 (nn_ _) bk_X3_goOnBase_49 bs_X3_goOnBase_49 hz (fun K hK => ?_)
        refine (show po_X3_goOnBase T p s v U5 (none) from ?_)
        have e25 : U5 103 p 3 = T 103 p 3 := (up_k hU5 (by exact Nat.ne_of_beq_eq_false rfl) p 3).trans (fU1 103 p 3 rfl)
        have e26 : U5 470 p 0 = T 470 p 0 := (up_k hU5 (by exact Nat.ne_of_beq_eq_false rfl) p 0).trans (fU1 470 p 0 rfl)
        have e27 : U5 470 p 1 = T 470 p 1 := (up_k hU5 (by exact Nat.ne_of_beq_eq_false rfl) p 1).trans (fU1 470 p 1 rfl)
        have g28 : U5 470 p 0 = T 470 p 0 := (up_k hU5 (by exact Nat.ne_of_beq_eq_false rfl) p 0).trans (fU1 470 p 0 rfl)
        have g29 : U5 470 p 1 = T 470 p 1 := (up_k hU5 (by exact Nat.ne_of_beq_eq_false rfl) p 1).trans (fU1 470 p 1 rfl)
        have e30 : U5 103 p 3 = T 103 p 3 := (up_k hU5 (by exact Nat.ne_of_beq_eq_false rfl) p 3).trans (fU1 103 p 3 rfl)
        exact ⟨rfl, fr_u (fr_t (fr_0 _ _) (fr_s fU1 rfl)) hU5 rfl, oi_u (oi_t (oi_r) qU1o) hU5, by exact fun _ => by omega⟩
      · refine bd_i (by omega) ?_
        refine x_nm (fun U31 hU31 => ?_)
        have e32 := up_f hU31
        refine (show po_X3_goOnBase T p s v U31 (none) from ?_)
        have e33 : U31 103 p 3 = 1 := up_f hU31
        have e34 : U31 470 p 0 = T 470 p 0 := (up_k hU31 (by exact Nat.ne_of_beq_eq_false rfl) p 0).trans ((up_k hU5 (by exact Nat.ne_of_beq_eq_false rfl) p 0).trans (fU1 470 p 0 rfl))
        have e35 : U31 470 p 1 = T 470 p 1 := (up_k hU31 (by exact Nat.ne_of_beq_eq_false rfl) p 1).trans ((up_k hU5 (by exact Nat.ne_of_beq_eq_false rfl) p 1).trans (fU1 470 p 1 rfl))
        have g36 : U31 470 p 0 = T 470 p 0 := (up_k hU31 (by exact Nat.ne_of_beq_eq_false rfl) p 0).trans ((up_k hU5 (by exact Nat.ne_of_beq_eq_false rfl) p 0).trans (fU1 470 p 0 rfl))
        have g37 : U31 470 p 1 = T 470 p 1 := (up_k hU31 (by exact Nat.ne_of_beq_eq_false rfl) p 1).trans ((up_k hU5 (by exact Nat.ne_of_beq_eq_false rfl) p 1).trans (fU1 470 p 1 rfl))
        have e38 : U31 103 p 3 = 1 := up_f hU31
        exact ⟨rfl, fr_u (fr_u (fr_t (fr_0 _ _) (fr_s fU1 rfl)) hU5 rfl) hU31 rfl, oi_u (oi_u (oi_t (oi_r) qU1o) hU5) hU31, by exact fun _ => by omega⟩
abbrev cX3_walk : ByteArray := prog_5_method_24_code
def yX3_walk : MethodName := ⟨RX3, "walk", "(I)V"⟩
def zX3_walk : Zm := (RX3, cX3_walk, 3, none, { frames := 2, cells := 0, slots := 0, locals := 45 })
theorem bk_X3_walk_0 : ck_ fX3 none cX3_walk 0 [.aload 0, .tableswitch 0 3 7 #[], .iconst 1, .iaload, .istore 2, .aload 0, .tableswitch 0 3 7 #[], .iconst 1, .iload 2, .iconst 1, .iand, .ifCond .ne 24, .iload 2, .iconst 1, .ior, .goto 38] 24 = true := qck_r (nn_ _) (by decide +kernel)
theorem bs_X3_walk_0 {P : Zt → Option Zv → Prop} (K : Int → Zl → List Zv → Zt → Prop) : sx_ K P [.aload 0, .tableswitch 0 3 7 #[], .iconst 1, .iaload, .istore 2, .aload 0, .tableswitch 0 3 7 #[], .iconst 1, .iload 2, .iconst 1, .iand, .ifCond .ne 24, .iload 2, .iconst 1, .ior, .goto 38] 24 = x_aload 0 (x_g2 103 467 (x_iconst 1 (x_iaload (x_istore 2 (x_aload 0 (x_g2 103 467 (x_iconst 1 (x_iload 2 (x_iconst 1 (x_iand (x_ifCond .ne 24 K (x_iload 2 (x_iconst 1 (x_ior (x_goto 38 K))))))))))))))) := ((xe_aload 0).trans (congrArg (x_aload 0) ((xe_g2 (kk := 103) rfl tl_3_7).trans (congrArg (x_g2 103 467) ((xe_iconst 1).trans (congrArg (x_iconst 1) ((xe_iaload).trans (congrArg (x_iaload) ((xe_istore 2).trans (congrArg (x_istore 2) ((xe_aload 0).trans (congrArg (x_aload 0) ((xe_g2 (kk := 103) rfl tl_3_7).trans (congrArg (x_g2 103 467) ((xe_iconst 1).trans (congrArg (x_iconst 1) ((xe_iload 2).trans (congrArg (x_iload 2) ((xe_iconst 1).trans (congrArg (x_iconst 1) ((xe_iand).trans (congrArg (x_iand) ((xe_ifCond .ne 24).trans (congrArg (x_ifCond .ne 24 K) ((xe_iload 2).trans (congrArg (x_iload 2) ((xe_iconst 1).trans (congrArg (x_iconst 1) ((xe_ior).trans (congrArg (x_ior) (xe_goto 38)))))))))))))))))))))))))))))))
theorem bk_X3_walk_24 : ck_ fX3 none cX3_walk 24 [.iload 2, .iconst 2, .iand, .ifCond .ne 36, .iload 2, .iconst 2, .ior, .goto 38] 36 = true := qck_r (nn_ _) (by decide +kernel)
theorem bs_X3_walk_24 {P : Zt → Option Zv → Prop} (K : Int → Zl → List Zv → Zt → Prop) : sx_ K P [.iload 2, .iconst 2, .iand, .ifCond .ne 36, .iload 2, .iconst 2, .ior, .goto 38] 36 = x_iload 2 (x_iconst 2 (x_iand (x_ifCond .ne 36 K (x_iload 2 (x_iconst 2 (x_ior (x_goto 38 K))))))) := ((xe_iload 2).trans (congrArg (x_iload 2) ((xe_iconst 2).trans (congrArg (x_iconst 2) ((xe_iand).trans (congrArg (x_iand) ((xe_ifCond .ne 36).trans (congrArg (x_ifCond .ne 36 K) ((xe_iload 2).trans (congrArg (x_iload 2) ((xe_iconst 2).trans (congrArg (x_iconst 2) ((xe_ior).trans (congrArg (x_ior) (xe_goto 38)))))))))))))))
theorem bk_X3_walk_36 : ck_ fX3 none cX3_walk 36 [.iconst 7, .iastore, .aload 0, .iload 1, .iload 2, .iconst 7, .if_icmp .ne 51, .iconst 1, .goto 52] 51 = true := qck_r (nn_ _) (by decide +kernel)
theorem bs_X3_walk_36 {P : Zt → Option Zv → Prop} (K : Int → Zl → List Zv → Zt → Prop) : sx_ K P [.iconst 7, .iastore, .aload 0, .iload 1, .iload 2, .iconst 7, .if_icmp .ne 51, .iconst 1, .goto 52] 51 = x_iconst 7 (x_iastore (x_aload 0 (x_iload 1 (x_iload 2 (x_iconst 7 (x_if_icmp .ne 51 K (x_iconst 1 (x_goto 52 K)))))))) := ((xe_iconst 7).trans (congrArg (x_iconst 7) ((xe_iastore).trans (congrArg (x_iastore) ((xe_aload 0).trans (congrArg (x_aload 0) ((xe_iload 1).trans (congrArg (x_iload 1) ((xe_iload 2).trans (congrArg (x_iload 2) ((xe_iconst 7).trans (congrArg (x_iconst 7) ((xe_if_icmp .ne 51).trans (congrArg (x_if_icmp .ne 51 K) ((xe_iconst 1).trans (congrArg (x_iconst 1) (xe_goto 52)))))))))))))))))
theorem bk_X3_walk_51 : ck_ fX3 none cX3_walk 51 [.iconst 0] 52 = true := qck_r (nn_ _) (by decide +kernel)
theorem bs_X3_walk_51 {P : Zt → Option Zv → Prop} (K : Int → Zl → List Zv → Zt → Prop) : sx_ K P [.iconst 0] 52 = x_iconst 0 (K 52) := ((xe_iconst 0).trans (congrArg (x_iconst 0) xe_nil))
set_option maxRecDepth 100000 in
theorem cl_X3_144 : cv_ RX3 144 yX3_goOnBase zX3_goOnBase 3 2 := ⟨gi_V (lw_b5 113 (by decide +kernel) rfl : Cond.methodLink RX3 144 yX3_goOnBase ∈ lw_g) (lw_b5 115 (by decide +kernel) rfl : Cond.instanceMethod yX3_goOnBase ∈ lw_g) (lw_sel 88 rfl : Cond.selects yX3_goOnBase.cls yX3_goOnBase yX3_goOnBase ∈ lw_g) (lw_b1 18 (by decide +kernel) rfl : Cond.initialized yX3_goOnBase.cls ∈ lw_g) (lw_b5 116 rfl rfl : Cond.code yX3_goOnBase cX3_goOnBase 3 none ∈ lw_g), ⟨by decide, by decide, by decide +kernel⟩, ⟨_, _, rfl⟩⟩
theorem bk_X3_walk_55 : ck_ fX3 none cX3_walk 55 [.return_] 56 = true := qck_r (nn_ _) (by decide +kernel)
theorem bs_X3_walk_55 {P : Zt → Option Zv → Prop} (K : Int → Zl → List Zv → Zt → Prop) : sx_ K P [.return_] 56 = x_return_ P := (xe_return_)
theorem bk_X3_walk_38 : ck_ fX3 none cX3_walk 38 [.iastore, .aload 0, .iload 1, .iload 2, .iconst 7, .if_icmp .ne 51, .iconst 1, .goto 52] 51 = true := qck_r (nn_ _) (by decide +kernel)
theorem bs_X3_walk_38 {P : Zt → Option Zv → Prop} (K : Int → Zl → List Zv → Zt → Prop) : sx_ K P [.iastore, .aload 0, .iload 1, .iload 2, .iconst 7, .if_icmp .ne 51, .iconst 1, .goto 52] 51 = x_iastore (x_aload 0 (x_iload 1 (x_iload 2 (x_iconst 7 (x_if_icmp .ne 51 K (x_iconst 1 (x_goto 52 K))))))) := ((xe_iastore).trans (congrArg (x_iastore) ((xe_aload 0).trans (congrArg (x_aload 0) ((xe_iload 1).trans (congrArg (x_iload 1) ((xe_iload 2).trans (congrArg (x_iload 2) ((xe_iconst 7).trans (congrArg (x_iconst 7) ((xe_if_icmp .ne 51).trans (congrArg (x_if_icmp .ne 51 K) ((xe_iconst 1).trans (congrArg (x_iconst 1) (xe_goto 52)))))))))))))))
abbrev po_X3_walk (T : Zt) (p : Int) (s : Int) : Zt → Option Zv → Prop := fun T' r => r = none ∧ fr_ [(103, [3]), (466, []), (468, []), (467, [])] T T' ∧ (oi_ T T' p ∧ (T' 103 p 3 = 0 → 1 ≤ T' 470 p 0 ∧ 1 ≤ T' 470 p 1))
set_option maxHeartbeats 4000000 in
theorem ct_X3_walk {T : Zt} {p : Int} {s : Int} (hs : 0 ≤ s ∧ s ≤ 1) (hfd : 1 ≤ T 470 p 0 ∧ 1 ≤ T 470 p 1) : Ct_ yX3_walk zX3_walk T [vR 103 p, vI s] (po_X3_walk T p s) := by
  refine ct_of pn_3 rfl rfl (Nat.le_of_ble_eq_true rfl) (fun hT hav => ?_)
  have hr_s : -2147483648 ≤ s ∧ s ≤ 2147483647 := hav (vI s) (by simp)
  have hz : zX3_walk.2.2.2.1 = some .boolean → ∀ (T' : Zt) (x : Int), po_X3_walk T p s T' (some (vI x)) → 0 ≤ x ∧ x ≤ 1 := fun h => by cases h
  show J_ zX3_walk T (po_X3_walk T p s) 0 0 0 [some (vR 103 p), some (vI s), none] [] T
  refine j_blx (F := fX3) tb_X3 (nn_ _) bk_X3_walk_0 bs_X3_walk_0 hz (fun K hK => ?_)
  refine ix_i (by omega) ?_
  intro b1 b1b
  intro w2 w2b
  refine And.intro (fun c3 => ?_) (fun c3 => ?_)
  · refine hK 24 [some (vR 103 p), some (vI s), some (vI (T 467 p 1))] [vI 1, vR 467 p] T ?_
    refine j_blx (F := fX3) tb_X3 (nn_ _) bk_X3_walk_24 bs_X3_walk_24 hz (fun K hK => ?_)
    intro w4 w4b
    refine And.intro (fun c5 => ?_) (fun c5 => ?_)
    · refine hK 36 _ [vI 1, vR 467 p] T ?_
      refine j_blx (F := fX3) tb_X3 (nn_ _) bk_X3_walk_36 bs_X3_walk_36 hz (fun K hK => ?_)
      refine iy_i (by omega) (by omega) ?_
      refine x_nm (fun U6 hU6 => ?_)
      have e7 := up_f hU6
      refine And.intro (fun c8 => ?_) (fun c8 => ?_)
      · refine hK 51 _ [vI s, vR 103 p] U6 ?_
        refine j_blx (F := fX3) tb_X3 (nn_ _) bk_X3_walk_51 bs_X3_walk_51 hz (fun K hK => ?_)
        refine hK 52 _ [vI 0, vI s, vR 103 p] U6 ?_
        have e9 : U6 470 p 0 = T 470 p 0 := up_k hU6 (by exact Nat.ne_of_beq_eq_false rfl) p 0
        have e10 : U6 470 p 1 = T 470 p 1 := up_k hU6 (by exact Nat.ne_of_beq_eq_false rfl) p 1
        refine j_callV (y := yX3_goOnBase) (Yc := zX3_goOnBase) (rest := []) [vI s, vI 0] (ct_X3_goOnBase (T := U6) (by omega) (by omega)) cl_X3_144 (qd_c (by decide +kernel)) (nn_ _) rfl (rf_of rfl) (Nat.le_of_ble_eq_true rfl) (Nat.le_of_ble_eq_true rfl) (Nat.le_of_ble_eq_true rfl) rfl ?_
        rintro U11 _ ⟨rfl, fU11, qU11o, qU11⟩
        show J_ zX3_walk T (po_X3_walk T p s) 0 0 55 _ [] U11
        refine j_blx (F := fX3) tb_X3 (nn_ _) bk_X3_walk_55 bs_X3_walk_55 hz (fun K hK => ?_)
        refine (show po_X3_walk T p s U11 (none) from ?_)
        have e12 : U11 470 p 0 = T 470 p 0 := (fU11 470 p 0 rfl).trans (up_k hU6 (by exact Nat.ne_of_beq_eq_false rfl) p 0)
        have e13 : U11 470 p 1 = T 470 p 1 := (fU11 470 p 1 rfl).trans (up_k hU6 (by exact Nat.ne_of_beq_eq_false rfl) p 1)
        have g14 : U11 470 p 0 = T 470 p 0 := (fU11 470 p 0 rfl).trans (up_k hU6 (by exact Nat.ne_of_beq_eq_false rfl) p 0)
        have g15 : U11 470 p 1 = T 470 p 1 := (fU11 470 p 1 rfl).trans (up_k hU6 (by exact Nat.ne_of_beq_eq_false rfl) p 1)
        exact ⟨rfl, fr_t (fr_u (fr_0 _ _) hU6 rfl) (fr_s fU11 rfl), oi_t (oi_u (oi_r) hU6) qU11o, by exact fun _ => by omega⟩
      · refine hK 52 _ [vI 1, vI s, vR 103 p] U6 ?_
        have e16 : U6 470 p 0 = T 470 p 0 := up_k hU6 (by exact Nat.ne_of_beq_eq_false rfl) p 0
        have e17 : U6 470 p 1 = T 470 p 1 := up_k hU6 (by exact Nat.ne_of_beq_eq_false rfl) p 1
        refine j_callV (y := yX3_goOnBase) (Yc := zX3_goOnBase) (rest := []) [vI s, vI 1] (ct_X3_goOnBase (T := U6) (by omega) (by omega)) cl_X3_144 (qd_c (by decide +kernel)) (nn_ _) rfl (rf_of rfl) (Nat.le_of_ble_eq_true rfl) (Nat.le_of_ble_eq_true rfl) (Nat.le_of_ble_eq_true rfl) rfl ?_
        rintro U18 _ ⟨rfl, fU18, qU18o, qU18⟩
        show J_ zX3_walk T (po_X3_walk T p s) 0 0 55 _ [] U18
        refine j_blx (F := fX3) tb_X3 (nn_ _) bk_X3_walk_55 bs_X3_walk_55 hz (fun K hK => ?_)
        refine (show po_X3_walk T p s U18 (none) from ?_)
        have e19 : U18 470 p 0 = T 470 p 0 := (fU18 470 p 0 rfl).trans (up_k hU6 (by exact Nat.ne_of_beq_eq_false rfl) p 0)
        have e20 : U18 470 p 1 = T 470 p 1 := (fU18 470 p 1 rfl).trans (up_k hU6 (by exact Nat.ne_of_beq_eq_false rfl) p 1)
        have g21 : U18 470 p 0 = T 470 p 0 := (fU18 470 p 0 rfl).trans (up_k hU6 (by exact Nat.ne_of_beq_eq_false rfl) p 0)
        have g22 : U18 470 p 1 = T 470 p 1 := (fU18 470 p 1 rfl).trans (up_k hU6 (by exact Nat.ne_of_beq_eq_false rfl) p 1)
        exact ⟨rfl, fr_t (fr_u (fr_0 _ _) hU6 rfl) (fr_s fU18 rfl), oi_t (oi_u (oi_r) hU6) qU18o, by exact fun _ => by omega⟩
    · intro w23 w23b
      refine hK 38 _ [vI (or_ (T 467 p 1) 2), vI 1, vR 467 p] T ?_
      refine j_blx (F := fX3) tb_X3 (nn_ _) bk_X3_walk_38 bs_X3_walk_38 hz (fun K hK => ?_)
      refine iy_i (by omega) (by omega) ?_
      refine x_nm (fun U24 hU24 => ?_)
      have e25 := up_f hU24
      refine And.intro (fun c26 => ?_) (fun c26 => ?_)
      · refine hK 51 _ [vI s, vR 103 p] U24 ?_
        refine j_blx (F := fX3) tb_X3 (nn_ _) bk_X3_walk_51 bs_X3_walk_51 hz (fun K hK => ?_)
        refine hK 52 _ [vI 0, vI s, vR 103 p] U24 ?_
        have e27 : U24 470 p 0 = T 470 p 0 := up_k hU24 (by exact Nat.ne_of_beq_eq_false rfl) p 0
        have e28 : U24 470 p 1 = T 470 p 1 := up_k hU24 (by exact Nat.ne_of_beq_eq_false rfl) p 1
        refine j_callV (y := yX3_goOnBase) (Yc := zX3_goOnBase) (rest := []) [vI s, vI 0] (ct_X3_goOnBase (T := U24) (by omega) (by omega)) cl_X3_144 (qd_c (by decide +kernel)) (nn_ _) rfl (rf_of rfl) (Nat.le_of_ble_eq_true rfl) (Nat.le_of_ble_eq_true rfl) (Nat.le_of_ble_eq_true rfl) rfl ?_
        rintro U29 _ ⟨rfl, fU29, qU29o, qU29⟩
        show J_ zX3_walk T (po_X3_walk T p s) 0 0 55 _ [] U29
        refine j_blx (F := fX3) tb_X3 (nn_ _) bk_X3_walk_55 bs_X3_walk_55 hz (fun K hK => ?_)
        refine (show po_X3_walk T p s U29 (none) from ?_)
        have e30 : U29 470 p 0 = T 470 p 0 := (fU29 470 p 0 rfl).trans (up_k hU24 (by exact Nat.ne_of_beq_eq_false rfl) p 0)
        have e31 : U29 470 p 1 = T 470 p 1 := (fU29 470 p 1 rfl).trans (up_k hU24 (by exact Nat.ne_of_beq_eq_false rfl) p 1)
        have g32 : U29 470 p 0 = T 470 p 0 := (fU29 470 p 0 rfl).trans (up_k hU24 (by exact Nat.ne_of_beq_eq_false rfl) p 0)
        have g33 : U29 470 p 1 = T 470 p 1 := (fU29 470 p 1 rfl).trans (up_k hU24 (by exact Nat.ne_of_beq_eq_false rfl) p 1)
        exact ⟨rfl, fr_t (fr_u (fr_0 _ _) hU24 rfl) (fr_s fU29 rfl), oi_t (oi_u (oi_r) hU24) qU29o, by exact fun _ => by omega⟩
      · refine hK 52 _ [vI 1, vI s, vR 103 p] U24 ?_
        have e34 : U24 470 p 0 = T 470 p 0 := up_k hU24 (by exact Nat.ne_of_beq_eq_false rfl) p 0
        have e35 : U24 470 p 1 = T 470 p 1 := up_k hU24 (by exact Nat.ne_of_beq_eq_false rfl) p 1
        refine j_callV (y := yX3_goOnBase) (Yc := zX3_goOnBase) (rest := []) [vI s, vI 1] (ct_X3_goOnBase (T := U24) (by omega) (by omega)) cl_X3_144 (qd_c (by decide +kernel)) (nn_ _) rfl (rf_of rfl) (Nat.le_of_ble_eq_true rfl) (Nat.le_of_ble_eq_true rfl) (Nat.le_of_ble_eq_true rfl) rfl ?_
        rintro U36 _ ⟨rfl, fU36, qU36o, qU36⟩
        show J_ zX3_walk T (po_X3_walk T p s) 0 0 55 _ [] U36
        refine j_blx (F := fX3) tb_X3 (nn_ _) bk_X3_walk_55 bs_X3_walk_55 hz (fun K hK => ?_)
        refine (show po_X3_walk T p s U36 (none) from ?_)
        have e37 : U36 470 p 0 = T 470 p 0 := (fU36 470 p 0 rfl).trans (up_k hU24 (by exact Nat.ne_of_beq_eq_false rfl) p 0)
        have e38 : U36 470 p 1 = T 470 p 1 := (fU36 470 p 1 rfl).trans (up_k hU24 (by exact Nat.ne_of_beq_eq_false rfl) p 1)
        have g39 : U36 470 p 0 = T 470 p 0 := (fU36 470 p 0 rfl).trans (up_k hU24 (by exact Nat.ne_of_beq_eq_false rfl) p 0)
        have g40 : U36 470 p 1 = T 470 p 1 := (fU36 470 p 1 rfl).trans (up_k hU24 (by exact Nat.ne_of_beq_eq_false rfl) p 1)
        exact ⟨rfl, fr_t (fr_u (fr_0 _ _) hU24 rfl) (fr_s fU36 rfl), oi_t (oi_u (oi_r) hU24) qU36o, by exact fun _ => by omega⟩
  · intro w41 w41b
    refine hK 38 _ [vI (or_ (T 467 p 1) 1), vI 1, vR 467 p] T ?_
    refine j_blx (F := fX3) tb_X3 (nn_ _) bk_X3_walk_38 bs_X3_walk_38 hz (fun K hK => ?_)
    refine iy_i (by omega) (by omega) ?_
    refine x_nm (fun U42 hU42 => ?_)
    have e43 := up_f hU42
    refine And.intro (fun c44 => ?_) (fun c44 => ?_)
    · refine hK 51 _ [vI s, vR 103 p] U42 ?_
      refine j_blx (F := fX3) tb_X3 (nn_ _) bk_X3_walk_51 bs_X3_walk_51 hz (fun K hK => ?_)
      refine hK 52 _ [vI 0, vI s, vR 103 p] U42 ?_
      have e45 : U42 470 p 0 = T 470 p 0 := up_k hU42 (by exact Nat.ne_of_beq_eq_false rfl) p 0
      have e46 : U42 470 p 1 = T 470 p 1 := up_k hU42 (by exact Nat.ne_of_beq_eq_false rfl) p 1
      refine j_callV (y := yX3_goOnBase) (Yc := zX3_goOnBase) (rest := []) [vI s, vI 0] (ct_X3_goOnBase (T := U42) (by omega) (by omega)) cl_X3_144 (qd_c (by decide +kernel)) (nn_ _) rfl (rf_of rfl) (Nat.le_of_ble_eq_true rfl) (Nat.le_of_ble_eq_true rfl) (Nat.le_of_ble_eq_true rfl) rfl ?_
      rintro U47 _ ⟨rfl, fU47, qU47o, qU47⟩
      show J_ zX3_walk T (po_X3_walk T p s) 0 0 55 _ [] U47
      refine j_blx (F := fX3) tb_X3 (nn_ _) bk_X3_walk_55 bs_X3_walk_55 hz (fun K hK => ?_)
      refine (show po_X3_walk T p s U47 (none) from ?_)
      have e48 : U47 470 p 0 = T 470 p 0 := (fU47 470 p 0 rfl).trans (up_k hU42 (by exact Nat.ne_of_beq_eq_false rfl) p 0)
      have e49 : U47 470 p 1 = T 470 p 1 := (fU47 470 p 1 rfl).trans (up_k hU42 (by exact Nat.ne_of_beq_eq_false rfl) p 1)
      have g50 : U47 470 p 0 = T 470 p 0 := (fU47 470 p 0 rfl).trans (up_k hU42 (by exact Nat.ne_of_beq_eq_false rfl) p 0)
      have g51 : U47 470 p 1 = T 470 p 1 := (fU47 470 p 1 rfl).trans (up_k hU42 (by exact Nat.ne_of_beq_eq_false rfl) p 1)
      exact ⟨rfl, fr_t (fr_u (fr_0 _ _) hU42 rfl) (fr_s fU47 rfl), oi_t (oi_u (oi_r) hU42) qU47o, by exact fun _ => by omega⟩
    · refine hK 52 _ [vI 1, vI s, vR 103 p] U42 ?_
      have e52 : U42 470 p 0 = T 470 p 0 := up_k hU42 (by exact Nat.ne_of_beq_eq_false rfl) p 0
      have e53 : U42 470 p 1 = T 470 p 1 := up_k hU42 (by exact Nat.ne_of_beq_eq_false rfl) p 1
      refine j_callV (y := yX3_goOnBase) (Yc := zX3_goOnBase) (rest := []) [vI s, vI 1] (ct_X3_goOnBase (T := U42) (by omega) (by omega)) cl_X3_144 (qd_c (by decide +kernel)) (nn_ _) rfl (rf_of rfl) (Nat.le_of_ble_eq_true rfl) (Nat.le_of_ble_eq_true rfl) (Nat.le_of_ble_eq_true rfl) rfl ?_
      rintro U54 _ ⟨rfl, fU54, qU54o, qU54⟩
      show J_ zX3_walk T (po_X3_walk T p s) 0 0 55 _ [] U54
      refine j_blx (F := fX3) tb_X3 (nn_ _) bk_X3_walk_55 bs_X3_walk_55 hz (fun K hK => ?_)
      refine (show po_X3_walk T p s U54 (none) from ?_)
      have e55 : U54 470 p 0 = T 470 p 0 := (fU54 470 p 0 rfl).trans (up_k hU42 (by exact Nat.ne_of_beq_eq_false rfl) p 0)
      have e56 : U54 470 p 1 = T 470 p 1 := (fU54 470 p 1 rfl).trans (up_k hU42 (by exact Nat.ne_of_beq_eq_false rfl) p 1)
      have g57 : U54 470 p 0 = T 470 p 0 := (fU54 470 p 0 rfl).trans (up_k hU42 (by exact Nat.ne_of_beq_eq_false rfl) p 0)
      have g58 : U54 470 p 1 = T 470 p 1 := (fU54 470 p 1 rfl).trans (up_k hU42 (by exact Nat.ne_of_beq_eq_false rfl) p 1)
      exact ⟨rfl, fr_t (fr_u (fr_0 _ _) hU42 rfl) (fr_s fU54 rfl), oi_t (oi_u (oi_r) hU42) qU54o, by exact fun _ => by omega⟩
abbrev cX3_backToBeginning : ByteArray := prog_5_method_2_code
def yX3_backToBeginning : MethodName := ⟨RX3, "backToBeginning", "()V"⟩
def zX3_backToBeginning : Zm := (RX3, cX3_backToBeginning, 3, none, { frames := 1, cells := 0, slots := 0, locals := 23 })
theorem bk_X3_backToBeginning_99 : ck_ fX3 none cX3_backToBeginning 99 [.iload 2, .aload 0, .tableswitch 0 3 0 #[], .iconst 9, .iaload, .if_icmp .ge 145, .aload 0, .tableswitch 0 3 11 #[], .iload 1, .iconst 6, .imul, .iload 2, .iadd, .iload 1, .iconst 10, .imul, .iload 2, .iadd, .iastore, .aload 0, .tableswitch 0 3 12 #[], .iload 1, .iconst 10, .imul, .iload 2, .iadd, .iconst 1, .iastore, .iinc 2 1, .goto 99] 145 = true := qck_r (nn_ _) (by decide +kernel)
theorem bs_X3_backToBeginning_99 {P : Zt → Option Zv → Prop} (K : Int → Zl → List Zv → Zt → Prop) : sx_ K P [.iload 2, .aload 0, .tableswitch 0 3 0 #[], .iconst 9, .iaload, .if_icmp .ge 145, .aload 0, .tableswitch 0 3 11 #[], .iload 1, .iconst 6, .imul, .iload 2, .iadd, .iload 1, .iconst 10, .imul, .iload 2, .iadd, .iastore, .aload 0, .tableswitch 0 3 12 #[], .iload 1, .iconst 10, .imul, .iload 2, .iadd, .iconst 1, .iastore, .iinc 2 1, .goto 99] 145 = x_iload 2 (x_aload 0 (x_g3 103 401 0 (x_iconst 9 (x_iaload (x_if_icmp .ge 145 K (x_aload 0 (x_g2 103 471 (x_iload 1 (x_iconst 6 (x_imul (x_iload 2 (x_iadd (x_iload 1 (x_iconst 10 (x_imul (x_iload 2 (x_iadd (x_iastore (x_aload 0 (x_g2 103 472 (x_iload 1 (x_iconst 10 (x_imul (x_iload 2 (x_iadd (x_iconst 1 (x_iastore (x_iinc 2 1 (x_goto 99 K))))))))))))))))))))))))))))) := ((xe_iload 2).trans (congrArg (x_iload 2) ((xe_aload 0).trans (congrArg (x_aload 0) ((xe_g3 (kk := 103) rfl tl_3_0).trans (congrArg (x_g3 103 401 0) ((xe_iconst 9).trans (congrArg (x_iconst 9) ((xe_iaload).trans (congrArg (x_iaload) ((xe_if_icmp .ge 145).trans (congrArg (x_if_icmp .ge 145 K) ((xe_aload 0).trans (congrArg (x_aload 0) ((xe_g2 (kk := 103) rfl tl_3_11).trans (congrArg (x_g2 103 471) ((xe_iload 1).trans (congrArg (x_iload 1) ((xe_iconst 6).trans (congrArg (x_iconst 6) ((xe_imul).trans (congrArg (x_imul) ((xe_iload 2).trans (congrArg (x_iload 2) ((xe_iadd).trans (congrArg (x_iadd) ((xe_iload 1).trans (congrArg (x_iload 1) ((xe_iconst 10).trans (congrArg (x_iconst 10) ((xe_imul).trans (congrArg (x_imul) ((xe_iload 2).trans (congrArg (x_iload 2) ((xe_iadd).trans (congrArg (x_iadd) ((xe_iastore).trans (congrArg (x_iastore) ((xe_aload 0).trans (congrArg (x_aload 0) ((xe_g2 (kk := 103) rfl tl_3_12).trans (congrArg (x_g2 103 472) ((xe_iload 1).trans (congrArg (x_iload 1) ((xe_iconst 10).trans (congrArg (x_iconst 10) ((xe_imul).trans (congrArg (x_imul) ((xe_iload 2).trans (congrArg (x_iload 2) ((xe_iadd).trans (congrArg (x_iadd) ((xe_iconst 1).trans (congrArg (x_iconst 1) ((xe_iastore).trans (congrArg (x_iastore) ((xe_iinc 2 1).trans (congrArg (x_iinc 2 1) (xe_goto 99)))))))))))))))))))))))))))))))))))))))))))))))))))))))))))
theorem bk_X3_backToBeginning_145 : ck_ fX3 none cX3_backToBeginning 145 [.iinc 1 1, .goto 79] 151 = true := qck_r (nn_ _) (by decide +kernel)
theorem bs_X3_backToBeginning_145 {P : Zt → Option Zv → Prop} (K : Int → Zl → List Zv → Zt → Prop) : sx_ K P [.iinc 1 1, .goto 79] 151 = x_iinc 1 1 (x_goto 79 K) := ((xe_iinc 1 1).trans (congrArg (x_iinc 1 1) (xe_goto 79)))
theorem bk_X3_backToBeginning_79 : ck_ fX3 none cX3_backToBeginning 79 [.iload 1, .iconst 2, .if_icmp .ge 151, .aload 0, .tableswitch 0 3 10 #[], .iload 1, .aload 0, .tableswitch 0 3 0 #[], .iconst 9, .iaload, .iastore, .iconst 0, .istore 2] 99 = true := qck_r (nn_ _) (by decide +kernel)
theorem bs_X3_backToBeginning_79 {P : Zt → Option Zv → Prop} (K : Int → Zl → List Zv → Zt → Prop) : sx_ K P [.iload 1, .iconst 2, .if_icmp .ge 151, .aload 0, .tableswitch 0 3 10 #[], .iload 1, .aload 0, .tableswitch 0 3 0 #[], .iconst 9, .iaload, .iastore, .iconst 0, .istore 2] 99 = x_iload 1 (x_iconst 2 (x_if_icmp .ge 151 K (x_aload 0 (x_g2 103 470 (x_iload 1 (x_aload 0 (x_g3 103 401 0 (x_iconst 9 (x_iaload (x_iastore (x_iconst 0 (x_istore 2 (K 99))))))))))))) := ((xe_iload 1).trans (congrArg (x_iload 1) ((xe_iconst 2).trans (congrArg (x_iconst 2) ((xe_if_icmp .ge 151).trans (congrArg (x_if_icmp .ge 151 K) ((xe_aload 0).trans (congrArg (x_aload 0) ((xe_g2 (kk := 103) rfl tl_3_10).trans (congrArg (x_g2 103 470) ((xe_iload 1).trans (congrArg (x_iload 1) ((xe_aload 0).trans (congrArg (x_aload 0) ((xe_g3 (kk := 103) rfl tl_3_0).trans (congrArg (x_g3 103 401 0) ((xe_iconst 9).trans (congrArg (x_iconst 9) ((xe_iaload).trans (congrArg (x_iaload) ((xe_iastore).trans (congrArg (x_iastore) ((xe_iconst 0).trans (congrArg (x_iconst 0) ((xe_istore 2).trans (congrArg (x_istore 2) xe_nil))))))))))))))))))))))))))
theorem bk_X3_backToBeginning_151 : ck_ fX3 none cX3_backToBeginning 151 [.return_] 152 = true := qck_r (nn_ _) (by decide +kernel)
theorem bs_X3_backToBeginning_151 {P : Zt → Option Zv → Prop} (K : Int → Zl → List Zv → Zt → Prop) : sx_ K P [.return_] 152 = x_return_ P := (xe_return_)
theorem bk_X3_backToBeginning_0 : ck_ fX3 none cX3_backToBeginning 0 [.aload 0, .iconst 0, .tableswitch 1 3 3 #[], .aload 0, .iconst 0, .tableswitch 1 3 4 #[], .aload 0, .aload 0, .tableswitch 0 3 0 #[], .iconst 0, .iaload, .iconst 3, .if_icmp .ne 25, .iconst 1, .goto 26] 25 = true := qck_r (nn_ _) (by decide +kernel)
theorem bs_X3_backToBeginning_0 {P : Zt → Option Zv → Prop} (K : Int → Zl → List Zv → Zt → Prop) : sx_ K P [.aload 0, .iconst 0, .tableswitch 1 3 3 #[], .aload 0, .iconst 0, .tableswitch 1 3 4 #[], .aload 0, .aload 0, .tableswitch 0 3 0 #[], .iconst 0, .iaload, .iconst 3, .if_icmp .ne 25, .iconst 1, .goto 26] 25 = x_aload 0 (x_iconst 0 (x_p 103 3 0 1 (x_aload 0 (x_iconst 0 (x_p 103 4 (-2147483648) 2147483647 (x_aload 0 (x_aload 0 (x_g3 103 401 0 (x_iconst 0 (x_iaload (x_iconst 3 (x_if_icmp .ne 25 K (x_iconst 1 (x_goto 26 K)))))))))))))) := ((xe_aload 0).trans (congrArg (x_aload 0) ((xe_iconst 0).trans (congrArg (x_iconst 0) ((xe_p (kk := 103) rfl tl_3_3).trans (congrArg (x_p 103 3 0 1) ((xe_aload 0).trans (congrArg (x_aload 0) ((xe_iconst 0).trans (congrArg (x_iconst 0) ((xe_p (kk := 103) rfl tl_3_4).trans (congrArg (x_p 103 4 (-2147483648) 2147483647) ((xe_aload 0).trans (congrArg (x_aload 0) ((xe_aload 0).trans (congrArg (x_aload 0) ((xe_g3 (kk := 103) rfl tl_3_0).trans (congrArg (x_g3 103 401 0) ((xe_iconst 0).trans (congrArg (x_iconst 0) ((xe_iaload).trans (congrArg (x_iaload) ((xe_iconst 3).trans (congrArg (x_iconst 3) ((xe_if_icmp .ne 25).trans (congrArg (x_if_icmp .ne 25 K) ((xe_iconst 1).trans (congrArg (x_iconst 1) (xe_goto 26)))))))))))))))))))))))))))))
theorem bk_X3_backToBeginning_25 : ck_ fX3 none cX3_backToBeginning 25 [.iconst 0, .tableswitch 1 3 5 #[], .aload 0, .tableswitch 0 3 6 #[], .iconst 0] 34 = true := qck_r (nn_ _) (by decide +kernel)
theorem bs_X3_backToBeginning_25 {P : Zt → Option Zv → Prop} (K : Int → Zl → List Zv → Zt → Prop) : sx_ K P [.iconst 0, .tableswitch 1 3 5 #[], .aload 0, .tableswitch 0 3 6 #[], .iconst 0] 34 = x_iconst 0 (x_p 103 5 0 1 (x_aload 0 (x_g2 103 466 (x_iconst 0 (K 34))))) := ((xe_iconst 0).trans (congrArg (x_iconst 0) ((xe_p (kk := 103) rfl tl_3_5).trans (congrArg (x_p 103 5 0 1) ((xe_aload 0).trans (congrArg (x_aload 0) ((xe_g2 (kk := 103) rfl tl_3_6).trans (congrArg (x_g2 103 466) ((xe_iconst 0).trans (congrArg (x_iconst 0) xe_nil))))))))))
theorem bk_X3_backToBeginning_37 : ck_ fX3 none cX3_backToBeginning 37 [.aload 0, .tableswitch 0 3 7 #[], .iconst 0] 42 = true := qck_r (nn_ _) (by decide +kernel)
theorem bs_X3_backToBeginning_37 {P : Zt → Option Zv → Prop} (K : Int → Zl → List Zv → Zt → Prop) : sx_ K P [.aload 0, .tableswitch 0 3 7 #[], .iconst 0] 42 = x_aload 0 (x_g2 103 467 (x_iconst 0 (K 42))) := ((xe_aload 0).trans (congrArg (x_aload 0) ((xe_g2 (kk := 103) rfl tl_3_7).trans (congrArg (x_g2 103 467) ((xe_iconst 0).trans (congrArg (x_iconst 0) xe_nil))))))
theorem bk_X3_backToBeginning_45 : ck_ fX3 none cX3_backToBeginning 45 [.aload 0, .tableswitch 0 3 8 #[], .iconst 0] 50 = true := qck_r (nn_ _) (by decide +kernel)
theorem bs_X3_backToBeginning_45 {P : Zt → Option Zv → Prop} (K : Int → Zl → List Zv → Zt → Prop) : sx_ K P [.aload 0, .tableswitch 0 3 8 #[], .iconst 0] 50 = x_aload 0 (x_g2 103 468 (x_iconst 0 (K 50))) := ((xe_aload 0).trans (congrArg (x_aload 0) ((xe_g2 (kk := 103) rfl tl_3_8).trans (congrArg (x_g2 103 468) ((xe_iconst 0).trans (congrArg (x_iconst 0) xe_nil))))))
theorem bk_X3_backToBeginning_53 : ck_ fX3 none cX3_backToBeginning 53 [.aload 0, .tableswitch 0 3 9 #[], .iconst 0] 58 = true := qck_r (nn_ _) (by decide +kernel)
theorem bs_X3_backToBeginning_53 {P : Zt → Option Zv → Prop} (K : Int → Zl → List Zv → Zt → Prop) : sx_ K P [.aload 0, .tableswitch 0 3 9 #[], .iconst 0] 58 = x_aload 0 (x_g2 103 469 (x_iconst 0 (K 58))) := ((xe_aload 0).trans (congrArg (x_aload 0) ((xe_g2 (kk := 103) rfl tl_3_9).trans (congrArg (x_g2 103 469) ((xe_iconst 0).trans (congrArg (x_iconst 0) xe_nil))))))
theorem bk_X3_backToBeginning_61 : ck_ fX3 none cX3_backToBeginning 61 [.aload 0, .tableswitch 0 3 12 #[], .iconst 0] 66 = true := qck_r (nn_ _) (by decide +kernel)
theorem bs_X3_backToBeginning_61 {P : Zt → Option Zv → Prop} (K : Int → Zl → List Zv → Zt → Prop) : sx_ K P [.aload 0, .tableswitch 0 3 12 #[], .iconst 0] 66 = x_aload 0 (x_g2 103 472 (x_iconst 0 (K 66))) := ((xe_aload 0).trans (congrArg (x_aload 0) ((xe_g2 (kk := 103) rfl tl_3_12).trans (congrArg (x_g2 103 472) ((xe_iconst 0).trans (congrArg (x_iconst 0) xe_nil))))))
theorem bk_X3_backToBeginning_69 : ck_ fX3 none cX3_backToBeginning 69 [.aload 0, .tableswitch 0 3 13 #[], .iconst 0] 74 = true := qck_r (nn_ _) (by decide +kernel)
theorem bs_X3_backToBeginning_69 {P : Zt → Option Zv → Prop} (K : Int → Zl → List Zv → Zt → Prop) : sx_ K P [.aload 0, .tableswitch 0 3 13 #[], .iconst 0] 74 = x_aload 0 (x_g2 103 473 (x_iconst 0 (K 74))) := ((xe_aload 0).trans (congrArg (x_aload 0) ((xe_g2 (kk := 103) rfl tl_3_13).trans (congrArg (x_g2 103 473) ((xe_iconst 0).trans (congrArg (x_iconst 0) xe_nil))))))
theorem bk_X3_backToBeginning_77 : ck_ fX3 none cX3_backToBeginning 77 [.iconst 0, .istore 1] 79 = true := qck_r (nn_ _) (by decide +kernel)
theorem bs_X3_backToBeginning_77 {P : Zt → Option Zv → Prop} (K : Int → Zl → List Zv → Zt → Prop) : sx_ K P [.iconst 0, .istore 1] 79 = x_iconst 0 (x_istore 1 (K 79)) := ((xe_iconst 0).trans (congrArg (x_iconst 0) ((xe_istore 1).trans (congrArg (x_istore 1) xe_nil))))
theorem bk_X3_backToBeginning_26 : ck_ fX3 none cX3_backToBeginning 26 [.tableswitch 1 3 5 #[], .aload 0, .tableswitch 0 3 6 #[], .iconst 0] 34 = true := qck_r (nn_ _) (by decide +kernel)
theorem bs_X3_backToBeginning_26 {P : Zt → Option Zv → Prop} (K : Int → Zl → List Zv → Zt → Prop) : sx_ K P [.tableswitch 1 3 5 #[], .aload 0, .tableswitch 0 3 6 #[], .iconst 0] 34 = x_p 103 5 0 1 (x_aload 0 (x_g2 103 466 (x_iconst 0 (K 34)))) := ((xe_p (kk := 103) rfl tl_3_5).trans (congrArg (x_p 103 5 0 1) ((xe_aload 0).trans (congrArg (x_aload 0) ((xe_g2 (kk := 103) rfl tl_3_6).trans (congrArg (x_g2 103 466) ((xe_iconst 0).trans (congrArg (x_iconst 0) xe_nil))))))))
abbrev po_X3_backToBeginning (T : Zt) (p : Int) : Zt → Option Zv → Prop := fun T' r => r = none ∧ fr_ [(103, [3, 4, 5]), (466, []), (467, []), (468, []), (469, []), (472, []), (473, []), (470, []), (471, [])] T T' ∧ (oi_ T T' p ∧ (1 ≤ T' 470 p 0 ∧ 1 ≤ T' 470 p 1) ∧ T' 103 p 3 = 0)
set_option maxHeartbeats 4000000 in
theorem ct_X3_backToBeginning {T : Zt} {p : Int} (hf : 1 ≤ T 401 (T 103 p 0) 9 ∧ T 401 (T 103 p 0) 9 ≤ 6) : Ct_ yX3_backToBeginning zX3_backToBeginning T [vR 103 p] (po_X3_backToBeginning T p) := by
  refine ct_of pn_3 rfl rfl (Nat.le_of_ble_eq_true rfl) (fun hT hav => ?_)
  have hz : zX3_backToBeginning.2.2.2.1 = some .boolean → ∀ (T' : Zt) (x : Int), po_X3_backToBeginning T p T' (some (vI x)) → 0 ≤ x ∧ x ≤ 1 := fun h => by cases h
  show J_ zX3_backToBeginning T (po_X3_backToBeginning T p) 0 0 0 [some (vR 103 p), none, none] [] T
  have c_79 : ∀ (nn : Nat) (s : Int) (T1 : Zt), ((2 - s).toNat) ≤ nn → (fr_ [(103, [3, 4, 5]), (466, []), (467, []), (468, []), (469, []), (472, []), (473, []), (470, []), (471, [])] T T1) → (0 ≤ s ∧ s ≤ 2 ∧ T1 103 p 3 = 0) → (oi_ T T1 p) → (∀ j, 0 ≤ j → j < s → 1 ≤ T1 470 p j) → J_ zX3_backToBeginning T (po_X3_backToBeginning T p) 0 0 79 [some (vR 103 p), some (vI s), none] [] T1 := by
    intro nn
    induction nn using Nat.strongRecOn with
    | _ nn ih_79 =>
      intro s T1 hm_79 hf_79 i1 o1 fb1
      have c_99 : ∀ (nn : Nat) (k : Int) (T2 : Zt), ((6 - k).toNat) ≤ nn → (fr_ [(103, [3, 4, 5]), (466, []), (467, []), (468, []), (469, []), (472, []), (473, []), (470, []), (471, [])] T T2) → (0 ≤ k ∧ s < 2 ∧ T2 103 p 3 = 0) → (oi_ T T2 p) → (∀ j, 0 ≤ j → j < s + 1 → 1 ≤ T2 470 p j) → J_ zX3_backToBeginning T (po_X3_backToBeginning T p) 0 0 99 [some (vR 103 p), some (vI s), some (vI k)] [] T2 := by
        intro nn
        induction nn using Nat.strongRecOn with
        | _ nn ih_99 =>
          intro k T2 hm_99 hf_99 i2 o2 fb2
          refine j_blx (F := fX3) tb_X3 (nn_ _) bk_X3_backToBeginning_99 bs_X3_backToBeginning_99 hz (fun K hK => ?_)
          have e2 : T2 103 p 0 = T 103 p 0 := hf_99 103 p 0 rfl
          refine ix_i (by omega) ?_
          intro b3 b3b
          have e4 : T2 401 (T 103 p 0) 9 = T 401 (T 103 p 0) 9 := hf_99 401 (T 103 p 0) 9 rfl
          have e5 : T2 401 (T2 103 p 0) 9 = T 401 (T 103 p 0) 9 := by rw [e2]; exact e4
          rw [e5] at b3 b3b ⊢
          refine And.intro (fun c6 => ?_) (fun c6 => ?_)
          · refine hK 145 _ [] T2 ?_
            refine j_blx (F := fX3) tb_X3 (nn_ _) bk_X3_backToBeginning_145 bs_X3_backToBeginning_145 hz (fun K hK => ?_)
            refine rg_i (by omega) ?_
            refine hK 79 [some (vR 103 p), some (vI (s + 1)), some (vI k)] [] T2 ?_
            refine j_drop [some (vR 103 p), some (vI (s + 1)), none] (fun k v hk => ?_) rfl ?_
            · match k, hk with
              | 0, hk => exact hk
              | 1, hk => exact hk
              | 2, hk => cases hk
              | k + 3, hk => cases hk
            refine ih_79 _ ?_ (s + 1) T2 (Nat.le_refl _) ?_ ?_ ?_ ?_
            · omega
            · exact fr_t (fr_0 _ _) (fr_s hf_99 rfl)
            · omega
            · exact o2
            · intro j a b
              exact fb2 j a (by omega)
          · refine rg_i (by omega) ?_
            refine rg_i (by omega) ?_
            refine rg_i (by omega) ?_
            refine rg_i (by omega) ?_
            refine iy_i (by omega) (by omega) ?_
            refine x_nm (fun U7 hU7 => ?_)
            have e8 := up_f hU7
            refine rg_i (by omega) ?_
            refine rg_i (by omega) ?_
            refine iy_i (by omega) (by omega) ?_
            refine x_nm (fun U9 hU9 => ?_)
            have e10 := up_f hU9
            refine rg_i (by omega) ?_
            refine hK 99 [some (vR 103 p), some (vI s), some (vI (k + 1))] [] U9 ?_
            have e11 : U9 103 p 3 = T2 103 p 3 := (up_k hU9 (by exact Nat.ne_of_beq_eq_false rfl) p 3).trans (up_k hU7 (by exact Nat.ne_of_beq_eq_false rfl) p 3)
            refine ih_99 _ ?_ (k + 1) U9 (Nat.le_refl _) ?_ ?_ ?_ ?_
            · omega
            · exact fr_u (fr_u (fr_t (fr_0 _ _) (fr_s hf_99 rfl)) hU7 rfl) hU9 rfl
            · omega
            · exact oi_u (oi_u (o2) hU7) hU9
            · intro j a b
              rw [(up_k hU9 (by exact Nat.ne_of_beq_eq_false rfl) p j).trans (up_k hU7 (by exact Nat.ne_of_beq_eq_false rfl) p j)]
              exact fb2 j a b
      refine j_blx (F := fX3) tb_X3 (nn_ _) bk_X3_backToBeginning_79 bs_X3_backToBeginning_79 hz (fun K hK => ?_)
      refine And.intro (fun c12 => ?_) (fun c12 => ?_)
      · refine hK 151 _ [] T1 ?_
        refine j_blx (F := fX3) tb_X3 (nn_ _) bk_X3_backToBeginning_151 bs_X3_backToBeginning_151 hz (fun K hK => ?_)
        refine (show po_X3_backToBeginning T p T1 (none) from ?_)
        exact ⟨rfl, fr_t (fr_0 _ _) (fr_s hf_79 rfl), o1, ⟨fb1 0 (by omega) (by omega), fb1 1 (by omega) (by omega)⟩, by omega⟩
      · have e14 : T1 103 p 0 = T 103 p 0 := hf_79 103 p 0 rfl
        refine ix_i (by omega) ?_
        intro b15 b15b
        have e16 : T1 401 (T 103 p 0) 9 = T 401 (T 103 p 0) 9 := hf_79 401 (T 103 p 0) 9 rfl
        have e17 : T1 401 (T1 103 p 0) 9 = T 401 (T 103 p 0) 9 := by rw [e14]; exact e16
        rw [e17] at b15 b15b ⊢
        refine iy_i (by omega) (by omega) ?_
        refine x_nm (fun U18 hU18 => ?_)
        have e19 := up_f hU18
        refine hK 99 [some (vR 103 p), some (vI s), some (vI 0)] [] U18 ?_
        have e20 : U18 103 p 3 = T1 103 p 3 := up_k hU18 (by exact Nat.ne_of_beq_eq_false rfl) p 3
        refine c_99 _ 0 U18 (Nat.le_refl _) ?_ ?_ ?_ ?_
        · exact fr_u (fr_t (fr_0 _ _) (fr_s hf_79 rfl)) hU18 rfl
        · omega
        · exact oi_u (o1) hU18
        · intro j a b
          by_cases z : j = s
          · rw [z, up_f hU18]; omega
          · rw [up_g hU18 (fun y => z y.2.2)]; exact fb1 j a (by omega)
  refine j_blx (F := fX3) tb_X3 (nn_ _) bk_X3_backToBeginning_0 bs_X3_backToBeginning_0 hz (fun K hK => ?_)
  refine bd_i (by omega) ?_
  refine x_nm (fun U21 hU21 => ?_)
  have e22 := up_f hU21
  refine bd_i (by omega) ?_
  refine x_nm (fun U23 hU23 => ?_)
  have e24 := up_f hU23
  have e26 : U23 103 p 0 = T 103 p 0 := (up_j hU23 (by exact ni_ rfl) 103 p).trans (up_j hU21 (by exact ni_ rfl) 103 p)
  refine ix_i (by omega) ?_
  intro b27 b27b
  have e28 : U23 401 (T 103 p 0) 0 = T 401 (T 103 p 0) 0 := (up_k hU23 (by exact Nat.ne_of_beq_eq_false rfl) (T 103 p 0) 0).trans (up_k hU21 (by exact Nat.ne_of_beq_eq_false rfl) (T 103 p 0) 0)
  have e29 : U23 401 (U23 103 p 0) 0 = T 401 (T 103 p 0) 0 := by rw [e26]; exact e28
  rw [e29] at b27 b27b ⊢
  refine And.intro (fun c30 => ?_) (fun c30 => ?_)
  · refine hK 25 _ [vR 103 p] U23 ?_
    refine j_blx (F := fX3) tb_X3 (nn_ _) bk_X3_backToBeginning_25 bs_X3_backToBeginning_25 hz (fun K hK => ?_)
    refine bd_i (by omega) ?_
    refine x_nm (fun U31 hU31 => ?_)
    have e32 := up_f hU31
    refine hK 34 _ [vI 0, vR 466 p] U31 ?_
    refine j_callS (y := yJ7_fill_53178) (Yc := zJ7_fill_53178) (rest := []) [vR 466 p, vI 0] (ct_J7_fill_466 (T := U31) (by omega)) cl_X3_62 (qd_c (by decide +kernel)) (nn_ _) rfl (rf_of rfl) (Nat.le_of_ble_eq_true rfl) (Nat.le_of_ble_eq_true rfl) (Nat.le_of_ble_eq_true rfl) rfl ?_
    rintro U33 _ ⟨rfl, fU33, qU33o, qU33⟩
    show J_ zX3_backToBeginning T (po_X3_backToBeginning T p) 0 0 37 _ [] U33
    refine j_blx (F := fX3) tb_X3 (nn_ _) bk_X3_backToBeginning_37 bs_X3_backToBeginning_37 hz (fun K hK => ?_)
    refine hK 42 _ [vI 0, vR 467 p] U33 ?_
    refine j_callS (y := yJ7_fill_53178) (Yc := zJ7_fill_53178) (rest := []) [vR 467 p, vI 0] (ct_J7_fill_467 (T := U33) (by omega)) cl_X3_62 (qd_c (by decide +kernel)) (nn_ _) rfl (rf_of rfl) (Nat.le_of_ble_eq_true rfl) (Nat.le_of_ble_eq_true rfl) (Nat.le_of_ble_eq_true rfl) rfl ?_
    rintro U34 _ ⟨rfl, fU34, qU34o, qU34⟩
    show J_ zX3_backToBeginning T (po_X3_backToBeginning T p) 0 0 45 _ [] U34
    refine j_blx (F := fX3) tb_X3 (nn_ _) bk_X3_backToBeginning_45 bs_X3_backToBeginning_45 hz (fun K hK => ?_)
    refine hK 50 _ [vI 0, vR 468 p] U34 ?_
    refine j_callS (y := yJ7_fill_53178) (Yc := zJ7_fill_53178) (rest := []) [vR 468 p, vI 0] (ct_J7_fill_468 (T := U34) (by omega)) cl_X3_62 (qd_c (by decide +kernel)) (nn_ _) rfl (rf_of rfl) (Nat.le_of_ble_eq_true rfl) (Nat.le_of_ble_eq_true rfl) (Nat.le_of_ble_eq_true rfl) rfl ?_
    rintro U35 _ ⟨rfl, fU35, qU35o, qU35⟩
    show J_ zX3_backToBeginning T (po_X3_backToBeginning T p) 0 0 53 _ [] U35
    refine j_blx (F := fX3) tb_X3 (nn_ _) bk_X3_backToBeginning_53 bs_X3_backToBeginning_53 hz (fun K hK => ?_)
    refine hK 58 _ [vI 0, vR 469 p] U35 ?_
    refine j_callS (y := yJ7_fill_53178) (Yc := zJ7_fill_53178) (rest := []) [vR 469 p, vI 0] (ct_J7_fill_469 (T := U35) (by omega)) cl_X3_62 (qd_c (by decide +kernel)) (nn_ _) rfl (rf_of rfl) (Nat.le_of_ble_eq_true rfl) (Nat.le_of_ble_eq_true rfl) (Nat.le_of_ble_eq_true rfl) rfl ?_
    rintro U36 _ ⟨rfl, fU36, qU36o, qU36⟩
    show J_ zX3_backToBeginning T (po_X3_backToBeginning T p) 0 0 61 _ [] U36
    refine j_blx (F := fX3) tb_X3 (nn_ _) bk_X3_backToBeginning_61 bs_X3_backToBeginning_61 hz (fun K hK => ?_)
    refine hK 66 _ [vI 0, vR 472 p] U36 ?_
    refine j_callS (y := yJ7_fill_53178) (Yc := zJ7_fill_53178) (rest := []) [vR 472 p, vI 0] (ct_J7_fill_472 (T := U36) (by omega)) cl_X3_62 (qd_c (by decide +kernel)) (nn_ _) rfl (rf_of rfl) (Nat.le_of_ble_eq_true rfl) (Nat.le_of_ble_eq_true rfl) (Nat.le_of_ble_eq_true rfl) rfl ?_
    rintro U37 _ ⟨rfl, fU37, qU37o, qU37⟩
    show J_ zX3_backToBeginning T (po_X3_backToBeginning T p) 0 0 69 _ [] U37
    refine j_blx (F := fX3) tb_X3 (nn_ _) bk_X3_backToBeginning_69 bs_X3_backToBeginning_69 hz (fun K hK => ?_)
    refine hK 74 _ [vI 0, vR 473 p] U37 ?_
    refine j_callS (y := yJ7_fill_53178) (Yc := zJ7_fill_53178) (rest := []) [vR 473 p, vI 0] (ct_J7_fill_473 (T := U37) (by omega)) cl_X3_62 (qd_c (by decide +kernel)) (nn_ _) rfl (rf_of rfl) (Nat.le_of_ble_eq_true rfl) (Nat.le_of_ble_eq_true rfl) (Nat.le_of_ble_eq_true rfl) rfl ?_
    rintro U38 _ ⟨rfl, fU38, qU38o, qU38⟩
    show J_ zX3_backToBeginning T (po_X3_backToBeginning T p) 0 0 77 _ [] U38
    refine j_blx (F := fX3) tb_X3 (nn_ _) bk_X3_backToBeginning_77 bs_X3_backToBeginning_77 hz (fun K hK => ?_)
    refine hK 79 [some (vR 103 p), some (vI 0), none] [] U38 ?_
    have e39 : U38 103 p 3 = 0 := (fU38 103 p 3 rfl).trans ((fU37 103 p 3 rfl).trans ((fU36 103 p 3 rfl).trans ((fU35 103 p 3 rfl).trans ((fU34 103 p 3 rfl).trans ((fU33 103 p 3 rfl).trans ((up_j hU31 (by exact ni_ rfl) 103 p).trans ((up_j hU23 (by exact ni_ rfl) 103 p).trans (up_f hU21))))))))
    refine c_79 _ 0 U38 (Nat.le_refl _) ?_ ?_ ?_ ?_
    · exact fr_t (fr_t (fr_t (fr_t (fr_t (fr_t (fr_u (fr_u (fr_u (fr_0 _ _) hU21 rfl) hU23 rfl) hU31 rfl) (fr_s fU33 rfl)) (fr_s fU34 rfl)) (fr_s fU35 rfl)) (fr_s fU36 rfl)) (fr_s fU37 rfl)) (fr_s fU38 rfl)
    · omega
    · exact oi_t (oi_t (oi_t (oi_t (oi_t (oi_t (oi_u (oi_u (oi_u (oi_r) hU21) hU23) hU31) qU33o) qU34o) qU35o) qU36o) qU37o) qU38o
    · intro j a b; omega
  · refine hK 26 [some (vR 103 p), none, none] [vI 1, vR 103 p] U23 ?_
    refine j_blx (F := fX3) tb_X3 (nn_ _) bk_X3_backToBeginning_26 bs_X3_backToBeginning_26 hz (fun K hK => ?_)
    refine bd_i (by omega) ?_
    refine x_nm (fun U40 hU40 => ?_)
    have e41 := up_f hU40
    refine hK 34 _ [vI 0, vR 466 p] U40 ?_
    refine j_callS (y := yJ7_fill_53178) (Yc := zJ7_fill_53178) (rest := []) [vR 466 p, vI 0] (ct_J7_fill_466 (T := U40) (by omega)) cl_X3_62 (qd_c (by decide +kernel)) (nn_ _) rfl (rf_of rfl) (Nat.le_of_ble_eq_true rfl) (Nat.le_of_ble_eq_true rfl) (Nat.le_of_ble_eq_true rfl) rfl ?_
    rintro U42 _ ⟨rfl, fU42, qU42o, qU42⟩
    show J_ zX3_backToBeginning T (po_X3_backToBeginning T p) 0 0 37 _ [] U42
    refine j_blx (F := fX3) tb_X3 (nn_ _) bk_X3_backToBeginning_37 bs_X3_backToBeginning_37 hz (fun K hK => ?_)
    refine hK 42 _ [vI 0, vR 467 p] U42 ?_
    refine j_callS (y := yJ7_fill_53178) (Yc := zJ7_fill_53178) (rest := []) [vR 467 p, vI 0] (ct_J7_fill_467 (T := U42) (by omega)) cl_X3_62 (qd_c (by decide +kernel)) (nn_ _) rfl (rf_of rfl) (Nat.le_of_ble_eq_true rfl) (Nat.le_of_ble_eq_true rfl) (Nat.le_of_ble_eq_true rfl) rfl ?_
    rintro U43 _ ⟨rfl, fU43, qU43o, qU43⟩
    show J_ zX3_backToBeginning T (po_X3_backToBeginning T p) 0 0 45 _ [] U43
    refine j_blx (F := fX3) tb_X3 (nn_ _) bk_X3_backToBeginning_45 bs_X3_backToBeginning_45 hz (fun K hK => ?_)
    refine hK 50 _ [vI 0, vR 468 p] U43 ?_
    refine j_callS (y := yJ7_fill_53178) (Yc := zJ7_fill_53178) (rest := []) [vR 468 p, vI 0] (ct_J7_fill_468 (T := U43) (by omega)) cl_X3_62 (qd_c (by decide +kernel)) (nn_ _) rfl (rf_of rfl) (Nat.le_of_ble_eq_true rfl) (Nat.le_of_ble_eq_true rfl) (Nat.le_of_ble_eq_true rfl) rfl ?_
    rintro U44 _ ⟨rfl, fU44, qU44o, qU44⟩
    show J_ zX3_backToBeginning T (po_X3_backToBeginning T p) 0 0 53 _ [] U44
    refine j_blx (F := fX3) tb_X3 (nn_ _) bk_X3_backToBeginning_53 bs_X3_backToBeginning_53 hz (fun K hK => ?_)
    refine hK 58 _ [vI 0, vR 469 p] U44 ?_
    refine j_callS (y := yJ7_fill_53178) (Yc := zJ7_fill_53178) (rest := []) [vR 469 p, vI 0] (ct_J7_fill_469 (T := U44) (by omega)) cl_X3_62 (qd_c (by decide +kernel)) (nn_ _) rfl (rf_of rfl) (Nat.le_of_ble_eq_true rfl) (Nat.le_of_ble_eq_true rfl) (Nat.le_of_ble_eq_true rfl) rfl ?_
    rintro U45 _ ⟨rfl, fU45, qU45o, qU45⟩
    show J_ zX3_backToBeginning T (po_X3_backToBeginning T p) 0 0 61 _ [] U45
    refine j_blx (F := fX3) tb_X3 (nn_ _) bk_X3_backToBeginning_61 bs_X3_backToBeginning_61 hz (fun K hK => ?_)
    refine hK 66 _ [vI 0, vR 472 p] U45 ?_
    refine j_callS (y := yJ7_fill_53178) (Yc := zJ7_fill_53178) (rest := []) [vR 472 p, vI 0] (ct_J7_fill_472 (T := U45) (by omega)) cl_X3_62 (qd_c (by decide +kernel)) (nn_ _) rfl (rf_of rfl) (Nat.le_of_ble_eq_true rfl) (Nat.le_of_ble_eq_true rfl) (Nat.le_of_ble_eq_true rfl) rfl ?_
    rintro U46 _ ⟨rfl, fU46, qU46o, qU46⟩
    show J_ zX3_backToBeginning T (po_X3_backToBeginning T p) 0 0 69 _ [] U46
    refine j_blx (F := fX3) tb_X3 (nn_ _) bk_X3_backToBeginning_69 bs_X3_backToBeginning_69 hz (fun K hK => ?_)
    refine hK 74 _ [vI 0, vR 473 p] U46 ?_
    refine j_callS (y := yJ7_fill_53178) (Yc := zJ7_fill_53178) (rest := []) [vR 473 p, vI 0] (ct_J7_fill_473 (T := U46) (by omega)) cl_X3_62 (qd_c (by decide +kernel)) (nn_ _) rfl (rf_of rfl) (Nat.le_of_ble_eq_true rfl) (Nat.le_of_ble_eq_true rfl) (Nat.le_of_ble_eq_true rfl) rfl ?_
    rintro U47 _ ⟨rfl, fU47, qU47o, qU47⟩
    show J_ zX3_backToBeginning T (po_X3_backToBeginning T p) 0 0 77 _ [] U47
    refine j_blx (F := fX3) tb_X3 (nn_ _) bk_X3_backToBeginning_77 bs_X3_backToBeginning_77 hz (fun K hK => ?_)
    refine hK 79 [some (vR 103 p), some (vI 0), none] [] U47 ?_
    have e48 : U47 103 p 3 = 0 := (fU47 103 p 3 rfl).trans ((fU46 103 p 3 rfl).trans ((fU45 103 p 3 rfl).trans ((fU44 103 p 3 rfl).trans ((fU43 103 p 3 rfl).trans ((fU42 103 p 3 rfl).trans ((up_j hU40 (by exact ni_ rfl) 103 p).trans ((up_j hU23 (by exact ni_ rfl) 103 p).trans (up_f hU21))))))))
    refine c_79 _ 0 U47 (Nat.le_refl _) ?_ ?_ ?_ ?_
    · exact fr_t (fr_t (fr_t (fr_t (fr_t (fr_t (fr_u (fr_u (fr_u (fr_0 _ _) hU21 rfl) hU23 rfl) hU40 rfl) (fr_s fU42 rfl)) (fr_s fU43 rfl)) (fr_s fU44 rfl)) (fr_s fU45 rfl)) (fr_s fU46 rfl)) (fr_s fU47 rfl)
    · omega
    · exact oi_t (oi_t (oi_t (oi_t (oi_t (oi_t (oi_u (oi_u (oi_u (oi_r) hU21) hU23) hU40) qU42o) qU43o) qU44o) qU45o) qU46o) qU47o
    · intro j a b; omega

