def fJ7 : Zf := ([], [], [], [])
set_option maxRecDepth 100000 in
set_option maxHeartbeats 4000000 in
theorem tg_J7 : ∀ q ∈ fJ7.1, fl_ RJ7 q.1 q.2.1 q.2.2 := fun _ h => absurd h List.not_mem_nil
set_option maxRecDepth 100000 in
set_option maxHeartbeats 4000000 in
theorem tp_J7 : ∀ q ∈ fJ7.2.1, fp_ RJ7 q.1 q.2.1 q.2.2 := fun _ h => absurd h List.not_mem_nil
theorem tb_J7 : tb_ RJ7 fJ7 := ⟨tg_J7, tp_J7, fun _ h => absurd h List.not_mem_nil, fun _ h => absurd h List.not_mem_nil⟩
theorem an_1b (x : Int) : 0 ≤ an_ x 1 ∧ an_ x 1 ≤ 1 := by
  have h : ((Int32.ofInt x).toBitVec &&& (Int32.ofInt 1).toBitVec).toNat ≤ 1 := by
    rw [BitVec.toNat_and]; exact Nat.and_le_right
  show 0 ≤ ((Int32.ofInt x).toBitVec &&& (Int32.ofInt 1).toBitVec).toInt ∧ ((Int32.ofInt x).toBitVec &&& (Int32.ofInt 1).toBitVec).toInt ≤ 1
  rw [BitVec.toInt_eq_toNat_cond]
  split <;> omega
/-- only what has the index p has changed -/
def oi_ (T T1 : Zt) (p : Int) : Prop := ∀ k i j, i ≠ p → T1 k i j = T k i j
theorem oi_r {T : Zt} {p : Int} : oi_ T T p := fun _ _ _ _ => rfl
theorem oi_u {T T1 T2 : Zt} {p j v : Int} {k : Nat} (h : oi_ T T1 p) (e : T2 = up_ T1 k p j v) : oi_ T T2 p := fun k' i j' hi => (up_g e (fun q => hi q.2.1)).trans (h k' i j' hi)
theorem oi_t {T T1 T2 : Zt} {p : Int} (h : oi_ T T1 p) (g : oi_ T1 T2 p) : oi_ T T2 p := fun k i j hi => (g k i j hi).trans (h k i j hi)
abbrev cJ7_fill_53178 : ByteArray := prog_21_method_103_code
def yJ7_fill_53178 : MethodName := ⟨RJ7, "fill", "([II)V"⟩
def zJ7_fill_53178 : Zm := (RJ7, cJ7_fill_53178, 4, none, { frames := 0, cells := 0, slots := 0, locals := 0 })
theorem bk_J7_fill_53178_5 : ck_ fJ7 none cJ7_fill_53178 5 [.iload 2, .iload 3, .if_icmp .ge 20, .aload 0, .iload 2, .iload 1, .iastore, .iinc 2 1, .goto 5] 20 = true := qck_r (nn_ _) (by decide +kernel)
theorem bs_J7_fill_53178_5 {P : Zt → Option Zv → Prop} (K : Int → Zl → List Zv → Zt → Prop) : sx_ K P [.iload 2, .iload 3, .if_icmp .ge 20, .aload 0, .iload 2, .iload 1, .iastore, .iinc 2 1, .goto 5] 20 = x_iload 2 (x_iload 3 (x_if_icmp .ge 20 K (x_aload 0 (x_iload 2 (x_iload 1 (x_iastore (x_iinc 2 1 (x_goto 5 K)))))))) := ((xe_iload 2).trans (congrArg (x_iload 2) ((xe_iload 3).trans (congrArg (x_iload 3) ((xe_if_icmp .ge 20).trans (congrArg (x_if_icmp .ge 20 K) ((xe_aload 0).trans (congrArg (x_aload 0) ((xe_iload 2).trans (congrArg (x_iload 2) ((xe_iload 1).trans (congrArg (x_iload 1) ((xe_iastore).trans (congrArg (x_iastore) ((xe_iinc 2 1).trans (congrArg (x_iinc 2 1) (xe_goto 5)))))))))))))))))
theorem bk_J7_fill_53178_20 : ck_ fJ7 none cJ7_fill_53178 20 [.return_] 21 = true := qck_r (nn_ _) (by decide +kernel)
theorem bs_J7_fill_53178_20 {P : Zt → Option Zv → Prop} (K : Int → Zl → List Zv → Zt → Prop) : sx_ K P [.return_] 21 = x_return_ P := (xe_return_)
theorem bk_J7_fill_53178_0 : ck_ fJ7 none cJ7_fill_53178 0 [.iconst 0, .istore 2, .aload 0, .arraylength, .istore 3] 5 = true := qck_r (nn_ _) (by decide +kernel)
theorem bs_J7_fill_53178_0 {P : Zt → Option Zv → Prop} (K : Int → Zl → List Zv → Zt → Prop) : sx_ K P [.iconst 0, .istore 2, .aload 0, .arraylength, .istore 3] 5 = x_iconst 0 (x_istore 2 (x_aload 0 (x_arraylength (x_istore 3 (K 5))))) := ((xe_iconst 0).trans (congrArg (x_iconst 0) ((xe_istore 2).trans (congrArg (x_istore 2) ((xe_aload 0).trans (congrArg (x_aload 0) ((xe_arraylength).trans (congrArg (x_arraylength) ((xe_istore 3).trans (congrArg (x_istore 3) xe_nil))))))))))
abbrev po_J7_fill_428 (T : Zt) (p : Int) (v : Int) : Zt → Option Zv → Prop := fun T' r => r = none ∧ fr_ [(428, [])] T T' ∧ oi_ T T' p ∧ ∀ j, 0 ≤ j → j < 12 → T' 428 p j = v
set_option maxHeartbeats 4000000 in
theorem ct_J7_fill_428 {T : Zt} {p : Int} {v : Int} (h1 : (-1) ≤ v ∧ v ≤ 2) : Ct_ yJ7_fill_53178 zJ7_fill_53178 T [vR 428 p, vI v] (po_J7_fill_428 T p v) := by
  refine ct_of (by decide) rfl rfl (Nat.le_of_ble_eq_true rfl) (fun hT hav => ?_)
  have hr_v : -2147483648 ≤ v ∧ v ≤ 2147483647 := hav (vI v) (List.mem_cons_of_mem _ List.mem_cons_self)
  have hz : zJ7_fill_53178.2.2.2.1 = some .boolean → ∀ (T' : Zt) (x : Int), po_J7_fill_428 T p v T' (some (vI x)) → 0 ≤ x ∧ x ≤ 1 := fun h => by cases h
  show J_ zJ7_fill_53178 T (po_J7_fill_428 T p v) 0 0 0 [some (vR 428 p), some (vI v), none, none] [] T
  have c_5 : ∀ (nn : Nat) (j : Int) (T1 : Zt), ((12 - j).toNat) ≤ nn → (fr_ [(428, [])] T T1) → (0 ≤ j ∧ j ≤ 12) → (oi_ T T1 p) → (∀ q, 0 ≤ q → q < j → T1 428 p q = v) → J_ zJ7_fill_53178 T (po_J7_fill_428 T p v) 0 0 5 [some (vR 428 p), some (vI v), some (vI j), some (vI 12)] [] T1 := by
    intro nn
    induction nn using Nat.strongRecOn with
    | _ nn ih_5 =>
      intro j T1 hm_5 hf_5 i1 o1 f1
      replace hm_5 := fun (_ : Unit) => hm_5
      refine j_blx (F := fJ7) tb_J7 (nn_ _) bk_J7_fill_53178_5 bs_J7_fill_53178_5 hz (fun K hK => ?_)
      refine And.intro (fun c1 => ?_) (fun c1 => ?_)
      · refine hK 20 _ [] T1 ?_
        refine j_blx (F := fJ7) tb_J7 (nn_ _) bk_J7_fill_53178_20 bs_J7_fill_53178_20 hz (fun K hK => ?_)
        refine (show po_J7_fill_428 T p v T1 (none) from ?_)
        exact ⟨rfl, fr_t (fr_0 _ _) (fr_s hf_5 rfl), o1, fun q a b => f1 q a (by omega)⟩
      · refine iy_i (by omega) (by omega) ?_
        refine x_nm (fun U2 hU2 => ?_)
        have e3 := up_f hU2
        refine rg_i (by omega) ?_
        refine hK 5 [some (vR 428 p), some (vI v), some (vI (j + 1)), some (vI 12)] [] U2 ?_
        refine ih_5 _ ?_ (j + 1) U2 (Nat.le_refl _) ?_ ?_ ?_ ?_
        · have hm_5 := hm_5 (); omega
        · exact fr_u (fr_t (fr_0 _ _) (fr_s hf_5 rfl)) hU2 rfl
        · omega
        · exact oi_u o1 hU2
        · intro q a b
          by_cases z : q = j
          · rw [z]; exact up_f hU2
          · rw [up_g hU2 (fun y => z y.2.2)]; exact f1 q a (by omega)
  refine j_blx (F := fJ7) tb_J7 (nn_ _) bk_J7_fill_53178_0 bs_J7_fill_53178_0 hz (fun K hK => ?_)
  refine hK 5 [some (vR 428 p), some (vI v), some (vI 0), some (vI 12)] [] T ?_
  refine c_5 _ 0 T (Nat.le_refl _) ?_ ?_ ?_ ?_
  · exact fr_0 _ _
  · omega
  · exact oi_r
  · intro q a b; omega
abbrev po_J7_fill_429 (T : Zt) (p : Int) (v : Int) : Zt → Option Zv → Prop := fun T' r => r = none ∧ fr_ [(429, [])] T T' ∧ oi_ T T' p ∧ ∀ j, 0 ≤ j → j < 12 → T' 429 p j = v
set_option maxHeartbeats 4000000 in
theorem ct_J7_fill_429 {T : Zt} {p : Int} {v : Int} (h1 : (-1) ≤ v ∧ v ≤ 3) : Ct_ yJ7_fill_53178 zJ7_fill_53178 T [vR 429 p, vI v] (po_J7_fill_429 T p v) := by
  refine ct_of (by decide) rfl rfl (Nat.le_of_ble_eq_true rfl) (fun hT hav => ?_)
  have hr_v : -2147483648 ≤ v ∧ v ≤ 2147483647 := hav (vI v) (List.mem_cons_of_mem _ List.mem_cons_self)
  have hz : zJ7_fill_53178.2.2.2.1 = some .boolean → ∀ (T' : Zt) (x : Int), po_J7_fill_429 T p v T' (some (vI x)) → 0 ≤ x ∧ x ≤ 1 := fun h => by cases h
  show J_ zJ7_fill_53178 T (po_J7_fill_429 T p v) 0 0 0 [some (vR 429 p), some (vI v), none, none] [] T
  have c_5 : ∀ (nn : Nat) (j : Int) (T1 : Zt), ((12 - j).toNat) ≤ nn → (fr_ [(429, [])] T T1) → (0 ≤ j ∧ j ≤ 12) → (oi_ T T1 p) → (∀ q, 0 ≤ q → q < j → T1 429 p q = v) → J_ zJ7_fill_53178 T (po_J7_fill_429 T p v) 0 0 5 [some (vR 429 p), some (vI v), some (vI j), some (vI 12)] [] T1 := by
    intro nn
    induction nn using Nat.strongRecOn with
    | _ nn ih_5 =>
      intro j T1 hm_5 hf_5 i1 o1 f1
      replace hm_5 := fun (_ : Unit) => hm_5
      refine j_blx (F := fJ7) tb_J7 (nn_ _) bk_J7_fill_53178_5 bs_J7_fill_53178_5 hz (fun K hK => ?_)
      refine And.intro (fun c1 => ?_) (fun c1 => ?_)
      · refine hK 20 _ [] T1 ?_
        refine j_blx (F := fJ7) tb_J7 (nn_ _) bk_J7_fill_53178_20 bs_J7_fill_53178_20 hz (fun K hK => ?_)
        refine (show po_J7_fill_429 T p v T1 (none) from ?_)
        exact ⟨rfl, fr_t (fr_0 _ _) (fr_s hf_5 rfl), o1, fun q a b => f1 q a (by omega)⟩
      · refine iy_i (by omega) (by omega) ?_
        refine x_nm (fun U2 hU2 => ?_)
        have e3 := up_f hU2
        refine rg_i (by omega) ?_
        refine hK 5 [some (vR 429 p), some (vI v), some (vI (j + 1)), some (vI 12)] [] U2 ?_
        refine ih_5 _ ?_ (j + 1) U2 (Nat.le_refl _) ?_ ?_ ?_ ?_
        · have hm_5 := hm_5 (); omega
        · exact fr_u (fr_t (fr_0 _ _) (fr_s hf_5 rfl)) hU2 rfl
        · omega
        · exact oi_u o1 hU2
        · intro q a b
          by_cases z : q = j
          · rw [z]; exact up_f hU2
          · rw [up_g hU2 (fun y => z y.2.2)]; exact f1 q a (by omega)
  refine j_blx (F := fJ7) tb_J7 (nn_ _) bk_J7_fill_53178_0 bs_J7_fill_53178_0 hz (fun K hK => ?_)
  refine hK 5 [some (vR 429 p), some (vI v), some (vI 0), some (vI 12)] [] T ?_
  refine c_5 _ 0 T (Nat.le_refl _) ?_ ?_ ?_ ?_
  · exact fr_0 _ _
  · omega
  · exact oi_r
  · intro q a b; omega
abbrev po_J7_fill_430 (T : Zt) (p : Int) (v : Int) : Zt → Option Zv → Prop := fun T' r => r = none ∧ fr_ [(430, [])] T T' ∧ oi_ T T' p ∧ ∀ j, 0 ≤ j → j < 3 → T' 430 p j = v
set_option maxHeartbeats 4000000 in
theorem ct_J7_fill_430 {T : Zt} {p : Int} {v : Int} (h1 : 0 ≤ v ∧ v ≤ 4) : Ct_ yJ7_fill_53178 zJ7_fill_53178 T [vR 430 p, vI v] (po_J7_fill_430 T p v) := by
  refine ct_of (by decide) rfl rfl (Nat.le_of_ble_eq_true rfl) (fun hT hav => ?_)
  have hr_v : -2147483648 ≤ v ∧ v ≤ 2147483647 := hav (vI v) (List.mem_cons_of_mem _ List.mem_cons_self)
  have hz : zJ7_fill_53178.2.2.2.1 = some .boolean → ∀ (T' : Zt) (x : Int), po_J7_fill_430 T p v T' (some (vI x)) → 0 ≤ x ∧ x ≤ 1 := fun h => by cases h
  show J_ zJ7_fill_53178 T (po_J7_fill_430 T p v) 0 0 0 [some (vR 430 p), some (vI v), none, none] [] T
  have c_5 : ∀ (nn : Nat) (j : Int) (T1 : Zt), ((3 - j).toNat) ≤ nn → (fr_ [(430, [])] T T1) → (0 ≤ j ∧ j ≤ 3) → (oi_ T T1 p) → (∀ q, 0 ≤ q → q < j → T1 430 p q = v) → J_ zJ7_fill_53178 T (po_J7_fill_430 T p v) 0 0 5 [some (vR 430 p), some (vI v), some (vI j), some (vI 3)] [] T1 := by
    intro nn
    induction nn using Nat.strongRecOn with
    | _ nn ih_5 =>
      intro j T1 hm_5 hf_5 i1 o1 f1
      replace hm_5 := fun (_ : Unit) => hm_5
      refine j_blx (F := fJ7) tb_J7 (nn_ _) bk_J7_fill_53178_5 bs_J7_fill_53178_5 hz (fun K hK => ?_)
      refine And.intro (fun c1 => ?_) (fun c1 => ?_)
      · refine hK 20 _ [] T1 ?_
        refine j_blx (F := fJ7) tb_J7 (nn_ _) bk_J7_fill_53178_20 bs_J7_fill_53178_20 hz (fun K hK => ?_)
        refine (show po_J7_fill_430 T p v T1 (none) from ?_)
        exact ⟨rfl, fr_t (fr_0 _ _) (fr_s hf_5 rfl), o1, fun q a b => f1 q a (by omega)⟩
      · refine iy_i (by omega) (by omega) ?_
        refine x_nm (fun U2 hU2 => ?_)
        have e3 := up_f hU2
        refine rg_i (by omega) ?_
        refine hK 5 [some (vR 430 p), some (vI v), some (vI (j + 1)), some (vI 3)] [] U2 ?_
        refine ih_5 _ ?_ (j + 1) U2 (Nat.le_refl _) ?_ ?_ ?_ ?_
        · have hm_5 := hm_5 (); omega
        · exact fr_u (fr_t (fr_0 _ _) (fr_s hf_5 rfl)) hU2 rfl
        · omega
        · exact oi_u o1 hU2
        · intro q a b
          by_cases z : q = j
          · rw [z]; exact up_f hU2
          · rw [up_g hU2 (fun y => z y.2.2)]; exact f1 q a (by omega)
  refine j_blx (F := fJ7) tb_J7 (nn_ _) bk_J7_fill_53178_0 bs_J7_fill_53178_0 hz (fun K hK => ?_)
  refine hK 5 [some (vR 430 p), some (vI v), some (vI 0), some (vI 3)] [] T ?_
  refine c_5 _ 0 T (Nat.le_refl _) ?_ ?_ ?_ ?_
  · exact fr_0 _ _
  · omega
  · exact oi_r
  · intro q a b; omega
abbrev po_J7_fill_431 (T : Zt) (p : Int) (v : Int) : Zt → Option Zv → Prop := fun T' r => r = none ∧ fr_ [(431, [])] T T' ∧ oi_ T T' p ∧ ∀ j, 0 ≤ j → j < 48 → T' 431 p j = v
set_option maxHeartbeats 4000000 in
theorem ct_J7_fill_431 {T : Zt} {p : Int} {v : Int} (h1 : (-2147483648) ≤ v ∧ v ≤ 2147483647) : Ct_ yJ7_fill_53178 zJ7_fill_53178 T [vR 431 p, vI v] (po_J7_fill_431 T p v) := by
  refine ct_of (by decide) rfl rfl (Nat.le_of_ble_eq_true rfl) (fun hT hav => ?_)
  have hr_v : -2147483648 ≤ v ∧ v ≤ 2147483647 := hav (vI v) (List.mem_cons_of_mem _ List.mem_cons_self)
  have hz : zJ7_fill_53178.2.2.2.1 = some .boolean → ∀ (T' : Zt) (x : Int), po_J7_fill_431 T p v T' (some (vI x)) → 0 ≤ x ∧ x ≤ 1 := fun h => by cases h
  show J_ zJ7_fill_53178 T (po_J7_fill_431 T p v) 0 0 0 [some (vR 431 p), some (vI v), none, none] [] T
  have c_5 : ∀ (nn : Nat) (j : Int) (T1 : Zt), ((48 - j).toNat) ≤ nn → (fr_ [(431, [])] T T1) → (0 ≤ j ∧ j ≤ 48) → (oi_ T T1 p) → (∀ q, 0 ≤ q → q < j → T1 431 p q = v) → J_ zJ7_fill_53178 T (po_J7_fill_431 T p v) 0 0 5 [some (vR 431 p), some (vI v), some (vI j), some (vI 48)] [] T1 := by
    intro nn
    induction nn using Nat.strongRecOn with
    | _ nn ih_5 =>
      intro j T1 hm_5 hf_5 i1 o1 f1
      replace hm_5 := fun (_ : Unit) => hm_5
      refine j_blx (F := fJ7) tb_J7 (nn_ _) bk_J7_fill_53178_5 bs_J7_fill_53178_5 hz (fun K hK => ?_)
      refine And.intro (fun c1 => ?_) (fun c1 => ?_)
      · refine hK 20 _ [] T1 ?_
        refine j_blx (F := fJ7) tb_J7 (nn_ _) bk_J7_fill_53178_20 bs_J7_fill_53178_20 hz (fun K hK => ?_)
        refine (show po_J7_fill_431 T p v T1 (none) from ?_)
        exact ⟨rfl, fr_t (fr_0 _ _) (fr_s hf_5 rfl), o1, fun q a b => f1 q a (by omega)⟩
      · refine iy_i (by omega) (by omega) ?_
        refine x_nm (fun U2 hU2 => ?_)
        have e3 := up_f hU2
        refine rg_i (by omega) ?_
        refine hK 5 [some (vR 431 p), some (vI v), some (vI (j + 1)), some (vI 48)] [] U2 ?_
        refine ih_5 _ ?_ (j + 1) U2 (Nat.le_refl _) ?_ ?_ ?_ ?_
        · have hm_5 := hm_5 (); omega
        · exact fr_u (fr_t (fr_0 _ _) (fr_s hf_5 rfl)) hU2 rfl
        · omega
        · exact oi_u o1 hU2
        · intro q a b
          by_cases z : q = j
          · rw [z]; exact up_f hU2
          · rw [up_g hU2 (fun y => z y.2.2)]; exact f1 q a (by omega)
  refine j_blx (F := fJ7) tb_J7 (nn_ _) bk_J7_fill_53178_0 bs_J7_fill_53178_0 hz (fun K hK => ?_)
  refine hK 5 [some (vR 431 p), some (vI v), some (vI 0), some (vI 48)] [] T ?_
  refine c_5 _ 0 T (Nat.le_refl _) ?_ ?_ ?_ ?_
  · exact fr_0 _ _
  · omega
  · exact oi_r
  · intro q a b; omega
abbrev po_J7_fill_434 (T : Zt) (p : Int) (v : Int) : Zt → Option Zv → Prop := fun T' r => r = none ∧ fr_ [(434, [])] T T' ∧ oi_ T T' p ∧ ∀ j, 0 ≤ j → j < 12 → T' 434 p j = v
set_option maxHeartbeats 4000000 in
theorem ct_J7_fill_434 {T : Zt} {p : Int} {v : Int} (h1 : 0 ≤ v ∧ v ≤ 1) : Ct_ yJ7_fill_53178 zJ7_fill_53178 T [vR 434 p, vI v] (po_J7_fill_434 T p v) := by
  refine ct_of (by decide) rfl rfl (Nat.le_of_ble_eq_true rfl) (fun hT hav => ?_)
  have hr_v : -2147483648 ≤ v ∧ v ≤ 2147483647 := hav (vI v) (List.mem_cons_of_mem _ List.mem_cons_self)
  have hz : zJ7_fill_53178.2.2.2.1 = some .boolean → ∀ (T' : Zt) (x : Int), po_J7_fill_434 T p v T' (some (vI x)) → 0 ≤ x ∧ x ≤ 1 := fun h => by cases h
  show J_ zJ7_fill_53178 T (po_J7_fill_434 T p v) 0 0 0 [some (vR 434 p), some (vI v), none, none] [] T
  have c_5 : ∀ (nn : Nat) (j : Int) (T1 : Zt), ((12 - j).toNat) ≤ nn → (fr_ [(434, [])] T T1) → (0 ≤ j ∧ j ≤ 12) → (oi_ T T1 p) → (∀ q, 0 ≤ q → q < j → T1 434 p q = v) → J_ zJ7_fill_53178 T (po_J7_fill_434 T p v) 0 0 5 [some (vR 434 p), some (vI v), some (vI j), some (vI 12)] [] T1 := by
    intro nn
    induction nn using Nat.strongRecOn with
    | _ nn ih_5 =>
      intro j T1 hm_5 hf_5 i1 o1 f1
      replace hm_5 := fun (_ : Unit) => hm_5
      refine j_blx (F := fJ7) tb_J7 (nn_ _) bk_J7_fill_53178_5 bs_J7_fill_53178_5 hz (fun K hK => ?_)
      refine And.intro (fun c1 => ?_) (fun c1 => ?_)
      · refine hK 20 _ [] T1 ?_
        refine j_blx (F := fJ7) tb_J7 (nn_ _) bk_J7_fill_53178_20 bs_J7_fill_53178_20 hz (fun K hK => ?_)
        refine (show po_J7_fill_434 T p v T1 (none) from ?_)
        exact ⟨rfl, fr_t (fr_0 _ _) (fr_s hf_5 rfl), o1, fun q a b => f1 q a (by omega)⟩
      · refine iy_i (by omega) (by omega) ?_
        refine x_nm (fun U2 hU2 => ?_)
        have e3 := up_f hU2
        refine rg_i (by omega) ?_
        refine hK 5 [some (vR 434 p), some (vI v), some (vI (j + 1)), some (vI 12)] [] U2 ?_
        refine ih_5 _ ?_ (j + 1) U2 (Nat.le_refl _) ?_ ?_ ?_ ?_
        · have hm_5 := hm_5 (); omega
        · exact fr_u (fr_t (fr_0 _ _) (fr_s hf_5 rfl)) hU2 rfl
        · omega
        · exact oi_u o1 hU2
        · intro q a b
          by_cases z : q = j
          · rw [z]; exact up_f hU2
          · rw [up_g hU2 (fun y => z y.2.2)]; exact f1 q a (by omega)
  refine j_blx (F := fJ7) tb_J7 (nn_ _) bk_J7_fill_53178_0 bs_J7_fill_53178_0 hz (fun K hK => ?_)
  refine hK 5 [some (vR 434 p), some (vI v), some (vI 0), some (vI 12)] [] T ?_
  refine c_5 _ 0 T (Nat.le_refl _) ?_ ?_ ?_ ?_
  · exact fr_0 _ _
  · omega
  · exact oi_r
  · intro q a b; omega
abbrev po_J7_fill_435 (T : Zt) (p : Int) (v : Int) : Zt → Option Zv → Prop := fun T' r => r = none ∧ fr_ [(435, [])] T T' ∧ oi_ T T' p ∧ ∀ j, 0 ≤ j → j < 32 → T' 435 p j = v
set_option maxHeartbeats 4000000 in
theorem ct_J7_fill_435 {T : Zt} {p : Int} {v : Int} (h1 : (-2147483648) ≤ v ∧ v ≤ 2147483647) : Ct_ yJ7_fill_53178 zJ7_fill_53178 T [vR 435 p, vI v] (po_J7_fill_435 T p v) := by
  refine ct_of (by decide) rfl rfl (Nat.le_of_ble_eq_true rfl) (fun hT hav => ?_)
  have hr_v : -2147483648 ≤ v ∧ v ≤ 2147483647 := hav (vI v) (List.mem_cons_of_mem _ List.mem_cons_self)
  have hz : zJ7_fill_53178.2.2.2.1 = some .boolean → ∀ (T' : Zt) (x : Int), po_J7_fill_435 T p v T' (some (vI x)) → 0 ≤ x ∧ x ≤ 1 := fun h => by cases h
  show J_ zJ7_fill_53178 T (po_J7_fill_435 T p v) 0 0 0 [some (vR 435 p), some (vI v), none, none] [] T
  have c_5 : ∀ (nn : Nat) (j : Int) (T1 : Zt), ((32 - j).toNat) ≤ nn → (fr_ [(435, [])] T T1) → (0 ≤ j ∧ j ≤ 32) → (oi_ T T1 p) → (∀ q, 0 ≤ q → q < j → T1 435 p q = v) → J_ zJ7_fill_53178 T (po_J7_fill_435 T p v) 0 0 5 [some (vR 435 p), some (vI v), some (vI j), some (vI 32)] [] T1 := by
    intro nn
    induction nn using Nat.strongRecOn with
    | _ nn ih_5 =>
      intro j T1 hm_5 hf_5 i1 o1 f1
      replace hm_5 := fun (_ : Unit) => hm_5
      refine j_blx (F := fJ7) tb_J7 (nn_ _) bk_J7_fill_53178_5 bs_J7_fill_53178_5 hz (fun K hK => ?_)
      refine And.intro (fun c1 => ?_) (fun c1 => ?_)
      · refine hK 20 _ [] T1 ?_
        refine j_blx (F := fJ7) tb_J7 (nn_ _) bk_J7_fill_53178_20 bs_J7_fill_53178_20 hz (fun K hK => ?_)
        refine (show po_J7_fill_435 T p v T1 (none) from ?_)
        exact ⟨rfl, fr_t (fr_0 _ _) (fr_s hf_5 rfl), o1, fun q a b => f1 q a (by omega)⟩
      · refine iy_i (by omega) (by omega) ?_
        refine x_nm (fun U2 hU2 => ?_)
        have e3 := up_f hU2
        refine rg_i (by omega) ?_
        refine hK 5 [some (vR 435 p), some (vI v), some (vI (j + 1)), some (vI 32)] [] U2 ?_
        refine ih_5 _ ?_ (j + 1) U2 (Nat.le_refl _) ?_ ?_ ?_ ?_
        · have hm_5 := hm_5 (); omega
        · exact fr_u (fr_t (fr_0 _ _) (fr_s hf_5 rfl)) hU2 rfl
        · omega
        · exact oi_u o1 hU2
        · intro q a b
          by_cases z : q = j
          · rw [z]; exact up_f hU2
          · rw [up_g hU2 (fun y => z y.2.2)]; exact f1 q a (by omega)
  refine j_blx (F := fJ7) tb_J7 (nn_ _) bk_J7_fill_53178_0 bs_J7_fill_53178_0 hz (fun K hK => ?_)
  refine hK 5 [some (vR 435 p), some (vI v), some (vI 0), some (vI 32)] [] T ?_
  refine c_5 _ 0 T (Nat.le_refl _) ?_ ?_ ?_ ?_
  · exact fr_0 _ _
  · omega
  · exact oi_r
  · intro q a b; omega
abbrev cX2_phaseOfLife : ByteArray := prog_4_method_2_code
def yX2_phaseOfLife : MethodName := ⟨RX2, "phaseOfLife", "()I"⟩
def zX2_phaseOfLife : Zm := (RX2, cX2_phaseOfLife, 1, (some .int), { frames := 0, cells := 0, slots := 0, locals := 0 })
theorem bk_X2_phaseOfLife_0 : ck_ fX2 (some .int) cX2_phaseOfLife 0 [.aload 0, .tableswitch 0 2 6 #[], .iconst (-1), .if_icmp .eq 10, .iconst 3, .ireturn] 10 = true := qck_r (nn_ _) (by decide +kernel)
theorem bs_X2_phaseOfLife_0 {P : Zt → Option Zv → Prop} (K : Int → Zl → List Zv → Zt → Prop) : sx_ K P [.aload 0, .tableswitch 0 2 6 #[], .iconst (-1), .if_icmp .eq 10, .iconst 3, .ireturn] 10 = x_aload 0 (x_g0 102 6 (-1) 1 (x_iconst (-1) (x_if_icmp .eq 10 K (x_iconst 3 (x_ireturn P))))) := ((xe_aload 0).trans (congrArg (x_aload 0) ((xe_g0 (kk := 102) rfl tl_2_6).trans (congrArg (x_g0 102 6 (-1) 1) ((xe_iconst (-1)).trans (congrArg (x_iconst (-1)) ((xe_if_icmp .eq 10).trans (congrArg (x_if_icmp .eq 10 K) ((xe_iconst 3).trans (congrArg (x_iconst 3) (xe_ireturn)))))))))))
theorem bk_X2_phaseOfLife_10 : ck_ fX2 (some .int) cX2_phaseOfLife 10 [.aload 0, .tableswitch 0 2 10 #[], .ifnonnull 19, .iconst 0, .ireturn] 19 = true := qck_r (nn_ _) (by decide +kernel)
theorem bs_X2_phaseOfLife_10 {P : Zt → Option Zv → Prop} (K : Int → Zl → List Zv → Zt → Prop) : sx_ K P [.aload 0, .tableswitch 0 2 10 #[], .ifnonnull 19, .iconst 0, .ireturn] 19 = x_aload 0 (x_g4 102 103 10 (x_ifnonnull 19 K (x_iconst 0 (x_ireturn P)))) := ((xe_aload 0).trans (congrArg (x_aload 0) ((xe_g4 (kk := 102) rfl tl_2_10).trans (congrArg (x_g4 102 103 10) ((xe_ifnonnull 19).trans (congrArg (x_ifnonnull 19 K) ((xe_iconst 0).trans (congrArg (x_iconst 0) (xe_ireturn)))))))))
theorem bk_X2_phaseOfLife_19 : ck_ fX2 (some .int) cX2_phaseOfLife 19 [.aload 0, .tableswitch 0 2 10 #[], .tableswitch 0 3 3 #[], .ifCond .eq 33, .iconst 2, .goto 34] 33 = true := qck_r (nn_ _) (by decide +kernel)
theorem bs_X2_phaseOfLife_19 {P : Zt → Option Zv → Prop} (K : Int → Zl → List Zv → Zt → Prop) : sx_ K P [.aload 0, .tableswitch 0 2 10 #[], .tableswitch 0 3 3 #[], .ifCond .eq 33, .iconst 2, .goto 34] 33 = x_aload 0 (x_g4 102 103 10 (x_g0 103 3 0 1 (x_ifCond .eq 33 K (x_iconst 2 (x_goto 34 K))))) := ((xe_aload 0).trans (congrArg (x_aload 0) ((xe_g4 (kk := 102) rfl tl_2_10).trans (congrArg (x_g4 102 103 10) ((xe_g0 (kk := 103) rfl tl_3_3).trans (congrArg (x_g0 103 3 0 1) ((xe_ifCond .eq 33).trans (congrArg (x_ifCond .eq 33 K) ((xe_iconst 2).trans (congrArg (x_iconst 2) (xe_goto 34)))))))))))
theorem bk_X2_phaseOfLife_33 : ck_ fX2 (some .int) cX2_phaseOfLife 33 [.iconst 1, .ireturn] 35 = true := qck_r (nn_ _) (by decide +kernel)
theorem bs_X2_phaseOfLife_33 {P : Zt → Option Zv → Prop} (K : Int → Zl → List Zv → Zt → Prop) : sx_ K P [.iconst 1, .ireturn] 35 = x_iconst 1 (x_ireturn P) := ((xe_iconst 1).trans (congrArg (x_iconst 1) (xe_ireturn)))
theorem bk_X2_phaseOfLife_34 : ck_ fX2 (some .int) cX2_phaseOfLife 34 [.ireturn] 35 = true := qck_r (nn_ _) (by decide +kernel)
theorem bs_X2_phaseOfLife_34 {P : Zt → Option Zv → Prop} (K : Int → Zl → List Zv → Zt → Prop) : sx_ K P [.ireturn] 35 = x_ireturn P := (xe_ireturn)
abbrev po_X2_phaseOfLife (T : Zt) (p : Int) : Zt → Option Zv → Prop := fun T' r => T = T' ∧ ∃ x : Int, r = some (vI x) ∧ (0 ≤ x ∧ x ≤ 3 ∧ (x = 3 ↔ T 102 p 6 ≠ -1) ∧ (x = 0 ↔ T 102 p 6 = -1 ∧ T 102 p 10 = 0))
set_option maxHeartbeats 4000000 in
theorem ct_X2_phaseOfLife {T : Zt} {p : Int} : Ct_ yX2_phaseOfLife zX2_phaseOfLife T [vR 102 p] (po_X2_phaseOfLife T p) := by
  refine ct_of pn_2 rfl rfl (Nat.le_of_ble_eq_true rfl) (fun hT hav => ?_)
  have hz : zX2_phaseOfLife.2.2.2.1 = some .boolean → ∀ (T' : Zt) (x : Int), po_X2_phaseOfLife T p T' (some (vI x)) → 0 ≤ x ∧ x ≤ 1 := fun h => by cases h
  show J_ zX2_phaseOfLife T (po_X2_phaseOfLife T p) 0 0 0 [some (vR 102 p)] [] T
  refine j_blx (F := fX2) tb_X2 (nn_ _) bk_X2_phaseOfLife_0 bs_X2_phaseOfLife_0 hz (fun K hK => ?_)
  intro b1 b1b
  refine And.intro (fun c2 => ?_) (fun c2 => ?_)
  · refine hK 10 _ [] T ?_
    refine j_blx (F := fX2) tb_X2 (nn_ _) bk_X2_phaseOfLife_10 bs_X2_phaseOfLife_10 hz (fun K hK => ?_)
    refine And.intro (fun c3 => ?_) (fun c3 => ?_)
    · refine (show po_X2_phaseOfLife T p T (some (vI 0)) from ?_)
      exact ⟨rfl, _, rfl, by omega⟩
    · refine hK 19 _ [] T ?_
      refine j_blx (F := fX2) tb_X2 (nn_ _) bk_X2_phaseOfLife_19 bs_X2_phaseOfLife_19 hz (fun K hK => ?_)
      refine And.intro (fun c4 => ?_) (fun c4 => ?_)
      · exact absurd c4 (by omega)
      · intro b5 b5b
        refine And.intro (fun c6 => ?_) (fun c6 => ?_)
        · refine hK 33 _ [] T ?_
          refine j_blx (F := fX2) tb_X2 (nn_ _) bk_X2_phaseOfLife_33 bs_X2_phaseOfLife_33 hz (fun K hK => ?_)
          refine (show po_X2_phaseOfLife T p T (some (vI 1)) from ?_)
          exact ⟨rfl, _, rfl, by omega⟩
        · refine hK 34 _ [vI 2] T ?_
          refine j_blx (F := fX2) tb_X2 (nn_ _) bk_X2_phaseOfLife_34 bs_X2_phaseOfLife_34 hz (fun K hK => ?_)
          refine (show po_X2_phaseOfLife T p T (some (vI 2)) from ?_)
          exact ⟨rfl, _, rfl, by omega⟩
  · refine (show po_X2_phaseOfLife T p T (some (vI 3)) from ?_)
    exact ⟨rfl, _, rfl, by omega⟩
abbrev cX2_isDecided : ByteArray := prog_4_method_3_code
def yX2_isDecided : MethodName := ⟨RX2, "isDecided", "()Z"⟩
def zX2_isDecided : Zm := (RX2, cX2_isDecided, 1, (some .boolean), { frames := 1, cells := 0, slots := 0, locals := 20 })
theorem bk_X2_isDecided_0 : ck_ fX2 (some .boolean) cX2_isDecided 0 [.aload 0] 1 = true := qck_r (nn_ _) (by decide +kernel)
theorem bs_X2_isDecided_0 {P : Zt → Option Zv → Prop} (K : Int → Zl → List Zv → Zt → Prop) : sx_ K P [.aload 0] 1 = x_aload 0 (K 1) := ((xe_aload 0).trans (congrArg (x_aload 0) xe_nil))
set_option maxRecDepth 100000 in
theorem cl_X2_54 : cv_ RX2 54 yX2_phaseOfLife zX2_phaseOfLife 2 0 := ⟨gi_V (lwq_4 (dqc_m (dqc_m (dqc_m (dqc_m (dqa_m (dqa_m (dqa_m (List.mem_of_getElem? (i := 6) rfl)))))))) rfl : Cond.methodLink RX2 54 yX2_phaseOfLife ∈ lw_g) (lwq_4 (dqc_m (dqa_m (dqa_m (dqa_m (List.mem_of_getElem? (i := 2) rfl))))) rfl : Cond.instanceMethod yX2_phaseOfLife ∈ lw_g) (lwq_4 (dqc_m (dqa_m (dqa_m (dqa_m (List.mem_of_getElem? (i := 3) rfl))))) rfl : Cond.selects yX2_phaseOfLife.cls yX2_phaseOfLife yX2_phaseOfLife ∈ lw_g) (lwq_1 (dqa_m (dqa_m (List.mem_of_getElem? (i := 0) rfl))) rfl : Cond.initialized yX2_phaseOfLife.cls ∈ lw_g) (lwq_4 (dqc_m (dqa_m (dqa_m (dqa_m (List.mem_of_getElem? (i := 4) rfl))))) rfl : Cond.code yX2_phaseOfLife cX2_phaseOfLife 1 (some .int) ∈ lw_g), ⟨nmh_10.1, nmh_10.2, pdq_17⟩, ⟨_, _, rfl⟩⟩
theorem bk_X2_isDecided_4 : ck_ fX2 (some .boolean) cX2_isDecided 4 [.iconst 2, .if_icmp .lt 12, .iconst 1, .goto 13] 12 = true := qck_r (nn_ _) (by decide +kernel)
theorem bs_X2_isDecided_4 {P : Zt → Option Zv → Prop} (K : Int → Zl → List Zv → Zt → Prop) : sx_ K P [.iconst 2, .if_icmp .lt 12, .iconst 1, .goto 13] 12 = x_iconst 2 (x_if_icmp .lt 12 K (x_iconst 1 (x_goto 13 K))) := ((xe_iconst 2).trans (congrArg (x_iconst 2) ((xe_if_icmp .lt 12).trans (congrArg (x_if_icmp .lt 12 K) ((xe_iconst 1).trans (congrArg (x_iconst 1) (xe_goto 13)))))))
theorem bk_X2_isDecided_12 : ck_ fX2 (some .boolean) cX2_isDecided 12 [.iconst 0, .ireturn] 14 = true := qck_r (nn_ _) (by decide +kernel)
theorem bs_X2_isDecided_12 {P : Zt → Option Zv → Prop} (K : Int → Zl → List Zv → Zt → Prop) : sx_ K P [.iconst 0, .ireturn] 14 = x_iconst 0 (x_ireturn P) := ((xe_iconst 0).trans (congrArg (x_iconst 0) (xe_ireturn)))
theorem bk_X2_isDecided_13 : ck_ fX2 (some .boolean) cX2_isDecided 13 [.ireturn] 14 = true := qck_r (nn_ _) (by decide +kernel)
theorem bs_X2_isDecided_13 {P : Zt → Option Zv → Prop} (K : Int → Zl → List Zv → Zt → Prop) : sx_ K P [.ireturn] 14 = x_ireturn P := (xe_ireturn)
abbrev po_X2_isDecided (T : Zt) (p : Int) : Zt → Option Zv → Prop := fun T' r => T = T' ∧ ∃ x : Int, r = some (vI x) ∧ (0 ≤ x ∧ x ≤ 1)
set_option maxHeartbeats 4000000 in
theorem ct_X2_isDecided {T : Zt} {p : Int} : Ct_ yX2_isDecided zX2_isDecided T [vR 102 p] (po_X2_isDecided T p) := by
  refine ct_of pn_2 rfl rfl (Nat.le_of_ble_eq_true rfl) (fun hT hav => ?_)
  have hz : zX2_isDecided.2.2.2.1 = some .boolean → ∀ (T' : Zt) (x : Int), po_X2_isDecided T p T' (some (vI x)) → 0 ≤ x ∧ x ≤ 1 := fun _ T' x h => by obtain ⟨-, y, e, hy⟩ := h; cases e; omega
  show J_ zX2_isDecided T (po_X2_isDecided T p) 0 0 0 [some (vR 102 p)] [] T
  refine j_blx (F := fX2) tb_X2 (nn_ _) bk_X2_isDecided_0 bs_X2_isDecided_0 hz (fun K hK => ?_)
  refine hK 1 _ [vR 102 p] T ?_
  refine j_callV (y := yX2_phaseOfLife) (Yc := zX2_phaseOfLife) (rest := []) [] (ct_X2_phaseOfLife (T := T)) cl_X2_54 (qd_c (by decide +kernel)) (nn_ _) rfl (rf_of rfl) (Nat.le_of_ble_eq_true rfl) (Nat.le_of_ble_eq_true rfl) (Nat.le_of_ble_eq_true rfl) rfl ?_
  rintro _ _ ⟨rfl, x1, rfl, hx1⟩
  show J_ zX2_isDecided T (po_X2_isDecided T p) 0 0 4 _ [vI x1] T
  refine j_blx (F := fX2) tb_X2 (nn_ _) bk_X2_isDecided_4 bs_X2_isDecided_4 hz (fun K hK => ?_)
  refine And.intro (fun c2 => ?_) (fun c2 => ?_)
  · refine hK 12 _ [] T ?_
    refine j_blx (F := fX2) tb_X2 (nn_ _) bk_X2_isDecided_12 bs_X2_isDecided_12 hz (fun K hK => ?_)
    refine (show po_X2_isDecided T p T (some (vI 0)) from ?_)
    exact ⟨rfl, _, rfl, by omega⟩
  · refine hK 13 _ [vI 1] T ?_
    refine j_blx (F := fX2) tb_X2 (nn_ _) bk_X2_isDecided_13 bs_X2_isDecided_13 hz (fun K hK => ?_)
    refine (show po_X2_isDecided T p T (some (vI 1)) from ?_)
    exact ⟨rfl, _, rfl, by omega⟩
abbrev cX2_scoreOf : ByteArray := prog_4_method_4_code
def yX2_scoreOf : MethodName := ⟨RX2, "scoreOf", "(I)I"⟩
def zX2_scoreOf : Zm := (RX2, cX2_scoreOf, 2, (some .int), { frames := 0, cells := 0, slots := 0, locals := 0 })
theorem bk_X2_scoreOf_0 : ck_ fX2 (some .int) cX2_scoreOf 0 [.aload 0, .tableswitch 0 2 6 #[], .iconst (-1), .if_icmp .eq 31, .iload 1, .aload 0, .tableswitch 0 2 6 #[], .if_icmp .ne 20, .iconst 0, .goto 30] 20 = true := qck_r (nn_ _) (by decide +kernel)
theorem bs_X2_scoreOf_0 {P : Zt → Option Zv → Prop} (K : Int → Zl → List Zv → Zt → Prop) : sx_ K P [.aload 0, .tableswitch 0 2 6 #[], .iconst (-1), .if_icmp .eq 31, .iload 1, .aload 0, .tableswitch 0 2 6 #[], .if_icmp .ne 20, .iconst 0, .goto 30] 20 = x_aload 0 (x_g0 102 6 (-1) 1 (x_iconst (-1) (x_if_icmp .eq 31 K (x_iload 1 (x_aload 0 (x_g0 102 6 (-1) 1 (x_if_icmp .ne 20 K (x_iconst 0 (x_goto 30 K))))))))) := ((xe_aload 0).trans (congrArg (x_aload 0) ((xe_g0 (kk := 102) rfl tl_2_6).trans (congrArg (x_g0 102 6 (-1) 1) ((xe_iconst (-1)).trans (congrArg (x_iconst (-1)) ((xe_if_icmp .eq 31).trans (congrArg (x_if_icmp .eq 31 K) ((xe_iload 1).trans (congrArg (x_iload 1) ((xe_aload 0).trans (congrArg (x_aload 0) ((xe_g0 (kk := 102) rfl tl_2_6).trans (congrArg (x_g0 102 6 (-1) 1) ((xe_if_icmp .ne 20).trans (congrArg (x_if_icmp .ne 20 K) ((xe_iconst 0).trans (congrArg (x_iconst 0) (xe_goto 30)))))))))))))))))))
theorem bk_X2_scoreOf_31 : ck_ fX2 (some .int) cX2_scoreOf 31 [.aload 0, .tableswitch 0 2 10 #[], .ifnonnull 42, .iconst 0, .goto 51] 42 = true := qck_r (nn_ _) (by decide +kernel)
theorem bs_X2_scoreOf_31 {P : Zt → Option Zv → Prop} (K : Int → Zl → List Zv → Zt → Prop) : sx_ K P [.aload 0, .tableswitch 0 2 10 #[], .ifnonnull 42, .iconst 0, .goto 51] 42 = x_aload 0 (x_g4 102 103 10 (x_ifnonnull 42 K (x_iconst 0 (x_goto 51 K)))) := ((xe_aload 0).trans (congrArg (x_aload 0) ((xe_g4 (kk := 102) rfl tl_2_10).trans (congrArg (x_g4 102 103 10) ((xe_ifnonnull 42).trans (congrArg (x_ifnonnull 42 K) ((xe_iconst 0).trans (congrArg (x_iconst 0) (xe_goto 51)))))))))
theorem bk_X2_scoreOf_51 : ck_ fX2 (some .int) cX2_scoreOf 51 [.ireturn] 52 = true := qck_r (nn_ _) (by decide +kernel)
theorem bs_X2_scoreOf_51 {P : Zt → Option Zv → Prop} (K : Int → Zl → List Zv → Zt → Prop) : sx_ K P [.ireturn] 52 = x_ireturn P := (xe_ireturn)
theorem bk_X2_scoreOf_42 : ck_ fX2 (some .int) cX2_scoreOf 42 [.aload 0, .tableswitch 0 2 10 #[], .tableswitch 0 3 8 #[], .iload 1, .iaload, .ireturn] 52 = true := qck_r (nn_ _) (by decide +kernel)
theorem bs_X2_scoreOf_42 {P : Zt → Option Zv → Prop} (K : Int → Zl → List Zv → Zt → Prop) : sx_ K P [.aload 0, .tableswitch 0 2 10 #[], .tableswitch 0 3 8 #[], .iload 1, .iaload, .ireturn] 52 = x_aload 0 (x_g4 102 103 10 (x_g2 103 468 (x_iload 1 (x_iaload (x_ireturn P))))) := ((xe_aload 0).trans (congrArg (x_aload 0) ((xe_g4 (kk := 102) rfl tl_2_10).trans (congrArg (x_g4 102 103 10) ((xe_g2 (kk := 103) rfl tl_3_8).trans (congrArg (x_g2 103 468) ((xe_iload 1).trans (congrArg (x_iload 1) ((xe_iaload).trans (congrArg (x_iaload) (xe_ireturn)))))))))))
theorem bk_X2_scoreOf_20 : ck_ fX2 (some .int) cX2_scoreOf 20 [.aload 0, .tableswitch 0 2 0 #[], .tableswitch 0 0 1 #[], .iconst 12, .iaload, .ireturn] 31 = true := qck_r (nn_ _) (by decide +kernel)
theorem bs_X2_scoreOf_20 {P : Zt → Option Zv → Prop} (K : Int → Zl → List Zv → Zt → Prop) : sx_ K P [.aload 0, .tableswitch 0 2 0 #[], .tableswitch 0 0 1 #[], .iconst 12, .iaload, .ireturn] 31 = x_aload 0 (x_g3 102 100 0 (x_g2 100 401 (x_iconst 12 (x_iaload (x_ireturn P))))) := ((xe_aload 0).trans (congrArg (x_aload 0) ((xe_g3 (kk := 102) rfl tl_2_0).trans (congrArg (x_g3 102 100 0) ((xe_g2 (kk := 100) rfl tl_0_1).trans (congrArg (x_g2 100 401) ((xe_iconst 12).trans (congrArg (x_iconst 12) ((xe_iaload).trans (congrArg (x_iaload) (xe_ireturn)))))))))))
theorem bk_X2_scoreOf_30 : ck_ fX2 (some .int) cX2_scoreOf 30 [.ireturn] 31 = true := qck_r (nn_ _) (by decide +kernel)
theorem bs_X2_scoreOf_30 {P : Zt → Option Zv → Prop} (K : Int → Zl → List Zv → Zt → Prop) : sx_ K P [.ireturn] 31 = x_ireturn P := (xe_ireturn)
abbrev po_X2_scoreOf (T : Zt) (p : Int) (s : Int) : Zt → Option Zv → Prop := fun T' r => T = T' ∧ ∃ x : Int, r = some (vI x) ∧ (0 = (0 : Int))
set_option maxHeartbeats 4000000 in
theorem ct_X2_scoreOf {T : Zt} {p : Int} {s : Int} (h1 : 0 ≤ s ∧ s ≤ 1) : Ct_ yX2_scoreOf zX2_scoreOf T [vR 102 p, vI s] (po_X2_scoreOf T p s) := by
  refine ct_of pn_2 rfl rfl (Nat.le_of_ble_eq_true rfl) (fun hT hav => ?_)
  have hr_s : -2147483648 ≤ s ∧ s ≤ 2147483647 := hav (vI s) (List.mem_cons_of_mem _ List.mem_cons_self)
  have hz : zX2_scoreOf.2.2.2.1 = some .boolean → ∀ (T' : Zt) (x : Int), po_X2_scoreOf T p s T' (some (vI x)) → 0 ≤ x ∧ x ≤ 1 := fun h => by cases h
  show J_ zX2_scoreOf T (po_X2_scoreOf T p s) 0 0 0 [some (vR 102 p), some (vI s)] [] T
  refine j_blx (F := fX2) tb_X2 (nn_ _) bk_X2_scoreOf_0 bs_X2_scoreOf_0 hz (fun K hK => ?_)
  intro b1 b1b
  refine And.intro (fun c2 => ?_) (fun c2 => ?_)
  · refine hK 31 _ [] T ?_
    refine j_blx (F := fX2) tb_X2 (nn_ _) bk_X2_scoreOf_31 bs_X2_scoreOf_31 hz (fun K hK => ?_)
    refine And.intro (fun c3 => ?_) (fun c3 => ?_)
    · refine hK 51 _ [vI 0] T ?_
      refine j_blx (F := fX2) tb_X2 (nn_ _) bk_X2_scoreOf_51 bs_X2_scoreOf_51 hz (fun K hK => ?_)
      refine (show po_X2_scoreOf T p s T (some (vI 0)) from ?_)
      exact ⟨rfl, _, rfl, by rfl⟩
    · refine hK 42 _ [] T ?_
      refine j_blx (F := fX2) tb_X2 (nn_ _) bk_X2_scoreOf_42 bs_X2_scoreOf_42 hz (fun K hK => ?_)
      refine And.intro (fun c4 => ?_) (fun c4 => ?_)
      · exact absurd c4 (by omega)
      · refine ix_i (by omega) ?_
        intro b5 b5b
        refine (show po_X2_scoreOf T p s T (some (vI (T 468 p s))) from ?_)
        exact ⟨rfl, _, rfl, by rfl⟩
  · intro b6 b6b
    refine And.intro (fun c7 => ?_) (fun c7 => ?_)
    · refine hK 20 _ [] T ?_
      refine j_blx (F := fX2) tb_X2 (nn_ _) bk_X2_scoreOf_20 bs_X2_scoreOf_20 hz (fun K hK => ?_)
      refine ix_i (by omega) ?_
      intro b9 b9b
      refine (show po_X2_scoreOf T p s T (some (vI (T 401 (T 102 p 0) 12))) from ?_)
      exact ⟨rfl, _, rfl, by rfl⟩
    · refine hK 30 _ [vI 0] T ?_
      refine j_blx (F := fX2) tb_X2 (nn_ _) bk_X2_scoreOf_30 bs_X2_scoreOf_30 hz (fun K hK => ?_)
      refine (show po_X2_scoreOf T p s T (some (vI 0)) from ?_)
      exact ⟨rfl, _, rfl, by rfl⟩
abbrev cX2_has : ByteArray := prog_4_method_5_code
def yX2_has : MethodName := ⟨RX2, "has", "(I)Z"⟩
def zX2_has : Zm := (RX2, cX2_has, 2, (some .boolean), { frames := 0, cells := 0, slots := 0, locals := 0 })
theorem bk_X2_has_0 : ck_ fX2 (some .boolean) cX2_has 0 [.aload 0, .tableswitch 0 2 3 #[], .iload 1, .if_icmp .eq 16, .aload 0, .tableswitch 0 2 4 #[], .iload 1, .if_icmp .ne 20, .iconst 1, .goto 21] 20 = true := qck_r (nn_ _) (by decide +kernel)
theorem bs_X2_has_0 {P : Zt → Option Zv → Prop} (K : Int → Zl → List Zv → Zt → Prop) : sx_ K P [.aload 0, .tableswitch 0 2 3 #[], .iload 1, .if_icmp .eq 16, .aload 0, .tableswitch 0 2 4 #[], .iload 1, .if_icmp .ne 20, .iconst 1, .goto 21] 20 = x_aload 0 (x_g0 102 3 0 11 (x_iload 1 (x_if_icmp .eq 16 K (x_aload 0 (x_g0 102 4 0 11 (x_iload 1 (x_if_icmp .ne 20 K (x_iconst 1 (x_goto 21 K))))))))) := ((xe_aload 0).trans (congrArg (x_aload 0) ((xe_g0 (kk := 102) rfl tl_2_3).trans (congrArg (x_g0 102 3 0 11) ((xe_iload 1).trans (congrArg (x_iload 1) ((xe_if_icmp .eq 16).trans (congrArg (x_if_icmp .eq 16 K) ((xe_aload 0).trans (congrArg (x_aload 0) ((xe_g0 (kk := 102) rfl tl_2_4).trans (congrArg (x_g0 102 4 0 11) ((xe_iload 1).trans (congrArg (x_iload 1) ((xe_if_icmp .ne 20).trans (congrArg (x_if_icmp .ne 20 K) ((xe_iconst 1).trans (congrArg (x_iconst 1) (xe_goto 21)))))))))))))))))))
theorem bk_X2_has_16 : ck_ fX2 (some .boolean) cX2_has 16 [.iconst 1, .goto 21] 20 = true := qck_r (nn_ _) (by decide +kernel)
theorem bs_X2_has_16 {P : Zt → Option Zv → Prop} (K : Int → Zl → List Zv → Zt → Prop) : sx_ K P [.iconst 1, .goto 21] 20 = x_iconst 1 (x_goto 21 K) := ((xe_iconst 1).trans (congrArg (x_iconst 1) (xe_goto 21)))
theorem bk_X2_has_21 : ck_ fX2 (some .boolean) cX2_has 21 [.ireturn] 22 = true := qck_r (nn_ _) (by decide +kernel)
theorem bs_X2_has_21 {P : Zt → Option Zv → Prop} (K : Int → Zl → List Zv → Zt → Prop) : sx_ K P [.ireturn] 22 = x_ireturn P := (xe_ireturn)
theorem bk_X2_has_20 : ck_ fX2 (some .boolean) cX2_has 20 [.iconst 0, .ireturn] 22 = true := qck_r (nn_ _) (by decide +kernel)
theorem bs_X2_has_20 {P : Zt → Option Zv → Prop} (K : Int → Zl → List Zv → Zt → Prop) : sx_ K P [.iconst 0, .ireturn] 22 = x_iconst 0 (x_ireturn P) := ((xe_iconst 0).trans (congrArg (x_iconst 0) (xe_ireturn)))
abbrev po_X2_has (T : Zt) (p : Int) (c : Int) : Zt → Option Zv → Prop := fun T' r => T = T' ∧ ∃ x : Int, r = some (vI x) ∧ (0 ≤ x ∧ x ≤ 1)
set_option maxHeartbeats 4000000 in
theorem ct_X2_has {T : Zt} {p : Int} {c : Int} : Ct_ yX2_has zX2_has T [vR 102 p, vI c] (po_X2_has T p c) := by
  refine ct_of pn_2 rfl rfl (Nat.le_of_ble_eq_true rfl) (fun hT hav => ?_)
  have hr_c : -2147483648 ≤ c ∧ c ≤ 2147483647 := hav (vI c) (List.mem_cons_of_mem _ List.mem_cons_self)
  have hz : zX2_has.2.2.2.1 = some .boolean → ∀ (T' : Zt) (x : Int), po_X2_has T p c T' (some (vI x)) → 0 ≤ x ∧ x ≤ 1 := fun _ T' x h => by obtain ⟨-, y, e, hy⟩ := h; cases e; omega
  show J_ zX2_has T (po_X2_has T p c) 0 0 0 [some (vR 102 p), some (vI c)] [] T
  refine j_blx (F := fX2) tb_X2 (nn_ _) bk_X2_has_0 bs_X2_has_0 hz (fun K hK => ?_)
  intro b1 b1b
  refine And.intro (fun c2 => ?_) (fun c2 => ?_)
  · refine hK 16 _ [] T ?_
    refine j_blx (F := fX2) tb_X2 (nn_ _) bk_X2_has_16 bs_X2_has_16 hz (fun K hK => ?_)
    refine hK 21 _ [vI 1] T ?_
    refine j_blx (F := fX2) tb_X2 (nn_ _) bk_X2_has_21 bs_X2_has_21 hz (fun K hK => ?_)
    refine (show po_X2_has T p c T (some (vI 1)) from ?_)
    exact ⟨rfl, _, rfl, by omega⟩
  · intro b3 b3b
    refine And.intro (fun c4 => ?_) (fun c4 => ?_)
    · refine hK 20 _ [] T ?_
      refine j_blx (F := fX2) tb_X2 (nn_ _) bk_X2_has_20 bs_X2_has_20 hz (fun K hK => ?_)
      refine (show po_X2_has T p c T (some (vI 0)) from ?_)
      exact ⟨rfl, _, rfl, by omega⟩
    · refine hK 21 _ [vI 1] T ?_
      refine j_blx (F := fX2) tb_X2 (nn_ _) bk_X2_has_21 bs_X2_has_21 hz (fun K hK => ?_)
      refine (show po_X2_has T p c T (some (vI 1)) from ?_)
      exact ⟨rfl, _, rfl, by omega⟩
abbrev cX2_hasEnoughListed : ByteArray := prog_4_method_6_code
def yX2_hasEnoughListed : MethodName := ⟨RX2, "hasEnoughListed", "()Z"⟩
def zX2_hasEnoughListed : Zm := (RX2, cX2_hasEnoughListed, 1, (some .boolean), { frames := 0, cells := 0, slots := 0, locals := 0 })
abbrev cX2_rest : ByteArray := prog_4_method_7_code
def yX2_rest : MethodName := ⟨RX2, "rest", "()I"⟩
def zX2_rest : Zm := (RX2, cX2_rest, 1, (some .int), { frames := 0, cells := 0, slots := 0, locals := 0 })
abbrev cX2_placeOf : ByteArray := prog_4_method_8_code
def yX2_placeOf : MethodName := ⟨RX2, "placeOf", "(I)I"⟩
def zX2_placeOf : Zm := (RX2, cX2_placeOf, 4, (some .int), { frames := 0, cells := 0, slots := 0, locals := 0 })
abbrev cX3_isSentOff : ByteArray := prog_5_method_4_code
def yX3_isSentOff : MethodName := ⟨RX3, "isSentOff", "(I)Z"⟩
def zX3_isSentOff : Zm := (RX3, cX3_isSentOff, 2, (some .boolean), { frames := 0, cells := 0, slots := 0, locals := 0 })
theorem bk_X3_isSentOff_0 : ck_ fX3 (some .boolean) cX3_isSentOff 0 [.aload 0, .tableswitch 0 3 12 #[], .iload 1, .iaload, .iconst 3, .if_icmp .ne 14, .iconst 1, .goto 15] 14 = true := qck_r (nn_ _) (by decide +kernel)
theorem bs_X3_isSentOff_0 {P : Zt → Option Zv → Prop} (K : Int → Zl → List Zv → Zt → Prop) : sx_ K P [.aload 0, .tableswitch 0 3 12 #[], .iload 1, .iaload, .iconst 3, .if_icmp .ne 14, .iconst 1, .goto 15] 14 = x_aload 0 (x_g2 103 472 (x_iload 1 (x_iaload (x_iconst 3 (x_if_icmp .ne 14 K (x_iconst 1 (x_goto 15 K))))))) := ((xe_aload 0).trans (congrArg (x_aload 0) ((xe_g2 (kk := 103) rfl tl_3_12).trans (congrArg (x_g2 103 472) ((xe_iload 1).trans (congrArg (x_iload 1) ((xe_iaload).trans (congrArg (x_iaload) ((xe_iconst 3).trans (congrArg (x_iconst 3) ((xe_if_icmp .ne 14).trans (congrArg (x_if_icmp .ne 14 K) ((xe_iconst 1).trans (congrArg (x_iconst 1) (xe_goto 15)))))))))))))))
theorem bk_X3_isSentOff_14 : ck_ fX3 (some .boolean) cX3_isSentOff 14 [.iconst 0, .ireturn] 16 = true := qck_r (nn_ _) (by decide +kernel)
theorem bs_X3_isSentOff_14 {P : Zt → Option Zv → Prop} (K : Int → Zl → List Zv → Zt → Prop) : sx_ K P [.iconst 0, .ireturn] 16 = x_iconst 0 (x_ireturn P) := ((xe_iconst 0).trans (congrArg (x_iconst 0) (xe_ireturn)))
theorem bk_X3_isSentOff_15 : ck_ fX3 (some .boolean) cX3_isSentOff 15 [.ireturn] 16 = true := qck_r (nn_ _) (by decide +kernel)
theorem bs_X3_isSentOff_15 {P : Zt → Option Zv → Prop} (K : Int → Zl → List Zv → Zt → Prop) : sx_ K P [.ireturn] 16 = x_ireturn P := (xe_ireturn)
abbrev po_X3_isSentOff (T : Zt) (p : Int) (k : Int) : Zt → Option Zv → Prop := fun T' r => T = T' ∧ ∃ x : Int, r = some (vI x) ∧ (0 ≤ x ∧ x ≤ 1)
set_option maxHeartbeats 4000000 in
theorem ct_X3_isSentOff {T : Zt} {p : Int} {k : Int} (h1 : 0 ≤ k ∧ k < 20) : Ct_ yX3_isSentOff zX3_isSentOff T [vR 103 p, vI k] (po_X3_isSentOff T p k) := by
  refine ct_of pn_3 rfl rfl (Nat.le_of_ble_eq_true rfl) (fun hT hav => ?_)
  have hr_k : -2147483648 ≤ k ∧ k ≤ 2147483647 := hav (vI k) (List.mem_cons_of_mem _ List.mem_cons_self)
  have hz : zX3_isSentOff.2.2.2.1 = some .boolean → ∀ (T' : Zt) (x : Int), po_X3_isSentOff T p k T' (some (vI x)) → 0 ≤ x ∧ x ≤ 1 := fun _ T' x h => by obtain ⟨-, y, e, hy⟩ := h; cases e; omega
  show J_ zX3_isSentOff T (po_X3_isSentOff T p k) 0 0 0 [some (vR 103 p), some (vI k)] [] T
  refine j_blx (F := fX3) tb_X3 (nn_ _) bk_X3_isSentOff_0 bs_X3_isSentOff_0 hz (fun K hK => ?_)
  refine ix_i (by omega) ?_
  intro b1 b1b
  refine And.intro (fun c2 => ?_) (fun c2 => ?_)
  · refine hK 14 _ [] T ?_
    refine j_blx (F := fX3) tb_X3 (nn_ _) bk_X3_isSentOff_14 bs_X3_isSentOff_14 hz (fun K hK => ?_)
    refine (show po_X3_isSentOff T p k T (some (vI 0)) from ?_)
    exact ⟨rfl, _, rfl, by omega⟩
  · refine hK 15 _ [vI 1] T ?_
    refine j_blx (F := fX3) tb_X3 (nn_ _) bk_X3_isSentOff_15 bs_X3_isSentOff_15 hz (fun K hK => ?_)
    refine (show po_X3_isSentOff T p k T (some (vI 1)) from ?_)
    exact ⟨rfl, _, rfl, by omega⟩
abbrev cX3_personAt : ByteArray := prog_5_method_3_code
def yX3_personAt : MethodName := ⟨RX3, "personAt", "(II)I"⟩
def zX3_personAt : Zm := (RX3, cX3_personAt, 3, (some .int), { frames := 0, cells := 0, slots := 0, locals := 0 })
abbrev cX3_isBounded : ByteArray := prog_5_method_7_code
def yX3_isBounded : MethodName := ⟨RX3, "isBounded", "(II)Z"⟩
def zX3_isBounded : Zm := (RX3, cX3_isBounded, 3, (some .boolean), { frames := 0, cells := 0, slots := 0, locals := 0 })
abbrev cX3_isAllowed : ByteArray := prog_5_method_8_code
def yX3_isAllowed : MethodName := ⟨RX3, "isAllowed", "(II)Z"⟩
def zX3_isAllowed : Zm := (RX3, cX3_isAllowed, 3, (some .boolean), { frames := 0, cells := 0, slots := 0, locals := 0 })
abbrev cX3_needsPerson : ByteArray := prog_5_method_9_code
def yX3_needsPerson : MethodName := ⟨RX3, "needsPerson", "(I)Z"⟩
def zX3_needsPerson : Zm := (RX3, cX3_needsPerson, 2, (some .boolean), { frames := 0, cells := 0, slots := 0, locals := 0 })
abbrev cX3_fieldPlace : ByteArray := prog_5_method_10_code
def yX3_fieldPlace : MethodName := ⟨RX3, "fieldPlace", "(II)I"⟩
def zX3_fieldPlace : Zm := (RX3, cX3_fieldPlace, 4, (some .int), { frames := 1, cells := 0, slots := 0, locals := 22 })
set_option maxRecDepth 100000 in
theorem cl_X3_92 : cv_ RX3 92 yX3_personAt zX3_personAt 3 2 := ⟨gi_V (lwq_5 (dqc_m (dqa_m (dqa_m (List.mem_of_getElem? (i := 0) rfl)))) rfl : Cond.methodLink RX3 92 yX3_personAt ∈ lw_g) (lwq_5 (dqc_m (dqa_m (dqa_m (List.mem_of_getElem? (i := 1) rfl)))) rfl : Cond.instanceMethod yX3_personAt ∈ lw_g) (lwq_5 (dqc_m (dqa_m (dqa_m (List.mem_of_getElem? (i := 2) rfl)))) rfl : Cond.selects yX3_personAt.cls yX3_personAt yX3_personAt ∈ lw_g) (lwq_1 (dqa_m (dqa_m (List.mem_of_getElem? (i := 2) rfl))) rfl : Cond.initialized yX3_personAt.cls ∈ lw_g) (lwq_5 (dqc_m (dqa_m (dqa_m (List.mem_of_getElem? (i := 3) rfl)))) rfl : Cond.code yX3_personAt cX3_personAt 3 (some .int) ∈ lw_g), ⟨nmh_3.1, nmh_3.2, pdq_4⟩, ⟨_, _, rfl⟩⟩
abbrev cX3_benchPlace : ByteArray := prog_5_method_11_code
def yX3_benchPlace : MethodName := ⟨RX3, "benchPlace", "(II)I"⟩
def zX3_benchPlace : Zm := (RX3, cX3_benchPlace, 5, (some .int), { frames := 0, cells := 0, slots := 0, locals := 0 })
abbrev cX3_isWon : ByteArray := prog_5_method_20_code
def yX3_isWon : MethodName := ⟨RX3, "isWon", "([III)Z"⟩
def zX3_isWon : Zm := (RX3, cX3_isWon, 3, (some .boolean), { frames := 0, cells := 0, slots := 0, locals := 0 })
abbrev cX3_closeGap : ByteArray := prog_5_method_17_code
def yX3_closeGap : MethodName := ⟨RX3, "closeGap", "(II)V"⟩
def zX3_closeGap : Zm := (RX3, cX3_closeGap, 4, none, { frames := 0, cells := 0, slots := 0, locals := 0 })
abbrev cX3_rotate : ByteArray := prog_5_method_19_code
def yX3_rotate : MethodName := ⟨RX3, "rotate", "(I)V"⟩
def zX3_rotate : Zm := (RX3, cX3_rotate, 3, none, { frames := 1, cells := 0, slots := 0, locals := 23 })
set_option maxRecDepth 100000 in
theorem cl_X3_119 : cv_ RX3 119 yX3_closeGap zX3_closeGap 3 2 := ⟨gi_V (lwq_5 (dqc_m (dqc_m (dqa_m (dqa_m (List.mem_of_getElem? (i := 0) rfl))))) rfl : Cond.methodLink RX3 119 yX3_closeGap ∈ lw_g) (lwq_5 (dqc_m (dqc_m (dqa_m (dqa_m (List.mem_of_getElem? (i := 2) rfl))))) rfl : Cond.instanceMethod yX3_closeGap ∈ lw_g) (lw_sel 84 rfl : Cond.selects yX3_closeGap.cls yX3_closeGap yX3_closeGap ∈ lw_g) (lwq_1 (dqa_m (dqa_m (List.mem_of_getElem? (i := 2) rfl))) rfl : Cond.initialized yX3_closeGap.cls ∈ lw_g) (lwq_5 (dqc_m (dqc_m (dqa_m (dqa_m (List.mem_of_getElem? (i := 3) rfl))))) rfl : Cond.code yX3_closeGap cX3_closeGap 4 none ∈ lw_g), ⟨nmh_3.1, nmh_3.2, pdq_0⟩, ⟨_, _, rfl⟩⟩
abbrev cX3_isLastInning : ByteArray := prog_5_method_26_code
def yX3_isLastInning : MethodName := ⟨RX3, "isLastInning", "()Z"⟩
def zX3_isLastInning : Zm := (RX3, cX3_isLastInning, 1, (some .boolean), { frames := 0, cells := 0, slots := 0, locals := 0 })
theorem fd_u {T T1 : Zt} {k : Nat} {p s v : Int} (e : T1 = up_ T k p s v) (hs : 0 ≤ s ∧ s ≤ 1) : (s = 0 ∧ T1 k p 0 = v ∧ T1 k p 1 = T k p 1) ∨ (s = 1 ∧ T1 k p 1 = v ∧ T1 k p 0 = T k p 0) := by
  rcases (by omega : s = 0 ∨ s = 1) with z | z
  · subst z; exact Or.inl ⟨rfl, up_f e, up_g e (by omega)⟩
  · subst z; exact Or.inr ⟨rfl, up_f e, up_g e (by omega)⟩
abbrev cX3_sendOff : ByteArray := prog_5_method_16_code
def yX3_sendOff : MethodName := ⟨RX3, "sendOff", "(II)V"⟩
def zX3_sendOff : Zm := (RX3, cX3_sendOff, 3, none, { frames := 1, cells := 0, slots := 0, locals := 23 })
abbrev cX3_showYellow : ByteArray := prog_5_method_15_code
def yX3_showYellow : MethodName := ⟨RX3, "showYellow", "(II)V"⟩
def zX3_showYellow : Zm := (RX3, cX3_showYellow, 4, none, { frames := 2, cells := 0, slots := 0, locals := 45 })
set_option maxRecDepth 100000 in
theorem cl_X3_116 : cv_ RX3 116 yX3_sendOff zX3_sendOff 3 2 := ⟨gi_V (lwq_5 (dqc_m (dqc_m (dqa_m (List.mem_of_getElem? (i := 4) rfl)))) rfl : Cond.methodLink RX3 116 yX3_sendOff ∈ lw_g) (lwq_5 (dqc_m (dqc_m (dqa_m (List.mem_of_getElem? (i := 6) rfl)))) rfl : Cond.instanceMethod yX3_sendOff ∈ lw_g) (lw_sel 99 rfl : Cond.selects yX3_sendOff.cls yX3_sendOff yX3_sendOff ∈ lw_g) (lwq_1 (dqa_m (dqa_m (List.mem_of_getElem? (i := 2) rfl))) rfl : Cond.initialized yX3_sendOff.cls ∈ lw_g) (lwq_5 (dqc_m (dqc_m (dqa_m (List.mem_of_getElem? (i := 7) rfl)))) rfl : Cond.code yX3_sendOff cX3_sendOff 3 none ∈ lw_g), ⟨nmh_3.1, nmh_3.2, pdq_0⟩, ⟨_, _, rfl⟩⟩
abbrev cX3_substitute : ByteArray := prog_5_method_13_code
def yX3_substitute : MethodName := ⟨RX3, "substitute", "(III)V"⟩
def zX3_substitute : Zm := (RX3, cX3_substitute, 6, none, { frames := 2, cells := 0, slots := 0, locals := 45 })
set_option maxRecDepth 100000 in
theorem cl_X3_79 : cv_ RX3 79 yX3_fieldPlace zX3_fieldPlace 3 2 := ⟨gi_V (lwq_5 (dqc_m (dqa_m (List.mem_of_getElem? (i := 4) rfl))) rfl : Cond.methodLink RX3 79 yX3_fieldPlace ∈ lw_g) (lwq_5 (dqc_m (dqa_m (List.mem_of_getElem? (i := 6) rfl))) rfl : Cond.instanceMethod yX3_fieldPlace ∈ lw_g) (lw_sel 87 rfl : Cond.selects yX3_fieldPlace.cls yX3_fieldPlace yX3_fieldPlace ∈ lw_g) (lwq_1 (dqa_m (dqa_m (List.mem_of_getElem? (i := 2) rfl))) rfl : Cond.initialized yX3_fieldPlace.cls ∈ lw_g) (lwq_5 (dqc_m (dqa_m (List.mem_of_getElem? (i := 7) rfl))) rfl : Cond.code yX3_fieldPlace cX3_fieldPlace 4 (some .int) ∈ lw_g), ⟨nmh_3.1, nmh_3.2, pdq_4⟩, ⟨_, _, rfl⟩⟩
set_option maxRecDepth 100000 in
theorem cl_X3_83 : cv_ RX3 83 yX3_benchPlace zX3_benchPlace 3 2 := ⟨gi_V (lwq_5 (dqc_m (dqa_m (dqa_m (List.mem_of_getElem? (i := 4) rfl)))) rfl : Cond.methodLink RX3 83 yX3_benchPlace ∈ lw_g) (lwq_5 (dqc_m (dqa_m (dqa_m (List.mem_of_getElem? (i := 6) rfl)))) rfl : Cond.instanceMethod yX3_benchPlace ∈ lw_g) (lw_sel 83 rfl : Cond.selects yX3_benchPlace.cls yX3_benchPlace yX3_benchPlace ∈ lw_g) (lwq_1 (dqa_m (dqa_m (List.mem_of_getElem? (i := 2) rfl))) rfl : Cond.initialized yX3_benchPlace.cls ∈ lw_g) (lwq_5 (dqc_m (dqa_m (dqa_m (List.mem_of_getElem? (i := 7) rfl)))) rfl : Cond.code yX3_benchPlace cX3_benchPlace 5 (some .int) ∈ lw_g), ⟨nmh_3.1, nmh_3.2, pdq_4⟩, ⟨_, _, rfl⟩⟩
abbrev cX3_playFootball : ByteArray := prog_5_method_14_code
def yX3_playFootball : MethodName := ⟨RX3, "playFootball", "(III)V"⟩
def zX3_playFootball : Zm := (RX3, cX3_playFootball, 4, none, { frames := 3, cells := 0, slots := 0, locals := 68 })
theorem ds_X3_playFootball_1 : decode cX3_playFootball 1 = .ok (.tableswitch 87 1 4 #[31, 44, 59, 73], 31) := by decide +kernel
set_option maxRecDepth 100000 in
theorem cl_X3_113 : cv_ RX3 113 yX3_showYellow zX3_showYellow 3 2 := ⟨gi_V (lwq_5 (dqc_m (dqc_m (dqa_m (List.mem_of_getElem? (i := 0) rfl)))) rfl : Cond.methodLink RX3 113 yX3_showYellow ∈ lw_g) (lwq_5 (dqc_m (dqc_m (dqa_m (List.mem_of_getElem? (i := 2) rfl)))) rfl : Cond.instanceMethod yX3_showYellow ∈ lw_g) (lw_sel 100 rfl : Cond.selects yX3_showYellow.cls yX3_showYellow yX3_showYellow ∈ lw_g) (lwq_1 (dqa_m (dqa_m (List.mem_of_getElem? (i := 2) rfl))) rfl : Cond.initialized yX3_showYellow.cls ∈ lw_g) (lwq_5 (dqc_m (dqc_m (dqa_m (List.mem_of_getElem? (i := 3) rfl)))) rfl : Cond.code yX3_showYellow cX3_showYellow 4 none ∈ lw_g), ⟨nmh_3.1, nmh_3.2, pdq_0⟩, ⟨_, _, rfl⟩⟩
abbrev cX3_playVolleyball : ByteArray := prog_5_method_18_code
def yX3_playVolleyball : MethodName := ⟨RX3, "playVolleyball", "(I)V"⟩
def zX3_playVolleyball : Zm := (RX3, cX3_playVolleyball, 3, none, { frames := 2, cells := 0, slots := 0, locals := 45 })
set_option maxRecDepth 100000 in
theorem cl_X3_125 : cs_ RX3 125 yX3_isWon zX3_isWon 3 := ⟨gi_S (lwq_5 (dqc_m (dqc_m (dqa_m (dqa_m (dqa_m (List.mem_of_getElem? (i := 4) rfl)))))) rfl : Cond.methodLink RX3 125 yX3_isWon ∈ lw_g) (lwq_5 (dqc_m (dqc_m (dqa_m (dqa_m (dqa_m (List.mem_of_getElem? (i := 5) rfl)))))) rfl : Cond.static yX3_isWon ∈ lw_g) (lwq_1 (dqa_m (dqa_m (List.mem_of_getElem? (i := 2) rfl))) rfl : Cond.initialized yX3_isWon.cls ∈ lw_g) (lwq_5 (dqc_m (dqc_m (dqa_m (dqa_m (dqa_m (List.mem_of_getElem? (i := 6) rfl)))))) rfl : Cond.code yX3_isWon cX3_isWon 3 (some .boolean) ∈ lw_g), ⟨by decide, by decide, by decide +kernel⟩⟩
set_option maxRecDepth 100000 in
theorem cl_X3_62 : cs_ RX3 62 yJ7_fill_53178 zJ7_fill_53178 2 := ⟨gi_S (lwq_5 (dqa_m (dqa_m (List.mem_of_getElem? (i := 2) rfl))) rfl : Cond.methodLink RX3 62 yJ7_fill_53178 ∈ lw_g) (lwq_2 (dqa_m (dqa_m (dqa_m (List.mem_of_getElem? (i := 2) rfl)))) rfl : Cond.static yJ7_fill_53178 ∈ lw_g) (lwq_1 (List.mem_of_getElem? (i := 7) rfl) rfl : Cond.initialized yJ7_fill_53178.cls ∈ lw_g) (lwq_2 (dqa_m (dqa_m (dqa_m (List.mem_of_getElem? (i := 3) rfl)))) rfl : Cond.code yJ7_fill_53178 cJ7_fill_53178 4 none ∈ lw_g), ⟨by decide, by decide, by decide +kernel⟩⟩
set_option maxRecDepth 100000 in
theorem cl_X3_122 : cv_ RX3 122 yX3_rotate zX3_rotate 3 1 := ⟨gi_V (lwq_5 (dqc_m (dqc_m (dqa_m (dqa_m (dqa_m (List.mem_of_getElem? (i := 0) rfl)))))) rfl : Cond.methodLink RX3 122 yX3_rotate ∈ lw_g) (lwq_5 (dqc_m (dqc_m (dqa_m (dqa_m (dqa_m (List.mem_of_getElem? (i := 2) rfl)))))) rfl : Cond.instanceMethod yX3_rotate ∈ lw_g) (lw_sel 98 rfl : Cond.selects yX3_rotate.cls yX3_rotate yX3_rotate ∈ lw_g) (lwq_1 (dqa_m (dqa_m (List.mem_of_getElem? (i := 2) rfl))) rfl : Cond.initialized yX3_rotate.cls ∈ lw_g) (lwq_5 (dqc_m (dqc_m (dqa_m (dqa_m (dqa_m (List.mem_of_getElem? (i := 3) rfl)))))) rfl : Cond.code yX3_rotate cX3_rotate 3 none ∈ lw_g), ⟨nmh_3.1, nmh_3.2, pdq_9⟩, ⟨_, _, rfl⟩⟩
abbrev cX3_playTennis : ByteArray := prog_5_method_21_code
def yX3_playTennis : MethodName := ⟨RX3, "playTennis", "(II)V"⟩
def zX3_playTennis : Zm := (RX3, cX3_playTennis, 5, none, { frames := 1, cells := 0, slots := 0, locals := 23 })
abbrev cX3_endHalf : ByteArray := prog_5_method_28_code
def yX3_endHalf : MethodName := ⟨RX3, "endHalf", "()V"⟩
def zX3_endHalf : Zm := (RX3, cX3_endHalf, 2, none, { frames := 1, cells := 0, slots := 0, locals := 20 })
set_option maxRecDepth 100000 in
theorem cl_X3_147 : cv_ RX3 147 yX3_isLastInning zX3_isLastInning 3 0 := ⟨gi_V (lwq_5 (dqc_m (dqc_m (dqc_m (dqa_m (dqa_m (List.mem_of_getElem? (i := 5) rfl)))))) rfl : Cond.methodLink RX3 147 yX3_isLastInning ∈ lw_g) (lwq_5 (dqc_m (dqc_m (dqc_m (dqa_m (dqa_m (List.mem_of_getElem? (i := 7) rfl)))))) rfl : Cond.instanceMethod yX3_isLastInning ∈ lw_g) (lw_sel 91 rfl : Cond.selects yX3_isLastInning.cls yX3_isLastInning yX3_isLastInning ∈ lw_g) (lwq_1 (dqa_m (dqa_m (List.mem_of_getElem? (i := 2) rfl))) rfl : Cond.initialized yX3_isLastInning.cls ∈ lw_g) (lwq_5 (dqc_m (dqc_m (dqc_m (dqa_m (dqa_m (dqa_m (List.mem_of_getElem? (i := 0) rfl))))))) rfl : Cond.code yX3_isLastInning cX3_isLastInning 1 (some .boolean) ∈ lw_g), ⟨nmh_3.1, nmh_3.2, pdq_18⟩, ⟨_, _, rfl⟩⟩
abbrev cX3_countOut : ByteArray := prog_5_method_27_code
def yX3_countOut : MethodName := ⟨RX3, "countOut", "()V"⟩
def zX3_countOut : Zm := (RX3, cX3_countOut, 1, none, { frames := 2, cells := 0, slots := 0, locals := 41 })
set_option maxRecDepth 100000 in
theorem cl_X3_151 : cv_ RX3 151 yX3_endHalf zX3_endHalf 3 0 := ⟨gi_V (lwq_5 (dqc_m (dqc_m (dqc_m (dqc_m (List.mem_of_getElem? (i := 1) rfl))))) rfl : Cond.methodLink RX3 151 yX3_endHalf ∈ lw_g) (lwq_5 (dqc_m (dqc_m (dqc_m (dqc_m (List.mem_of_getElem? (i := 3) rfl))))) rfl : Cond.instanceMethod yX3_endHalf ∈ lw_g) (lw_sel 86 rfl : Cond.selects yX3_endHalf.cls yX3_endHalf yX3_endHalf ∈ lw_g) (lwq_1 (dqa_m (dqa_m (List.mem_of_getElem? (i := 2) rfl))) rfl : Cond.initialized yX3_endHalf.cls ∈ lw_g) (lwq_5 (dqc_m (dqc_m (dqc_m (dqc_m (List.mem_of_getElem? (i := 4) rfl))))) rfl : Cond.code yX3_endHalf cX3_endHalf 2 none ∈ lw_g), ⟨nmh_3.1, nmh_3.2, pdq_1⟩, ⟨_, _, rfl⟩⟩
abbrev cX3_goOnBase : ByteArray := prog_5_method_25_code
def yX3_goOnBase : MethodName := ⟨RX3, "goOnBase", "(II)V"⟩
def zX3_goOnBase : Zm := (RX3, cX3_goOnBase, 3, none, { frames := 1, cells := 0, slots := 0, locals := 23 })
abbrev cX3_walk : ByteArray := prog_5_method_24_code
def yX3_walk : MethodName := ⟨RX3, "walk", "(I)V"⟩
def zX3_walk : Zm := (RX3, cX3_walk, 3, none, { frames := 2, cells := 0, slots := 0, locals := 45 })
set_option maxRecDepth 100000 in
theorem cl_X3_144 : cv_ RX3 144 yX3_goOnBase zX3_goOnBase 3 2 := ⟨gi_V (lwq_5 (dqc_m (dqc_m (dqc_m (dqa_m (dqa_m (List.mem_of_getElem? (i := 1) rfl)))))) rfl : Cond.methodLink RX3 144 yX3_goOnBase ∈ lw_g) (lwq_5 (dqc_m (dqc_m (dqc_m (dqa_m (dqa_m (List.mem_of_getElem? (i := 3) rfl)))))) rfl : Cond.instanceMethod yX3_goOnBase ∈ lw_g) (lw_sel 88 rfl : Cond.selects yX3_goOnBase.cls yX3_goOnBase yX3_goOnBase ∈ lw_g) (lwq_1 (dqa_m (dqa_m (List.mem_of_getElem? (i := 2) rfl))) rfl : Cond.initialized yX3_goOnBase.cls ∈ lw_g) (lwq_5 (dqc_m (dqc_m (dqc_m (dqa_m (dqa_m (List.mem_of_getElem? (i := 4) rfl)))))) rfl : Cond.code yX3_goOnBase cX3_goOnBase 3 none ∈ lw_g), ⟨nmh_3.1, nmh_3.2, pdq_0⟩, ⟨_, _, rfl⟩⟩
abbrev cX3_backToBeginning : ByteArray := prog_5_method_2_code
def yX3_backToBeginning : MethodName := ⟨RX3, "backToBeginning", "()V"⟩
def zX3_backToBeginning : Zm := (RX3, cX3_backToBeginning, 3, none, { frames := 1, cells := 0, slots := 0, locals := 23 })
