def fJ7 : Zf := ([], [], [], [])
set_option maxRecDepth 100000 in
set_option maxHeartbeats 4000000 in
theorem tg_J7 : ∀ q ∈ fJ7.1, fl_ RJ7 q.1 q.2.1 q.2.2 := fun _ h => absurd h List.not_mem_nil
set_option maxRecDepth 100000 in
set_option maxHeartbeats 4000000 in
theorem tp_J7 : ∀ q ∈ fJ7.2.1, fp_ RJ7 q.1 q.2.1 q.2.2 := fun _ h => absurd h List.not_mem_nil
theorem tb_J7 : tb_ RJ7 fJ7 := ⟨tg_J7, tp_J7, fun _ h => absurd h List.not_mem_nil, fun _ h => absurd h List.not_mem_nil⟩
theorem an_1b (x : Int) : 0 ≤ an_ x 1 ∧ an_ x 1 ≤ 1 := by
  have h : ((Int32.ofInt x).toBitVec &&& (Int32.ofInt 1).toBitVec).toNat ≤ 1 := by
    rw [BitVec.toNat_and]; exact Nat.and_le_right
  show 0 ≤ ((Int32.ofInt x).toBitVec &&& (Int32.ofInt 1).toBitVec).toInt ∧ ((Int32.ofInt x).toBitVec &&& (Int32.ofInt 1).toBitVec).toInt ≤ 1
  rw [BitVec.toInt_eq_toNat_cond]
  split <;> omega
/-- only what has the index p has changed -/
def oi_ (T T1 : Zt) (p : Int) : Prop := ∀ k i j, i ≠ p → T1 k i j = T k i j
theorem oi_r {T : Zt} {p : Int} : oi_ T T p := fun _ _ _ _ => rfl
theorem oi_u {T T1 T2 : Zt} {p j v : Int} {k : Nat} (h : oi_ T T1 p) (e : T2 = up_ T1 k p j v) : oi_ T T2 p := fun k' i j' hi => (up_g e (fun q => hi q.2.1)).trans (h k' i j' hi)
theorem oi_t {T T1 T2 : Zt} {p : Int} (h : oi_ T T1 p) (g : oi_ T1 T2 p) : oi_ T T2 p := fun k i j hi => (g k i j hi).trans (h k i j hi)
abbrev cJ7_fill_53178 : ByteArray := prog_21_method_103_code
def yJ7_fill_53178 : MethodName := ⟨RJ7, "fill", "([II)V"⟩
def zJ7_fill_53178 : Zm := (RJ7, cJ7_fill_53178, 4, none, { frames := 0, cells := 0, slots := 0, locals := 0 })
theorem bk_J7_fill_53178_5 : ck_ fJ7 none cJ7_fill_53178 5 [.iload 2, .iload 3, .if_icmp .ge 20, .aload 0, .iload 2, .iload 1, .iastore, .iinc 2 1, .goto 5] 20 = true := qck_r (nn_ _) (by decide +kernel)
theorem bs_J7_fill_53178_5 {P : Zt → Option Zv → Prop} (K : Int → Zl → List Zv → Zt → Prop) : sx_ K P [.iload 2, .iload 3, .if_icmp .ge 20, .aload 0, .iload 2, .iload 1, .iastore, .iinc 2 1, .goto 5] 20 = x_iload 2 (x_iload 3 (x_if_icmp .ge 20 K (x_aload 0 (x_iload 2 (x_iload 1 (x_iastore (x_iinc 2 1 (x_goto 5 K)))))))) := ((xe_iload 2).trans (congrArg (x_iload 2) ((xe_iload 3).trans (congrArg (x_iload 3) ((xe_if_icmp .ge 20).trans (congrArg (x_if_icmp .ge 20 K) ((xe_aload 0).trans (congrArg (x_aload 0) ((xe_iload 2).trans (congrArg (x_iload 2) ((xe_iload 1).trans (congrArg (x_iload 1) ((xe_iastore).trans (congrArg (x_iastore) ((xe_iinc 2 1).trans (congrArg (x_iinc 2 1) (xe_goto 5)))))))))))))))))
theorem bk_J7_fill_53178_20 : ck_ fJ7 none cJ7_fill_53178 20 [.return_] 21 = true := qck_r (nn_ _) (by decide +kernel)
theorem bs_J7_fill_53178_20 {P : Zt → Option Zv → Prop} (K : Int → Zl → List Zv → Zt → Prop) : sx_ K P [.return_] 21 = x_return_ P := (xe_return_)
theorem bk_J7_fill_53178_0 : ck_ fJ7 none cJ7_fill_53178 0 [.iconst 0, .istore 2, .aload 0, .arraylength, .istore 3] 5 = true := qck_r (nn_ _) (by decide +kernel)
theorem bs_J7_fill_53178_0 {P : Zt → Option Zv → Prop} (K : Int → Zl → List Zv → Zt → Prop) : sx_ K P [.iconst 0, .istore 2, .aload 0, .arraylength, .istore 3] 5 = x_iconst 0 (x_istore 2 (x_aload 0 (x_arraylength (x_istore 3 (K 5))))) := ((xe_iconst 0).trans (congrArg (x_iconst 0) ((xe_istore 2).trans (congrArg (x_istore 2) ((xe_aload 0).trans (congrArg (x_aload 0) ((xe_arraylength).trans (congrArg (x_arraylength) ((xe_istore 3).trans (congrArg (x_istore 3) xe_nil))))))))))
abbrev po_J7_fill_428 (T : Zt) (p : Int) (v : Int) : Zt → Option Zv → Prop := fun T' r => r = none ∧ fr_ [(428, [])] T T' ∧ oi_ T T' p ∧ ∀ j, 0 ≤ j → j < 12 → T' 428 p j = v
set_option maxHeartbeats 4000000 in
theorem ct_J7_fill_428 {T : Zt} {p : Int} {v : Int} (h1 : (-1) ≤ v ∧ v ≤ 2) : Ct_ yJ7_fill_53178 zJ7_fill_53178 T [vR 428 p, vI v] (po_J7_fill_428 T p v) := by
  refine ct_of (by decide) rfl rfl (Nat.le_of_ble_eq_true rfl) (fun hT hav => ?_)
  have hr_v : -2147483648 ≤ v ∧ v ≤ 2147483647 := hav (vI v) (List.mem_cons_of_mem _ List.mem_cons_self)
  have hz : zJ7_fill_53178.2.2.2.1 = some .boolean → ∀ (T' : Zt) (x : Int), po_J7_fill_428 T p v T' (some (vI x)) → 0 ≤ x ∧ x ≤ 1 := fun h => by cases h
  show J_ zJ7_fill_53178 T (po_J7_fill_428 T p v) 0 0 0 [some (vR 428 p), some (vI v), none, none] [] T
  have c_5 : ∀ (nn : Nat) (j : Int) (T1 : Zt), ((12 - j).toNat) ≤ nn → (fr_ [(428, [])] T T1) → (0 ≤ j ∧ j ≤ 12) → (oi_ T T1 p) → (∀ q, 0 ≤ q → q < j → T1 428 p q = v) → J_ zJ7_fill_53178 T (po_J7_fill_428 T p v) 0 0 5 [some (vR 428 p), some (vI v), some (vI j), some (vI 12)] [] T1 := by
    intro nn
    induction nn using Nat.strongRecOn with
    | _ nn ih_5 =>
      intro j T1 hm_5 hf_5 i1 o1 f1
      replace hm_5 := fun (_ : Unit) => hm_5
      refine j_blx (F := fJ7) tb_J7 (nn_ _) bk_J7_fill_53178_5 bs_J7_fill_53178_5 hz (fun K hK => ?_)
      refine And.intro (fun c1 => ?_) (fun c1 => ?_)
      · refine hK 20 _ [] T1 ?_
        refine j_blx (F := fJ7) tb_J7 (nn_ _) bk_J7_fill_53178_20 bs_J7_fill_53178_20 hz (fun K hK => ?_)
        refine (show po_J7_fill_428 T p v T1 (none) from ?_)
        exact ⟨rfl, fr_t (fr_0 _ _) (fr_s hf_5 rfl), o1, fun q a b => f1 q a (by omega)⟩
      · refine iy_i (by omega) (by omega) ?_
        refine x_nm (fun U2 hU2 => ?_)
        have e3 := up_f hU2
        refine rg_i (by omega) ?_
        refine hK 5 [some (vR 428 p), some (vI v), some (vI (j + 1)), some (vI 12)] [] U2 ?_
        refine ih_5 _ ?_ (j + 1) U2 (Nat.le_refl _) ?_ ?_ ?_ ?_
        · have hm_5 := hm_5 (); omega
        · exact fr_u (fr_t (fr_0 _ _) (fr_s hf_5 rfl)) hU2 rfl
        · omega
        · exact oi_u o1 hU2
        · intro q a b
          by_cases z : q = j
          · rw [z]; exact up_f hU2
          · rw [up_g hU2 (fun y => z y.2.2)]; exact f1 q a (by omega)
  refine j_blx (F := fJ7) tb_J7 (nn_ _) bk_J7_fill_53178_0 bs_J7_fill_53178_0 hz (fun K hK => ?_)
  refine hK 5 [some (vR 428 p), some (vI v), some (vI 0), some (vI 12)] [] T ?_
  refine c_5 _ 0 T (Nat.le_refl _) ?_ ?_ ?_ ?_
  · exact fr_0 _ _
  · omega
  · exact oi_r
  · intro q a b; omega
abbrev po_J7_fill_429 (T : Zt) (p : Int) (v : Int) : Zt → Option Zv → Prop := fun T' r => r = none ∧ fr_ [(429, [])] T T' ∧ oi_ T T' p ∧ ∀ j, 0 ≤ j → j < 12 → T' 429 p j = v
set_option maxHeartbeats 4000000 in
theorem ct_J7_fill_429 {T : Zt} {p : Int} {v : Int} (h1 : (-1) ≤ v ∧ v ≤ 3) : Ct_ yJ7_fill_53178 zJ7_fill_53178 T [vR 429 p, vI v] (po_J7_fill_429 T p v) := by
  refine ct_of (by decide) rfl rfl (Nat.le_of_ble_eq_true rfl) (fun hT hav => ?_)
  have hr_v : -2147483648 ≤ v ∧ v ≤ 2147483647 := hav (vI v) (List.mem_cons_of_mem _ List.mem_cons_self)
  have hz : zJ7_fill_53178.2.2.2.1 = some .boolean → ∀ (T' : Zt) (x : Int), po_J7_fill_429 T p v T' (some (vI x)) → 0 ≤ x ∧ x ≤ 1 := fun h => by cases h
  show J_ zJ7_fill_53178 T (po_J7_fill_429 T p v) 0 0 0 [some (vR 429 p), some (vI v), none, none] [] T
  have c_5 : ∀ (nn : Nat) (j : Int) (T1 : Zt), ((12 - j).toNat) ≤ nn → (fr_ [(429, [])] T T1) → (0 ≤ j ∧ j ≤ 12) → (oi_ T T1 p) → (∀ q, 0 ≤ q → q < j → T1 429 p q = v) → J_ zJ7_fill_53178 T (po_J7_fill_429 T p v) 0 0 5 [some (vR 429 p), some (vI v), some (vI j), some (vI 12)] [] T1 := by
    intro nn
    induction nn using Nat.strongRecOn with
    | _ nn ih_5 =>
      intro j T1 hm_5 hf_5 i1 o1 f1
      replace hm_5 := fun (_ : Unit) => hm_5
      refine j_blx (F := fJ7) tb_J7 (nn_ _) bk_J7_fill_53178_5 bs_J7_fill_53178_5 hz (fun K hK => ?_)
      refine And.intro (fun c1 => ?_) (fun c1 => ?_)
      · refine hK 20 _ [] T1 ?_
        refine j_blx (F := fJ7) tb_J7 (nn_ _) bk_J7_fill_53178_20 bs_J7_fill_53178_20 hz (fun K hK => ?_)
        refine (show po_J7_fill_429 T p v T1 (none) from ?_)
        exact ⟨rfl, fr_t (fr_0 _ _) (fr_s hf_5 rfl), o1, fun q a b => f1 q a (by omega)⟩
      · refine iy_i (by omega) (by omega) ?_
        refine x_nm (fun U2 hU2 => ?_)
        have e3 := up_f hU2
        refine rg_i (by omega) ?_
        refine hK 5 [some (vR 429 p), some (vI v), some (vI (j + 1)), some (vI 12)] [] U2 ?_
        refine ih_5 _ ?_ (j + 1) U2 (Nat.le_refl _) ?_ ?_ ?_ ?_
        · have hm_5 := hm_5 (); omega
        · exact fr_u (fr_t (fr_0 _ _) (fr_s hf_5 rfl)) hU2 rfl
        · omega
        · exact oi_u o1 hU2
        · intro q a b
          by_cases z : q = j
          · rw [z]; exact up_f hU2
          · rw [up_g hU2 (fun y => z y.2.2)]; exact f1 q a (by omega)
  refine j_blx (F := fJ7) tb_J7 (nn_ _) bk_J7_fill_53178_0 bs_J7_fill_53178_0 hz (fun K hK => ?_)
  refine hK 5 [some (vR 429 p), some (vI v), some (vI 0), some (vI 12)] [] T ?_
  refine c_5 _ 0 T (Nat.le_refl _) ?_ ?_ ?_ ?_
  · exact fr_0 _ _
  · omega
  · exact oi_r
  · intro q a b; omega
abbrev po_J7_fill_430 (T : Zt) (p : Int) (v : Int) : Zt → Option Zv → Prop := fun T' r => r = none ∧ fr_ [(430, [])] T T' ∧ oi_ T T' p ∧ ∀ j, 0 ≤ j → j < 3 → T' 430 p j = v
set_option maxHeartbeats 4000000 in
theorem ct_J7_fill_430 {T : Zt} {p : Int} {v : Int} (h1 : 0 ≤ v ∧ v ≤ 4) : Ct_ yJ7_fill_53178 zJ7_fill_53178 T [vR 430 p, vI v] (po_J7_fill_430 T p v) := by
  refine ct_of (by decide) rfl rfl (Nat.le_of_ble_eq_true rfl) (fun hT hav => ?_)
  have hr_v : -2147483648 ≤ v ∧ v ≤ 2147483647 := hav (vI v) (List.mem_cons_of_mem _ List.mem_cons_self)
  have hz : zJ7_fill_53178.2.2.2.1 = some .boolean → ∀ (T' : Zt) (x : Int), po_J7_fill_430 T p v T' (some (vI x)) → 0 ≤ x ∧ x ≤ 1 := fun h => by cases h
  show J_ zJ7_fill_53178 T (po_J7_fill_430 T p v) 0 0 0 [some (vR 430 p), some (vI v), none, none] [] T
  have c_5 : ∀ (nn : Nat) (j : Int) (T1 : Zt), ((3 - j).toNat) ≤ nn → (fr_ [(430, [])] T T1) → (0 ≤ j ∧ j ≤ 3) → (oi_ T T1 p) → (∀ q, 0 ≤ q → q < j → T1 430 p q = v) → J_ zJ7_fill_53178 T (po_J7_fill_430 T p v) 0 0 5 [some (vR 430 p), some (vI v), some (vI j), some (vI 3)] [] T1 := by
    intro nn
    induction nn using Nat.strongRecOn with
    | _ nn ih_5 =>
      intro j T1 hm_5 hf_5 i1 o1 f1
      replace hm_5 := fun (_ : Unit) => hm_5
      refine j_blx (F := fJ7) tb_J7 (nn_ _) bk_J7_fill_53178_5 bs_J7_fill_53178_5 hz (fun K hK => ?_)
      refine And.intro (fun c1 => ?_) (fun c1 => ?_)
      · refine hK 20 _ [] T1 ?_
        refine j_blx (F := fJ7) tb_J7 (nn_ _) bk_J7_fill_53178_20 bs_J7_fill_53178_20 hz (fun K hK => ?_)
        refine (show po_J7_fill_430 T p v T1 (none) from ?_)
        exact ⟨rfl, fr_t (fr_0 _ _) (fr_s hf_5 rfl), o1, fun q a b => f1 q a (by omega)⟩
      · refine iy_i (by omega) (by omega) ?_
        refine x_nm (fun U2 hU2 => ?_)
        have e3 := up_f hU2
        refine rg_i (by omega) ?_
        refine hK 5 [some (vR 430 p), some (vI v), some (vI (j + 1)), some (vI 3)] [] U2 ?_
        refine ih_5 _ ?_ (j + 1) U2 (Nat.le_refl _) ?_ ?_ ?_ ?_
        · have hm_5 := hm_5 (); omega
        · exact fr_u (fr_t (fr_0 _ _) (fr_s hf_5 rfl)) hU2 rfl
        · omega
        · exact oi_u o1 hU2
        · intro q a b
          by_cases z : q = j
          · rw [z]; exact up_f hU2
          · rw [up_g hU2 (fun y => z y.2.2)]; exact f1 q a (by omega)
  refine j_blx (F := fJ7) tb_J7 (nn_ _) bk_J7_fill_53178_0 bs_J7_fill_53178_0 hz (fun K hK => ?_)
  refine hK 5 [some (vR 430 p), some (vI v), some (vI 0), some (vI 3)] [] T ?_
  refine c_5 _ 0 T (Nat.le_refl _) ?_ ?_ ?_ ?_
  · exact fr_0 _ _
  · omega
  · exact oi_r
  · intro q a b; omega
abbrev po_J7_fill_431 (T : Zt) (p : Int) (v : Int) : Zt → Option Zv → Prop := fun T' r => r = none ∧ fr_ [(431, [])] T T' ∧ oi_ T T' p ∧ ∀ j, 0 ≤ j → j < 48 → T' 431 p j = v
set_option maxHeartbeats 4000000 in
theorem ct_J7_fill_431 {T : Zt} {p : Int} {v : Int} (h1 : (-2147483648) ≤ v ∧ v ≤ 2147483647) : Ct_ yJ7_fill_53178 zJ7_fill_53178 T [vR 431 p, vI v] (po_J7_fill_431 T p v) := by
  refine ct_of (by decide) rfl rfl (Nat.le_of_ble_eq_true rfl) (fun hT hav => ?_)
  have hr_v : -2147483648 ≤ v ∧ v ≤ 2147483647 := hav (vI v) (List.mem_cons_of_mem _ List.mem_cons_self)
  have hz : zJ7_fill_53178.2.2.2.1 = some .boolean → ∀ (T' : Zt) (x : Int), po_J7_fill_431 T p v T' (some (vI x)) → 0 ≤ x ∧ x ≤ 1 := fun h => by cases h
  show J_ zJ7_fill_53178 T (po_J7_fill_431 T p v) 0 0 0 [some (vR 431 p), some (vI v), none, none] [] T
  have c_5 : ∀ (nn : Nat) (j : Int) (T1 : Zt), ((48 - j).toNat) ≤ nn → (fr_ [(431, [])] T T1) → (0 ≤ j ∧ j ≤ 48) → (oi_ T T1 p) → (∀ q, 0 ≤ q → q < j → T1 431 p q = v) → J_ zJ7_fill_53178 T (po_J7_fill_431 T p v) 0 0 5 [some (vR 431 p), some (vI v), some (vI j), some (vI 48)] [] T1 := by
    intro nn
    induction nn using Nat.strongRecOn with
    | _ nn ih_5 =>
      intro j T1 hm_5 hf_5 i1 o1 f1
      replace hm_5 := fun (_ : Unit) => hm_5
      refine j_blx (F := fJ7) tb_J7 (nn_ _) bk_J7_fill_53178_5 bs_J7_fill_53178_5 hz (fun K hK => ?_)
      refine And.intro (fun c1 => ?_) (fun c1 => ?_)
      · refine hK 20 _ [] T1 ?_
        refine j_blx (F := fJ7) tb_J7 (nn_ _) bk_J7_fill_53178_20 bs_J7_fill_53178_20 hz (fun K hK => ?_)
        refine (show po_J7_fill_431 T p v T1 (none) from ?_)
        exact ⟨rfl, fr_t (fr_0 _ _) (fr_s hf_5 rfl), o1, fun q a b => f1 q a (by omega)⟩
      · refine iy_i (by omega) (by omega) ?_
        refine x_nm (fun U2 hU2 => ?_)
        have e3 := up_f hU2
        refine rg_i (by omega) ?_
        refine hK 5 [some (vR 431 p), some (vI v), some (vI (j + 1)), some (vI 48)] [] U2 ?_
        refine ih_5 _ ?_ (j + 1) U2 (Nat.le_refl _) ?_ ?_ ?_ ?_
        · have hm_5 := hm_5 (); omega
        · exact fr_u (fr_t (fr_0 _ _) (fr_s hf_5 rfl)) hU2 rfl
        · omega
        · exact oi_u o1 hU2
        · intro q a b
          by_cases z : q = j
          · rw [z]; exact up_f hU2
          · rw [up_g hU2 (fun y => z y.2.2)]; exact f1 q a (by omega)
  refine j_blx (F := fJ7) tb_J7 (nn_ _) bk_J7_fill_53178_0 bs_J7_fill_53178_0 hz (fun K hK => ?_)
  refine hK 5 [some (vR 431 p), some (vI v), some (vI 0), some (vI 48)] [] T ?_
  refine c_5 _ 0 T (Nat.le_refl _) ?_ ?_ ?_ ?_
  · exact fr_0 _ _
  · omega
  · exact oi_r
  · intro q a b; omega
abbrev po_J7_fill_434 (T : Zt) (p : Int) (v : Int) : Zt → Option Zv → Prop := fun T' r => r = none ∧ fr_ [(434, [])] T T' ∧ oi_ T T' p ∧ ∀ j, 0 ≤ j → j < 12 → T' 434 p j = v
set_option maxHeartbeats 4000000 in
theorem ct_J7_fill_434 {T : Zt} {p : Int} {v : Int} (h1 : 0 ≤ v ∧ v ≤ 1) : Ct_ yJ7_fill_53178 zJ7_fill_53178 T [vR 434 p, vI v] (po_J7_fill_434 T p v) := by
  refine ct_of (by decide) rfl rfl (Nat.le_of_ble_eq_true rfl) (fun hT hav => ?_)
  have hr_v : -2147483648 ≤ v ∧ v ≤ 2147483647 := hav (vI v) (List.mem_cons_of_mem _ List.mem_cons_self)
  have hz : zJ7_fill_53178.2.2.2.1 = some .boolean → ∀ (T' : Zt) (x : Int), po_J7_fill_434 T p v T' (some (vI x)) → 0 ≤ x ∧ x ≤ 1 := fun h => by cases h
  show J_ zJ7_fill_53178 T (po_J7_fill_434 T p v) 0 0 0 [some (vR 434 p), some (vI v), none, none] [] T
  have c_5 : ∀ (nn : Nat) (j : Int) (T1 : Zt), ((12 - j).toNat) ≤ nn → (fr_ [(434, [])] T T1) → (0 ≤ j ∧ j ≤ 12) → (oi_ T T1 p) → (∀ q, 0 ≤ q → q < j → T1 434 p q = v) → J_ zJ7_fill_53178 T (po_J7_fill_434 T p v) 0 0 5 [some (vR 434 p), some (vI v), some (vI j), some (vI 12)] [] T1 := by
    intro nn
    induction nn using Nat.strongRecOn with
    | _ nn ih_5 =>
      intro j T1 hm_5 hf_5 i1 o1 f1
      replace hm_5 := fun (_ : Unit) => hm_5
      refine j_blx (F := fJ7) tb_J7 (nn_ _) bk_J7_fill_53178_5 bs_J7_fill_53178_5 hz (fun K hK => ?_)
      refine And.intro (fun c1 => ?_) (fun c1 => ?_)
      · refine hK 20 _ [] T1 ?_
        refine j_blx (F := fJ7) tb_J7 (nn_ _) bk_J7_fill_53178_20 bs_J7_fill_53178_20 hz (fun K hK => ?_)
        refine (show po_J7_fill_434 T p v T1 (none) from ?_)
        exact ⟨rfl, fr_t (fr_0 _ _) (fr_s hf_5 rfl), o1, fun q a b => f1 q a (by omega)⟩
      · refine iy_i (by omega) (by omega) ?_
        refine x_nm (fun U2 hU2 => ?_)
        have e3 := up_f hU2
        refine rg_i (by omega) ?_
        refine hK 5 [some (vR 434 p), some (vI v), some (vI (j + 1)), some (vI 12)] [] U2 ?_
        refine ih_5 _ ?_ (j + 1) U2 (Nat.le_refl _) ?_ ?_ ?_ ?_
        · have hm_5 := hm_5 (); omega
        · exact fr_u (fr_t (fr_0 _ _) (fr_s hf_5 rfl)) hU2 rfl
        · omega
        · exact oi_u o1 hU2
        · intro q a b
          by_cases z : q = j
          · rw [z]; exact up_f hU2
          · rw [up_g hU2 (fun y => z y.2.2)]; exact f1 q a (by omega)
  refine j_blx (F := fJ7) tb_J7 (nn_ _) bk_J7_fill_53178_0 bs_J7_fill_53178_0 hz (fun K hK => ?_)
  refine hK 5 [some (vR 434 p), some (vI v), some (vI 0), some (vI 12)] [] T ?_
  refine c_5 _ 0 T (Nat.le_refl _) ?_ ?_ ?_ ?_
  · exact fr_0 _ _
  · omega
  · exact oi_r
  · intro q a b; omega
abbrev po_J7_fill_435 (T : Zt) (p : Int) (v : Int) : Zt → Option Zv → Prop := fun T' r => r = none ∧ fr_ [(435, [])] T T' ∧ oi_ T T' p ∧ ∀ j, 0 ≤ j → j < 32 → T' 435 p j = v
set_option maxHeartbeats 4000000 in
theorem ct_J7_fill_435 {T : Zt} {p : Int} {v : Int} (h1 : (-2147483648) ≤ v ∧ v ≤ 2147483647) : Ct_ yJ7_fill_53178 zJ7_fill_53178 T [vR 435 p, vI v] (po_J7_fill_435 T p v) := by
  refine ct_of (by decide) rfl rfl (Nat.le_of_ble_eq_true rfl) (fun hT hav => ?_)
  have hr_v : -2147483648 ≤ v ∧ v ≤ 2147483647 := hav (vI v) (List.mem_cons_of_mem _ List.mem_cons_self)
  have hz : zJ7_fill_53178.2.2.2.1 = some .boolean → ∀ (T' : Zt) (x : Int), po_J7_fill_435 T p v T' (some (vI x)) → 0 ≤ x ∧ x ≤ 1 := fun h => by cases h
  show J_ zJ7_fill_53178 T (po_J7_fill_435 T p v) 0 0 0 [some (vR 435 p), some (vI v), none, none] [] T
  have c_5 : ∀ (nn : Nat) (j : Int) (T1 : Zt), ((32 - j).toNat) ≤ nn → (fr_ [(435, [])] T T1) → (0 ≤ j ∧ j ≤ 32) → (oi_ T T1 p) → (∀ q, 0 ≤ q → q < j → T1 435 p q = v) → J_ zJ7_fill_53178 T (po_J7_fill_435 T p v) 0 0 5 [some (vR 435 p), some (vI v), some (vI j), some (vI 32)] [] T1 := by
    intro nn
    induction nn using Nat.strongRecOn with
    | _ nn ih_5 =>
      intro j T1 hm_5 hf_5 i1 o1 f1
      replace hm_5 := fun (_ : Unit) => hm_5
      refine j_blx (F := fJ7) tb_J7 (nn_ _) bk_J7_fill_53178_5 bs_J7_fill_53178_5 hz (fun K hK => ?_)
      refine And.intro (fun c1 => ?_) (fun c1 => ?_)
      · refine hK 20 _ [] T1 ?_
        refine j_blx (F := fJ7) tb_J7 (nn_ _) bk_J7_fill_53178_20 bs_J7_fill_53178_20 hz (fun K hK => ?_)
        refine (show po_J7_fill_435 T p v T1 (none) from ?_)
        exact ⟨rfl, fr_t (fr_0 _ _) (fr_s hf_5 rfl), o1, fun q a b => f1 q a (by omega)⟩
      · refine iy_i (by omega) (by omega) ?_
        refine x_nm (fun U2 hU2 => ?_)
        have e3 := up_f hU2
        refine rg_i (by omega) ?_
        refine hK 5 [some (vR 435 p), some (vI v), some (vI (j + 1)), some (vI 32)] [] U2 ?_
        refine ih_5 _ ?_ (j + 1) U2 (Nat.le_refl _) ?_ ?_ ?_ ?_
        · have hm_5 := hm_5 (); omega
        · exact fr_u (fr_t (fr_0 _ _) (fr_s hf_5 rfl)) hU2 rfl
        · omega
        · exact oi_u o1 hU2
        · intro q a b
          by_cases z : q = j
          · rw [z]; exact up_f hU2
          · rw [up_g hU2 (fun y => z y.2.2)]; exact f1 q a (by omega)
  refine j_blx (F := fJ7) tb_J7 (nn_ _) bk_J7_fill_53178_0 bs_J7_fill_53178_0 hz (fun K hK => ?_)
  refine hK 5 [some (vR 435 p), some (vI v), some (vI 0), some (vI 32)] [] T ?_
  refine c_5 _ 0 T (Nat.le_refl _) ?_ ?_ ?_ ?_
  · exact fr_0 _ _
  · omega
  · exact oi_r
  · intro q a b; omega
abbrev cX2_phaseOfLife : ByteArray := prog_4_method_2_code
def yX2_phaseOfLife : MethodName := ⟨RX2, "phaseOfLife", "()I"⟩
def zX2_phaseOfLife : Zm := (RX2, cX2_phaseOfLife, 1, (some .int), { frames := 0, cells := 0, slots := 0, locals := 0 })
theorem bk_X2_phaseOfLife_0 : ck_ fX2 (some .int) cX2_phaseOfLife 0 [.aload 0, .tableswitch 0 2 6 #[], .iconst (-1), .if_icmp .eq 10, .iconst 3, .ireturn] 10 = true := qck_r (nn_ _) (by decide +kernel)
theorem bs_X2_phaseOfLife_0 {P : Zt → Option Zv → Prop} (K : Int → Zl → List Zv → Zt → Prop) : sx_ K P [.aload 0, .tableswitch 0 2 6 #[], .iconst (-1), .if_icmp .eq 10, .iconst 3, .ireturn] 10 = x_aload 0 (x_g0 102 6 (-1) 1 (x_iconst (-1) (x_if_icmp .eq 10 K (x_iconst 3 (x_ireturn P))))) := ((xe_aload 0).trans (congrArg (x_aload 0) ((xe_g0 (kk := 102) rfl tl_2_6).trans (congrArg (x_g0 102 6 (-1) 1) ((xe_iconst (-1)).trans (congrArg (x_iconst (-1)) ((xe_if_icmp .eq 10).trans (congrArg (x_if_icmp .eq 10 K) ((xe_iconst 3).trans (congrArg (x_iconst 3) (xe_ireturn)))))))))))
theorem bk_X2_phaseOfLife_10 : ck_ fX2 (some .int) cX2_phaseOfLife 10 [.aload 0, .tableswitch 0 2 10 #[], .ifnonnull 19, .iconst 0, .ireturn] 19 = true := qck_r (nn_ _) (by decide +kernel)
theorem bs_X2_phaseOfLife_10 {P : Zt → Option Zv → Prop} (K : Int → Zl → List Zv → Zt → Prop) : sx_ K P [.aload 0, .tableswitch 0 2 10 #[], .ifnonnull 19, .iconst 0, .ireturn] 19 = x_aload 0 (x_g4 102 103 10 (x_ifnonnull 19 K (x_iconst 0 (x_ireturn P)))) := ((xe_aload 0).trans (congrArg (x_aload 0) ((xe_g4 (kk := 102) rfl tl_2_10).trans (congrArg (x_g4 102 103 10) ((xe_ifnonnull 19).trans (congrArg (x_ifnonnull 19 K) ((xe_iconst 0).trans (congrArg (x_iconst 0) (xe_ireturn)))))))))
theorem bk_X2_phaseOfLife_19 : ck_ fX2 (some .int) cX2_phaseOfLife 19 [.aload 0, .tableswitch 0 2 10 #[], .tableswitch 0 3 3 #[], .ifCond .eq 33, .iconst 2, .goto 34] 33 = true := qck_r (nn_ _) (by decide +kernel)
theorem bs_X2_phaseOfLife_19 {P : Zt → Option Zv → Prop} (K : Int → Zl → List Zv → Zt → Prop) : sx_ K P [.aload 0, .tableswitch 0 2 10 #[], .tableswitch 0 3 3 #[], .ifCond .eq 33, .iconst 2, .goto 34] 33 = x_aload 0 (x_g4 102 103 10 (x_g0 103 3 0 1 (x_ifCond .eq 33 K (x_iconst 2 (x_goto 34 K))))) := ((xe_aload 0).trans (congrArg (x_aload 0) ((xe_g4 (kk := 102) rfl tl_2_10).trans (congrArg (x_g4 102 103 10) ((xe_g0 (kk := 103) rfl tl_3_3).trans (congrArg (x_g0 103 3 0 1) ((xe_ifCond .eq 33).trans (congrArg (x_ifCond .eq 33 K) ((xe_iconst 2).trans (congrArg (x_iconst 2) (xe_goto 34)))))))))))
theorem bk_X2_phaseOfLife_33 : ck_ fX2 (some .int) cX2_phaseOfLife 33 [.iconst 1, .ireturn] 35 = true := qck_r (nn_ _) (by decide +kernel)
theorem bs_X2_phaseOfLife_33 {P : Zt → Option Zv → Prop} (K : Int → Zl → List Zv → Zt → Prop) : sx_ K P [.iconst 1, .ireturn] 35 = x_iconst 1 (x_ireturn P) := ((xe_iconst 1).trans (congrArg (x_iconst 1) (xe_ireturn)))
theorem bk_X2_phaseOfLife_34 : ck_ fX2 (some .int) cX2_phaseOfLife 34 [.ireturn] 35 = true := qck_r (nn_ _) (by decide +kernel)
theorem bs_X2_phaseOfLife_34 {P : Zt → Option Zv → Prop} (K : Int → Zl → List Zv → Zt → Prop) : sx_ K P [.ireturn] 35 = x_ireturn P := (xe_ireturn)
abbrev po_X2_phaseOfLife (T : Zt) (p : Int) : Zt → Option Zv → Prop := fun T' r => T = T' ∧ ∃ x : Int, r = some (vI x) ∧ (0 ≤ x ∧ x ≤ 3 ∧ (x = 3 ↔ T 102 p 6 ≠ -1) ∧ (x = 0 ↔ T 102 p 6 = -1 ∧ T 102 p 10 = 0))
set_option maxHeartbeats 4000000 in
theorem ct_X2_phaseOfLife {T : Zt} {p : Int} : Ct_ yX2_phaseOfLife zX2_phaseOfLife T [vR 102 p] (po_X2_phaseOfLife T p) := by
  refine ct_of pn_2 rfl rfl (Nat.le_of_ble_eq_true rfl) (fun hT hav => ?_)
  have hz : zX2_phaseOfLife.2.2.2.1 = some .boolean → ∀ (T' : Zt) (x : Int), po_X2_phaseOfLife T p T' (some (vI x)) → 0 ≤ x ∧ x ≤ 1 := fun h => by cases h
  show J_ zX2_phaseOfLife T (po_X2_phaseOfLife T p) 0 0 0 [some (vR 102 p)] [] T
  refine j_blx (F := fX2) tb_X2 (nn_ _) bk_X2_phaseOfLife_0 bs_X2_phaseOfLife_0 hz (fun K hK => ?_)
  intro b1 b1b
  refine And.intro (fun c2 => ?_) (fun c2 => ?_)
  · refine hK 10 _ [] T ?_
    refine j_blx (F := fX2) tb_X2 (nn_ _) bk_X2_phaseOfLife_10 bs_X2_phaseOfLife_10 hz (fun K hK => ?_)
    refine And.intro (fun c3 => ?_) (fun c3 => ?_)
    · refine (show po_X2_phaseOfLife T p T (some (vI 0)) from ?_)
      exact ⟨rfl, _, rfl, by omega⟩
    · refine hK 19 _ [] T ?_
      refine j_blx (F := fX2) tb_X2 (nn_ _) bk_X2_phaseOfLife_19 bs_X2_phaseOfLife_19 hz (fun K hK => ?_)
      refine And.intro (fun c4 => ?_) (fun c4 => ?_)
      · exact absurd c4 (by omega)
      · intro b5 b5b
        refine And.intro (fun c6 => ?_) (fun c6 => ?_)
        · refine hK 33 _ [] T ?_
          refine j_blx (F := fX2) tb_X2 (nn_ _) bk_X2_phaseOfLife_33 bs_X2_phaseOfLife_33 hz (fun K hK => ?_)
          refine (show po_X2_phaseOfLife T p T (some (vI 1)) from ?_)
          exact ⟨rfl, _, rfl, by omega⟩
        · refine hK 34 _ [vI 2] T ?_
          refine j_blx (F := fX2) tb_X2 (nn_ _) bk_X2_phaseOfLife_34 bs_X2_phaseOfLife_34 hz (fun K hK => ?_)
          refine (show po_X2_phaseOfLife T p T (some (vI 2)) from ?_)
          exact ⟨rfl, _, rfl, by omega⟩
  · refine (show po_X2_phaseOfLife T p T (some (vI 3)) from ?_)
    exact ⟨rfl, _, rfl, by omega⟩
abbrev cX2_isDecided : ByteArray := prog_4_method_3_code
def yX2_isDecided : MethodName := ⟨RX2, "isDecided", "()Z"⟩
def zX2_isDecided : Zm := (RX2, cX2_isDecided, 1, (some .boolean), { frames := 1, cells := 0, slots := 0, locals := 20 })
theorem bk_X2_isDecided_0 : ck_ fX2 (some .boolean) cX2_isDecided 0 [.aload 0] 1 = true := qck_r (nn_ _) (by decide +kernel)
theorem bs_X2_isDecided_0 {P : Zt → Option Zv → Prop} (K : Int → Zl → List Zv → Zt → Prop) : sx_ K P [.aload 0] 1 = x_aload 0 (K 1) := ((xe_aload 0).trans (congrArg (x_aload 0) xe_nil))
set_option maxRecDepth 100000 in
theorem cl_X2_54 : cv_ RX2 54 yX2_phaseOfLife zX2_phaseOfLife 2 0 := ⟨gi_V (lwq_4 (dqc_m (dqc_m (dqc_m (dqc_m (dqa_m (dqa_m (dqa_m (List.mem_of_getElem? (i := 6) rfl)))))))) rfl : Cond.methodLink RX2 54 yX2_phaseOfLife ∈ lw_g) (lwq_4 (dqc_m (dqa_m (dqa_m (dqa_m (List.mem_of_getElem? (i := 2) rfl))))) rfl : Cond.instanceMethod yX2_phaseOfLife ∈ lw_g) (lwq_4 (dqc_m (dqa_m (dqa_m (dqa_m (List.mem_of_getElem? (i := 3) rfl))))) rfl : Cond.selects yX2_phaseOfLife.cls yX2_phaseOfLife yX2_phaseOfLife ∈ lw_g) (lwq_1 (dqa_m (dqa_m (List.mem_of_getElem? (i := 0) rfl))) rfl : Cond.initialized yX2_phaseOfLife.cls ∈ lw_g) (lwq_4 (dqc_m (dqa_m (dqa_m (dqa_m (List.mem_of_getElem? (i := 4) rfl))))) rfl : Cond.code yX2_phaseOfLife cX2_phaseOfLife 1 (some .int) ∈ lw_g), ⟨nmh_10.1, nmh_10.2, pdq_17⟩, ⟨_, _, rfl⟩⟩
theorem bk_X2_isDecided_4 : ck_ fX2 (some .boolean) cX2_isDecided 4 [.iconst 2, .if_icmp .lt 12, .iconst 1, .goto 13] 12 = true := qck_r (nn_ _) (by decide +kernel)
theorem bs_X2_isDecided_4 {P : Zt → Option Zv → Prop} (K : Int → Zl → List Zv → Zt → Prop) : sx_ K P [.iconst 2, .if_icmp .lt 12, .iconst 1, .goto 13] 12 = x_iconst 2 (x_if_icmp .lt 12 K (x_iconst 1 (x_goto 13 K))) := ((xe_iconst 2).trans (congrArg (x_iconst 2) ((xe_if_icmp .lt 12).trans (congrArg (x_if_icmp .lt 12 K) ((xe_iconst 1).trans (congrArg (x_iconst 1) (xe_goto 13)))))))
theorem bk_X2_isDecided_12 : ck_ fX2 (some .boolean) cX2_isDecided 12 [.iconst 0, .ireturn] 14 = true := qck_r (nn_ _) (by decide +kernel)
theorem bs_X2_isDecided_12 {P : Zt → Option Zv → Prop} (K : Int → Zl → List Zv → Zt → Prop) : sx_ K P [.iconst 0, .ireturn] 14 = x_iconst 0 (x_ireturn P) := ((xe_iconst 0).trans (congrArg (x_iconst 0) (xe_ireturn)))
theorem bk_X2_isDecided_13 : ck_ fX2 (some .boolean) cX2_isDecided 13 [.ireturn] 14 = true := qck_r (nn_ _) (by decide +kernel)
theorem bs_X2_isDecided_13 {P : Zt → Option Zv → Prop} (K : Int → Zl → List Zv → Zt → Prop) : sx_ K P [.ireturn] 14 = x_ireturn P := (xe_ireturn)
abbrev po_X2_isDecided (T : Zt) (p : Int) : Zt → Option Zv → Prop := fun T' r => T = T' ∧ ∃ x : Int, r = some (vI x) ∧ (0 ≤ x ∧ x ≤ 1)
set_option maxHeartbeats 4000000 in
theorem ct_X2_isDecided {T : Zt} {p : Int} : Ct_ yX2_isDecided zX2_isDecided T [vR 102 p] (po_X2_isDecided T p) := by
  refine ct_of pn_2 rfl rfl (Nat.le_of_ble_eq_true rfl) (fun hT hav => ?_)
  have hz : zX2_isDecided.2.2.2.1 = some .boolean → ∀ (T' : Zt) (x : Int), po_X2_isDecided T p T' (some (vI x)) → 0 ≤ x ∧ x ≤ 1 := fun _ T' x h => by obtain ⟨-, y, e, hy⟩ := h; cases e; omega
  show J_ zX2_isDecided T (po_X2_isDecided T p) 0 0 0 [some (vR 102 p)] [] T
  refine j_blx (F := fX2) tb_X2 (nn_ _) bk_X2_isDecided_0 bs_X2_isDecided_0 hz (fun K hK => ?_)
  refine hK 1 _ [vR 102 p] T ?_
  refine j_callV (y := yX2_phaseOfLife) (Yc := zX2_phaseOfLife) (rest := []) [] (ct_X2_phaseOfLife (T := T)) cl_X2_54 (qd_c (by decide +kernel)) (nn_ _) rfl (rf_of rfl) (Nat.le_of_ble_eq_true rfl) (Nat.le_of_ble_eq_true rfl) (Nat.le_of_ble_eq_true rfl) rfl ?_
  rintro _ _ ⟨rfl, x1, rfl, hx1⟩
  show J_ zX2_isDecided T (po_X2_isDecided T p) 0 0 4 _ [vI x1] T
  refine j_blx (F := fX2) tb_X2 (nn_ _) bk_X2_isDecided_4 bs_X2_isDecided_4 hz (fun K hK => ?_)
  refine And.intro (fun c2 => ?_) (fun c2 => ?_)
  · refine hK 12 _ [] T ?_
    refine j_blx (F := fX2) tb_X2 (nn_ _) bk_X2_isDecided_12 bs_X2_isDecided_12 hz (fun K hK => ?_)
    refine (show po_X2_isDecided T p T (some (vI 0)) from ?_)
    exact ⟨rfl, _, rfl, by omega⟩
  · refine hK 13 _ [vI 1] T ?_
    refine j_blx (F := fX2) tb_X2 (nn_ _) bk_X2_isDecided_13 bs_X2_isDecided_13 hz (fun K hK => ?_)
    refine (show po_X2_isDecided T p T (some (vI 1)) from ?_)
    exact ⟨rfl, _, rfl, by omega⟩
abbrev cX2_scoreOf : ByteArray := prog_4_method_4_code
def yX2_scoreOf : MethodName := ⟨RX2, "scoreOf", "(I)I"⟩
def zX2_scoreOf : Zm := (RX2, cX2_scoreOf, 2, (some .int), { frames := 0, cells := 0, slots := 0, locals := 0 })
theorem bk_X2_scoreOf_0 : ck_ fX2 (some .int) cX2_scoreOf 0 [.aload 0, .tableswitch 0 2 6 #[], .iconst (-1), .if_icmp .eq 31, .iload 1, .aload 0, .tableswitch 0 2 6 #[], .if_icmp .ne 20, .iconst 0, .goto 30] 20 = true := qck_r (nn_ _) (by decide +kernel)
theorem bs_X2_scoreOf_0 {P : Zt → Option Zv → Prop} (K : Int → Zl → List Zv → Zt → Prop) : sx_ K P [.aload 0, .tableswitch 0 2 6 #[], .iconst (-1), .if_icmp .eq 31, .iload 1, .aload 0, .tableswitch 0 2 6 #[], .if_icmp .ne 20, .iconst 0, .goto 30] 20 = x_aload 0 (x_g0 102 6 (-1) 1 (x_iconst (-1) (x_if_icmp .eq 31 K (x_iload 1 (x_aload 0 (x_g0 102 6 (-1) 1 (x_if_icmp .ne 20 K (x_iconst 0 (x_goto 30 K))))))))) := ((xe_aload 0).trans (congrArg (x_aload 0) ((xe_g0 (kk := 102) rfl tl_2_6).trans (congrArg (x_g0 102 6 (-1) 1) ((xe_iconst (-1)).trans (congrArg (x_iconst (-1)) ((xe_if_icmp .eq 31).trans (congrArg (x_if_icmp .eq 31 K) ((xe_iload 1).trans (congrArg (x_iload 1) ((xe_aload 0).trans (congrArg (x_aload 0) ((xe_g0 (kk := 102) rfl tl_2_6).trans (congrArg (x_g0 102 6 (-1) 1) ((xe_if_icmp .ne 20).trans (congrArg (x_if_icmp .ne 20 K) ((xe_iconst 0).trans (congrArg (x_iconst 0) (xe_goto 30)))))))))))))))))))
theorem bk_X2_scoreOf_31 : ck_ fX2 (some .int) cX2_scoreOf 31 [.aload 0, .tableswitch 0 2 10 #[], .ifnonnull 42, .iconst 0, .goto 51] 42 = true := qck_r (nn_ _) (by decide +kernel)
theorem bs_X2_scoreOf_31 {P : Zt → Option Zv → Prop} (K : Int → Zl → List Zv → Zt → Prop) : sx_ K P [.aload 0, .tableswitch 0 2 10 #[], .ifnonnull 42, .iconst 0, .goto 51] 42 = x_aload 0 (x_g4 102 103 10 (x_ifnonnull 42 K (x_iconst 0 (x_goto 51 K)))) := ((xe_aload 0).trans (congrArg (x_aload 0) ((xe_g4 (kk := 102) rfl tl_2_10).trans (congrArg (x_g4 102 103 10) ((xe_ifnonnull 42).trans (congrArg (x_ifnonnull 42 K) ((xe_iconst 0).trans (congrArg (x_iconst 0) (xe_goto 51)))))))))
theorem bk_X2_scoreOf_51 : ck_ fX2 (some .int) cX2_scoreOf 51 [.ireturn] 52 = true := qck_r (nn_ _) (by decide +kernel)
theorem bs_X2_scoreOf_51 {P : Zt → Option Zv → Prop} (K : Int → Zl → List Zv → Zt → Prop) : sx_ K P [.ireturn] 52 = x_ireturn P := (xe_ireturn)
theorem bk_X2_scoreOf_42 : ck_ fX2 (some .int) cX2_scoreOf 42 [.aload 0, .tableswitch 0 2 10 #[], .tableswitch 0 3 8 #[], .iload 1, .iaload, .ireturn] 52 = true := qck_r (nn_ _) (by decide +kernel)
theorem bs_X2_scoreOf_42 {P : Zt → Option Zv → Prop} (K : Int → Zl → List Zv → Zt → Prop) : sx_ K P [.aload 0, .tableswitch 0 2 10 #[], .tableswitch 0 3 8 #[], .iload 1, .iaload, .ireturn] 52 = x_aload 0 (x_g4 102 103 10 (x_g2 103 468 (x_iload 1 (x_iaload (x_ireturn P))))) := ((xe_aload 0).trans (congrArg (x_aload 0) ((xe_g4 (kk := 102) rfl tl_2_10).trans (congrArg (x_g4 102 103 10) ((xe_g2 (kk := 103) rfl tl_3_8).trans (congrArg (x_g2 103 468) ((xe_iload 1).trans (congrArg (x_iload 1) ((xe_iaload).trans (congrArg (x_iaload) (xe_ireturn)))))))))))
theorem bk_X2_scoreOf_20 : ck_ fX2 (some .int) cX2_scoreOf 20 [.aload 0, .tableswitch 0 2 0 #[], .tableswitch 0 0 1 #[], .iconst 12, .iaload, .ireturn] 31 = true := qck_r (nn_ _) (by decide +kernel)
theorem bs_X2_scoreOf_20 {P : Zt → Option Zv → Prop} (K : Int → Zl → List Zv → Zt → Prop) : sx_ K P [.aload 0, .tableswitch 0 2 0 #[], .tableswitch 0 0 1 #[], .iconst 12, .iaload, .ireturn] 31 = x_aload 0 (x_g3 102 100 0 (x_g2 100 401 (x_iconst 12 (x_iaload (x_ireturn P))))) := ((xe_aload 0).trans (congrArg (x_aload 0) ((xe_g3 (kk := 102) rfl tl_2_0).trans (congrArg (x_g3 102 100 0) ((xe_g2 (kk := 100) rfl tl_0_1).trans (congrArg (x_g2 100 401) ((xe_iconst 12).trans (congrArg (x_iconst 12) ((xe_iaload).trans (congrArg (x_iaload) (xe_ireturn)))))))))))
theorem bk_X2_scoreOf_30 : ck_ fX2 (some .int) cX2_scoreOf 30 [.ireturn] 31 = true := qck_r (nn_ _) (by decide +kernel)
theorem bs_X2_scoreOf_30 {P : Zt → Option Zv → Prop} (K : Int → Zl → List Zv → Zt → Prop) : sx_ K P [.ireturn] 31 = x_ireturn P := (xe_ireturn)
abbrev po_X2_scoreOf (T : Zt) (p : Int) (s : Int) : Zt → Option Zv → Prop := fun T' r => T = T' ∧ ∃ x : Int, r = some (vI x) ∧ (0 = (0 : Int))
set_option maxHeartbeats 4000000 in
theorem ct_X2_scoreOf {T : Zt} {p : Int} {s : Int} (h1 : 0 ≤ s ∧ s ≤ 1) : Ct_ yX2_scoreOf zX2_scoreOf T [vR 102 p, vI s] (po_X2_scoreOf T p s) := by
  refine ct_of pn_2 rfl rfl (Nat.le_of_ble_eq_true rfl) (fun hT hav => ?_)
  have hr_s : -2147483648 ≤ s ∧ s ≤ 2147483647 := hav (vI s) (List.mem_cons_of_mem _ List.mem_cons_self)
  have hz : zX2_scoreOf.2.2.2.1 = some .boolean → ∀ (T' : Zt) (x : Int), po_X2_scoreOf T p s T' (some (vI x)) → 0 ≤ x ∧ x ≤ 1 := fun h => by cases h
  show J_ zX2_scoreOf T (po_X2_scoreOf T p s) 0 0 0 [some (vR 102 p), some (vI s)] [] T
  refine j_blx (F := fX2) tb_X2 (nn_ _) bk_X2_scoreOf_0 bs_X2_scoreOf_0 hz (fun K hK => ?_)
  intro b1 b1b
  refine And.intro (fun c2 => ?_) (fun c2 => ?_)
  · refine hK 31 _ [] T ?_
    refine j_blx (F := fX2) tb_X2 (nn_ _) bk_X2_scoreOf_31 bs_X2_scoreOf_31 hz (fun K hK => ?_)
    refine And.intro (fun c3 => ?_) (fun c3 => ?_)
    · refine hK 51 _ [vI 0] T ?_
      refine j_blx (F := fX2) tb_X2 (nn_ _) bk_X2_scoreOf_51 bs_X2_scoreOf_51 hz (fun K hK => ?_)
      refine (show po_X2_scoreOf T p s T (some (vI 0)) from ?_)
      exact ⟨rfl, _, rfl, by rfl⟩
    · refine hK 42 _ [] T ?_
      refine j_blx (F := fX2) tb_X2 (nn_ _) bk_X2_scoreOf_42 bs_X2_scoreOf_42 hz (fun K hK => ?_)
      refine And.intro (fun c4 => ?_) (fun c4 => ?_)
      · exact absurd c4 (by omega)
      · refine ix_i (by omega) ?_
        intro b5 b5b
        refine (show po_X2_scoreOf T p s T (some (vI (T 468 p s))) from ?_)
        exact ⟨rfl, _, rfl, by rfl⟩
  · intro b6 b6b
    refine And.intro (fun c7 => ?_) (fun c7 => ?_)
    · refine hK 20 _ [] T ?_
      refine j_blx (F := fX2) tb_X2 (nn_ _) bk_X2_scoreOf_20 bs_X2_scoreOf_20 hz (fun K hK => ?_)
      refine ix_i (by omega) ?_
      intro b9 b9b
      refine (show po_X2_scoreOf T p s T (some (vI (T 401 (T 102 p 0) 12))) from ?_)
      exact ⟨rfl, _, rfl, by rfl⟩
    · refine hK 30 _ [vI 0] T ?_
      refine j_blx (F := fX2) tb_X2 (nn_ _) bk_X2_scoreOf_30 bs_X2_scoreOf_30 hz (fun K hK => ?_)
      refine (show po_X2_scoreOf T p s T (some (vI 0)) from ?_)
      exact ⟨rfl, _, rfl, by rfl⟩
abbrev cX2_has : ByteArray := prog_4_method_5_code
def yX2_has : MethodName := ⟨RX2, "has", "(I)Z"⟩
def zX2_has : Zm := (RX2, cX2_has, 2, (some .boolean), { frames := 0, cells := 0, slots := 0, locals := 0 })
theorem bk_X2_has_0 : ck_ fX2 (some .boolean) cX2_has 0 [.aload 0, .tableswitch 0 2 3 #[], .iload 1, .if_icmp .eq 16, .aload 0, .tableswitch 0 2 4 #[], .iload 1, .if_icmp .ne 20, .iconst 1, .goto 21] 20 = true := qck_r (nn_ _) (by decide +kernel)
theorem bs_X2_has_0 {P : Zt → Option Zv → Prop} (K : Int → Zl → List Zv → Zt → Prop) : sx_ K P [.aload 0, .tableswitch 0 2 3 #[], .iload 1, .if_icmp .eq 16, .aload 0, .tableswitch 0 2 4 #[], .iload 1, .if_icmp .ne 20, .iconst 1, .goto 21] 20 = x_aload 0 (x_g0 102 3 0 11 (x_iload 1 (x_if_icmp .eq 16 K (x_aload 0 (x_g0 102 4 0 11 (x_iload 1 (x_if_icmp .ne 20 K (x_iconst 1 (x_goto 21 K))))))))) := ((xe_aload 0).trans (congrArg (x_aload 0) ((xe_g0 (kk := 102) rfl tl_2_3).trans (congrArg (x_g0 102 3 0 11) ((xe_iload 1).trans (congrArg (x_iload 1) ((xe_if_icmp .eq 16).trans (congrArg (x_if_icmp .eq 16 K) ((xe_aload 0).trans (congrArg (x_aload 0) ((xe_g0 (kk := 102) rfl tl_2_4).trans (congrArg (x_g0 102 4 0 11) ((xe_iload 1).trans (congrArg (x_iload 1) ((xe_if_icmp .ne 20).trans (congrArg (x_if_icmp .ne 20 K) ((xe_iconst 1).trans (congrArg (x_iconst 1) (xe_goto 21)))))))))))))))))))
theorem bk_X2_has_16 : ck_ fX2 (some .boolean) cX2_has 16 [.iconst 1, .goto 21] 20 = true := qck_r (nn_ _) (by decide +kernel)
theorem bs_X2_has_16 {P : Zt → Option Zv → Prop} (K : Int → Zl → List Zv → Zt → Prop) : sx_ K P [.iconst 1, .goto 21] 20 = x_iconst 1 (x_goto 21 K) := ((xe_iconst 1).trans (congrArg (x_iconst 1) (xe_goto 21)))
theorem bk_X2_has_21 : ck_ fX2 (some .boolean) cX2_has 21 [.ireturn] 22 = true := qck_r (nn_ _) (by decide +kernel)
theorem bs_X2_has_21 {P : Zt → Option Zv → Prop} (K : Int → Zl → List Zv → Zt → Prop) : sx_ K P [.ireturn] 22 = x_ireturn P := (xe_ireturn)
theorem bk_X2_has_20 : ck_ fX2 (some .boolean) cX2_has 20 [.iconst 0, .ireturn] 22 = true := qck_r (nn_ _) (by decide +kernel)
theorem bs_X2_has_20 {P : Zt → Option Zv → Prop} (K : Int → Zl → List Zv → Zt → Prop) : sx_ K P [.iconst 0, .ireturn] 22 = x_iconst 0 (x_ireturn P) := ((xe_iconst 0).trans (congrArg (x_iconst 0) (xe_ireturn)))
abbrev po_X2_has (T : Zt) (p : Int) (c : Int) : Zt → Option Zv → Prop := fun T' r => T = T' ∧ ∃ x : Int, r = some (vI x) ∧ (0 ≤ x ∧ x ≤ 1)
set_option maxHeartbeats 4000000 in
theorem ct_X2_has {T : Zt} {p : Int} {c : Int} : Ct_ yX2_has zX2_has T [vR 102 p, vI c] (po_X2_has T p c) := by
  refine ct_of pn_2 rfl rfl (Nat.le_of_ble_eq_true rfl) (fun hT hav => ?_)
  have hr_c : -2147483648 ≤ c ∧ c ≤ 2147483647 := hav (vI c) (List.mem_cons_of_mem _ List.mem_cons_self)
  have hz : zX2_has.2.2.2.1 = some .boolean → ∀ (T' : Zt) (x : Int), po_X2_has T p c T' (some (vI x)) → 0 ≤ x ∧ x ≤ 1 := fun _ T' x h => by obtain ⟨-, y, e, hy⟩ := h; cases e; omega
  show J_ zX2_has T (po_X2_has T p c) 0 0 0 [some (vR 102 p), some (vI c)] [] T
  refine j_blx (F := fX2) tb_X2 (nn_ _) bk_X2_has_0 bs_X2_has_0 hz (fun K hK => ?_)
  intro b1 b1b
  refine And.intro (fun c2 => ?_) (fun c2 => ?_)
  · refine hK 16 _ [] T ?_
    refine j_blx (F := fX2) tb_X2 (nn_ _) bk_X2_has_16 bs_X2_has_16 hz (fun K hK => ?_)
    refine hK 21 _ [vI 1] T ?_
    refine j_blx (F := fX2) tb_X2 (nn_ _) bk_X2_has_21 bs_X2_has_21 hz (fun K hK => ?_)
    refine (show po_X2_has T p c T (some (vI 1)) from ?_)
    exact ⟨rfl, _, rfl, by omega⟩
  · intro b3 b3b
    refine And.intro (fun c4 => ?_) (fun c4 => ?_)
    · refine hK 20 _ [] T ?_
      refine j_blx (F := fX2) tb_X2 (nn_ _) bk_X2_has_20 bs_X2_has_20 hz (fun K hK => ?_)
      refine (show po_X2_has T p c T (some (vI 0)) from ?_)
      exact ⟨rfl, _, rfl, by omega⟩
    · refine hK 21 _ [vI 1] T ?_
      refine j_blx (F := fX2) tb_X2 (nn_ _) bk_X2_has_21 bs_X2_has_21 hz (fun K hK => ?_)
      refine (show po_X2_has T p c T (some (vI 1)) from ?_)
      exact ⟨rfl, _, rfl, by omega⟩
abbrev cX2_hasEnoughListed : ByteArray := prog_4_method_6_code
def yX2_hasEnoughListed : MethodName := ⟨RX2, "hasEnoughListed", "()Z"⟩
def zX2_hasEnoughListed : Zm := (RX2, cX2_hasEnoughListed, 1, (some .boolean), { frames := 0, cells := 0, slots := 0, locals := 0 })
abbrev cX2_rest : ByteArray := prog_4_method_7_code
def yX2_rest : MethodName := ⟨RX2, "rest", "()I"⟩
def zX2_rest : Zm := (RX2, cX2_rest, 1, (some .int), { frames := 0, cells := 0, slots := 0, locals := 0 })
abbrev cX2_placeOf : ByteArray := prog_4_method_8_code
def yX2_placeOf : MethodName := ⟨RX2, "placeOf", "(I)I"⟩
def zX2_placeOf : Zm := (RX2, cX2_placeOf, 4, (some .int), { frames := 0, cells := 0, slots := 0, locals := 0 })
abbrev cX3_isSentOff : ByteArray := prog_5_method_4_code
def yX3_isSentOff : MethodName := ⟨RX3, "isSentOff", "(I)Z"⟩
def zX3_isSentOff : Zm := (RX3, cX3_isSentOff, 2, (some .boolean), { frames := 0, cells := 0, slots := 0, locals := 0 })
theorem bk_X3_isSentOff_0 : ck_ fX3 (some .boolean) cX3_isSentOff 0 [.aload 0, .tableswitch 0 3 12 #[], .iload 1, .iaload, .iconst 3, .if_icmp .ne 14, .iconst 1, .goto 15] 14 = true := qck_r (nn_ _) (by decide +kernel)
theorem bs_X3_isSentOff_0 {P : Zt → Option Zv → Prop} (K : Int → Zl → List Zv → Zt → Prop) : sx_ K P [.aload 0, .tableswitch 0 3 12 #[], .iload 1, .iaload, .iconst 3, .if_icmp .ne 14, .iconst 1, .goto 15] 14 = x_aload 0 (x_g2 103 472 (x_iload 1 (x_iaload (x_iconst 3 (x_if_icmp .ne 14 K (x_iconst 1 (x_goto 15 K))))))) := ((xe_aload 0).trans (congrArg (x_aload 0) ((xe_g2 (kk := 103) rfl tl_3_12).trans (congrArg (x_g2 103 472) ((xe_iload 1).trans (congrArg (x_iload 1) ((xe_iaload).trans (congrArg (x_iaload) ((xe_iconst 3).trans (congrArg (x_iconst 3) ((xe_if_icmp .ne 14).trans (congrArg (x_if_icmp .ne 14 K) ((xe_iconst 1).trans (congrArg (x_iconst 1) (xe_goto 15)))))))))))))))
theorem bk_X3_isSentOff_14 : ck_ fX3 (some .boolean) cX3_isSentOff 14 [.iconst 0, .ireturn] 16 = true := qck_r (nn_ _) (by decide +kernel)
theorem bs_X3_isSentOff_14 {P : Zt → Option Zv → Prop} (K : Int → Zl → List Zv → Zt → Prop) : sx_ K P [.iconst 0, .ireturn] 16 = x_iconst 0 (x_ireturn P) := ((xe_iconst 0).trans (congrArg (x_iconst 0) (xe_ireturn)))
theorem bk_X3_isSentOff_15 : ck_ fX3 (some .boolean) cX3_isSentOff 15 [.ireturn] 16 = true := qck_r (nn_ _) (by decide +kernel)
theorem bs_X3_isSentOff_15 {P : Zt → Option Zv → Prop} (K : Int → Zl → List Zv → Zt → Prop) : sx_ K P [.ireturn] 16 = x_ireturn P := (xe_ireturn)
abbrev po_X3_isSentOff (T : Zt) (p : Int) (k : Int) : Zt → Option Zv → Prop := fun T' r => T = T' ∧ ∃ x : Int, r = some (vI x) ∧ (0 ≤ x ∧ x ≤ 1)
set_option maxHeartbeats 4000000 in
theorem ct_X3_isSentOff {T : Zt} {p : Int} {k : Int} (h1 : 0 ≤ k ∧ k < 20) : Ct_ yX3_isSentOff zX3_isSentOff T [vR 103 p, vI k] (po_X3_isSentOff T p k) := by
  refine ct_of pn_3 rfl rfl (Nat.le_of_ble_eq_true rfl) (fun hT hav => ?_)
  have hr_k : -2147483648 ≤ k ∧ k ≤ 2147483647 := hav (vI k) (List.mem_cons_of_mem _ List.mem_cons_self)
  have hz : zX3_isSentOff.2.2.2.1 = some .boolean → ∀ (T' : Zt) (x : Int), po_X3_isSentOff T p k T' (some (vI x)) → 0 ≤ x ∧ x ≤ 1 := fun _ T' x h => by obtain ⟨-, y, e, hy⟩ := h; cases e; omega
  show J_ zX3_isSentOff T (po_X3_isSentOff T p k) 0 0 0 [some (vR 103 p), some (vI k)] [] T
  refine j_blx (F := fX3) tb_X3 (nn_ _) bk_X3_isSentOff_0 bs_X3_isSentOff_0 hz (fun K hK => ?_)
  refine ix_i (by omega) ?_
  intro b1 b1b
  refine And.intro (fun c2 => ?_) (fun c2 => ?_)
  · refine hK 14 _ [] T ?_
    refine j_blx (F := fX3) tb_X3 (nn_ _) bk_X3_isSentOff_14 bs_X3_isSentOff_14 hz (fun K hK => ?_)
    refine (show po_X3_isSentOff T p k T (some (vI 0)) from ?_)
    exact ⟨rfl, _, rfl, by omega⟩
  · refine hK 15 _ [vI 1] T ?_
    refine j_blx (F := fX3) tb_X3 (nn_ _) bk_X3_isSentOff_15 bs_X3_isSentOff_15 hz (fun K hK => ?_)
    refine (show po_X3_isSentOff T p k T (some (vI 1)) from ?_)
    exact ⟨rfl, _, rfl, by omega⟩
abbrev cX3_personAt : ByteArray := prog_5_method_3_code
def yX3_personAt : MethodName := ⟨RX3, "personAt", "(II)I"⟩
def zX3_personAt : Zm := (RX3, cX3_personAt, 3, (some .int), { frames := 0, cells := 0, slots := 0, locals := 0 })
abbrev cX3_isBounded : ByteArray := prog_5_method_7_code
def yX3_isBounded : MethodName := ⟨RX3, "isBounded", "(II)Z"⟩
def zX3_isBounded : Zm := (RX3, cX3_isBounded, 3, (some .boolean), { frames := 0, cells := 0, slots := 0, locals := 0 })
abbrev cX3_isAllowed : ByteArray := prog_5_method_8_code
def yX3_isAllowed : MethodName := ⟨RX3, "isAllowed", "(II)Z"⟩
def zX3_isAllowed : Zm := (RX3, cX3_isAllowed, 3, (some .boolean), { frames := 0, cells := 0, slots := 0, locals := 0 })
abbrev cX3_needsPerson : ByteArray := prog_5_method_9_code
def yX3_needsPerson : MethodName := ⟨RX3, "needsPerson", "(I)Z"⟩
def zX3_needsPerson : Zm := (RX3, cX3_needsPerson, 2, (some .boolean), { frames := 0, cells := 0, slots := 0, locals := 0 })
abbrev cX3_fieldPlace : ByteArray := prog_5_method_10_code
def yX3_fieldPlace : MethodName := ⟨RX3, "fieldPlace", "(II)I"⟩
def zX3_fieldPlace : Zm := (RX3, cX3_fieldPlace, 4, (some .int), { frames := 1, cells := 0, slots := 0, locals := 22 })
set_option maxRecDepth 100000 in
theorem cl_X3_92 : cv_ RX3 92 yX3_personAt zX3_personAt 3 2 := ⟨gi_V (lwq_5 (dqc_m (dqa_m (dqa_m (List.mem_of_getElem? (i := 0) rfl)))) rfl : Cond.methodLink RX3 92 yX3_personAt ∈ lw_g) (lwq_5 (dqc_m (dqa_m (dqa_m (List.mem_of_getElem? (i := 1) rfl)))) rfl : Cond.instanceMethod yX3_personAt ∈ lw_g) (lwq_5 (dqc_m (dqa_m (dqa_m (List.mem_of_getElem? (i := 2) rfl)))) rfl : Cond.selects yX3_personAt.cls yX3_personAt yX3_personAt ∈ lw_g) (lwq_1 (dqa_m (dqa_m (List.mem_of_getElem? (i := 2) rfl))) rfl : Cond.initialized yX3_personAt.cls ∈ lw_g) (lwq_5 (dqc_m (dqa_m (dqa_m (List.mem_of_getElem? (i := 3) rfl)))) rfl : Cond.code yX3_personAt cX3_personAt 3 (some .int) ∈ lw_g), ⟨nmh_3.1, nmh_3.2, pdq_4⟩, ⟨_, _, rfl⟩⟩
abbrev cX3_benchPlace : ByteArray := prog_5_method_11_code
def yX3_benchPlace : MethodName := ⟨RX3, "benchPlace", "(II)I"⟩
def zX3_benchPlace : Zm := (RX3, cX3_benchPlace, 5, (some .int), { frames := 0, cells := 0, slots := 0, locals := 0 })
abbrev cX3_isWon : ByteArray := prog_5_method_20_code
def yX3_isWon : MethodName := ⟨RX3, "isWon", "([III)Z"⟩
def zX3_isWon : Zm := (RX3, cX3_isWon, 3, (some .boolean), { frames := 0, cells := 0, slots := 0, locals := 0 })
abbrev cX3_closeGap : ByteArray := prog_5_method_17_code
def yX3_closeGap : MethodName := ⟨RX3, "closeGap", "(II)V"⟩
def zX3_closeGap : Zm := (RX3, cX3_closeGap, 4, none, { frames := 0, cells := 0, slots := 0, locals := 0 })
abbrev cX3_rotate : ByteArray := prog_5_method_19_code
def yX3_rotate : MethodName := ⟨RX3, "rotate", "(I)V"⟩
def zX3_rotate : Zm := (RX3, cX3_rotate, 3, none, { frames := 1, cells := 0, slots := 0, locals := 23 })
set_option maxRecDepth 100000 in
theorem cl_X3_119 : cv_ RX3 119 yX3_closeGap zX3_closeGap 3 2 := ⟨gi_V (lwq_5 (dqc_m (dqc_m (dqa_m (dqa_m (List.mem_of_getElem? (i := 0) rfl))))) rfl : Cond.methodLink RX3 119 yX3_closeGap ∈ lw_g) (lwq_5 (dqc_m (dqc_m (dqa_m (dqa_m (List.mem_of_getElem? (i := 2) rfl))))) rfl : Cond.instanceMethod yX3_closeGap ∈ lw_g) (lw_sel 84 rfl : Cond.selects yX3_closeGap.cls yX3_closeGap yX3_closeGap ∈ lw_g) (lwq_1 (dqa_m (dqa_m (List.mem_of_getElem? (i := 2) rfl))) rfl : Cond.initialized yX3_closeGap.cls ∈ lw_g) (lwq_5 (dqc_m (dqc_m (dqa_m (dqa_m (List.mem_of_getElem? (i := 3) rfl))))) rfl : Cond.code yX3_closeGap cX3_closeGap 4 none ∈ lw_g), ⟨nmh_3.1, nmh_3.2, pdq_0⟩, ⟨_, _, rfl⟩⟩
abbrev cX3_isLastInning : ByteArray := prog_5_method_26_code
def yX3_isLastInning : MethodName := ⟨RX3, "isLastInning", "()Z"⟩
def zX3_isLastInning : Zm := (RX3, cX3_isLastInning, 1, (some .boolean), { frames := 0, cells := 0, slots := 0, locals := 0 })
theorem fd_u {T T1 : Zt} {k : Nat} {p s v : Int} (e : T1 = up_ T k p s v) (hs : 0 ≤ s ∧ s ≤ 1) : (s = 0 ∧ T1 k p 0 = v ∧ T1 k p 1 = T k p 1) ∨ (s = 1 ∧ T1 k p 1 = v ∧ T1 k p 0 = T k p 0) := by
  rcases (by omega : s = 0 ∨ s = 1) with z | z
  · subst z; exact Or.inl ⟨rfl, up_f e, up_g e (by omega)⟩
  · subst z; exact Or.inr ⟨rfl, up_f e, up_g e (by omega)⟩
abbrev cX3_sendOff : ByteArray := prog_5_method_16_code
def yX3_sendOff : MethodName := ⟨RX3, "sendOff", "(II)V"⟩
def zX3_sendOff : Zm := (RX3, cX3_sendOff, 3, none, { frames := 1, cells := 0, slots := 0, locals := 23 })
abbrev cX3_showYellow : ByteArray := prog_5_method_15_code
def yX3_showYellow : MethodName := ⟨RX3, "showYellow", "(II)V"⟩
def zX3_showYellow : Zm := (RX3, cX3_showYellow, 4, none, { frames := 2, cells := 0, slots := 0, locals := 45 })
set_option maxRecDepth 100000 in
theorem cl_X3_116 : cv_ RX3 116 yX3_sendOff zX3_sendOff 3 2 := ⟨gi_V (lwq_5 (dqc_m (dqc_m (dqa_m (List.mem_of_getElem? (i := 4) rfl)))) rfl : Cond.methodLink RX3 116 yX3_sendOff ∈ lw_g) (lwq_5 (dqc_m (dqc_m (dqa_m (List.mem_of_getElem? (i := 6) rfl)))) rfl : Cond.instanceMethod yX3_sendOff ∈ lw_g) (lw_sel 99 rfl : Cond.selects yX3_sendOff.cls yX3_sendOff yX3_sendOff ∈ lw_g) (lwq_1 (dqa_m (dqa_m (List.mem_of_getElem? (i := 2) rfl))) rfl : Cond.initialized yX3_sendOff.cls ∈ lw_g) (lwq_5 (dqc_m (dqc_m (dqa_m (List.mem_of_getElem? (i := 7) rfl)))) rfl : Cond.code yX3_sendOff cX3_sendOff 3 none ∈ lw_g), ⟨nmh_3.1, nmh_3.2, pdq_0⟩, ⟨_, _, rfl⟩⟩
abbrev cX3_substitute : ByteArray := prog_5_method_13_code
def yX3_substitute : MethodName := ⟨RX3, "substitute", "(III)V"⟩
def zX3_substitute : Zm := (RX3, cX3_substitute, 6, none, { frames := 2, cells := 0, slots := 0, locals := 45 })
set_option maxRecDepth 100000 in
theorem cl_X3_79 : cv_ RX3 79 yX3_fieldPlace zX3_fieldPlace 3 2 := ⟨gi_V (lwq_5 (dqc_m (dqa_m (List.mem_of_getElem? (i := 4) rfl))) rfl : Cond.methodLink RX3 79 yX3_fieldPlace ∈ lw_g) (lwq_5 (dqc_m (dqa_m (List.mem_of_getElem? (i := 6) rfl))) rfl : Cond.instanceMethod yX3_fieldPlace ∈ lw_g) (lw_sel 87 rfl : Cond.selects yX3_fieldPlace.cls yX3_fieldPlace yX3_fieldPlace ∈ lw_g) (lwq_1 (dqa_m (dqa_m (List.mem_of_getElem? (i := 2) rfl))) rfl : Cond.initialized yX3_fieldPlace.cls ∈ lw_g) (lwq_5 (dqc_m (dqa_m (List.mem_of_getElem? (i := 7) rfl))) rfl : Cond.code yX3_fieldPlace cX3_fieldPlace 4 (some .int) ∈ lw_g), ⟨nmh_3.1, nmh_3.2, pdq_4⟩, ⟨_, _, rfl⟩⟩
set_option maxRecDepth 100000 in
theorem cl_X3_83 : cv_ RX3 83 yX3_benchPlace zX3_benchPlace 3 2 := ⟨gi_V (lwq_5 (dqc_m (dqa_m (dqa_m (List.mem_of_getElem? (i := 4) rfl)))) rfl : Cond.methodLink RX3 83 yX3_benchPlace ∈ lw_g) (lwq_5 (dqc_m (dqa_m (dqa_m (List.mem_of_getElem? (i := 6) rfl)))) rfl : Cond.instanceMethod yX3_benchPlace ∈ lw_g) (lw_sel 83 rfl : Cond.selects yX3_benchPlace.cls yX3_benchPlace yX3_benchPlace ∈ lw_g) (lwq_1 (dqa_m (dqa_m (List.mem_of_getElem? (i := 2) rfl))) rfl : Cond.initialized yX3_benchPlace.cls ∈ lw_g) (lwq_5 (dqc_m (dqa_m (dqa_m (List.mem_of_getElem? (i := 7) rfl)))) rfl : Cond.code yX3_benchPlace cX3_benchPlace 5 (some .int) ∈ lw_g), ⟨nmh_3.1, nmh_3.2, pdq_4⟩, ⟨_, _, rfl⟩⟩
abbrev cX3_playFootball : ByteArray := prog_5_method_14_code
def yX3_playFootball : MethodName := ⟨RX3, "playFootball", "(III)V"⟩
def zX3_playFootball : Zm := (RX3, cX3_playFootball, 4, none, { frames := 3, cells := 0, slots := 0, locals := 68 })
theorem ds_X3_playFootball_1 : decode cX3_playFootball 1 = .ok (.tableswitch 87 1 4 #[31, 44, 59, 73], 31) := by decide +kernel
set_option maxRecDepth 100000 in
theorem cl_X3_113 : cv_ RX3 113 yX3_showYellow zX3_showYellow 3 2 := ⟨gi_V (lwq_5 (dqc_m (dqc_m (dqa_m (List.mem_of_getElem? (i := 0) rfl)))) rfl : Cond.methodLink RX3 113 yX3_showYellow ∈ lw_g) (lwq_5 (dqc_m (dqc_m (dqa_m (List.mem_of_getElem? (i := 2) rfl)))) rfl : Cond.instanceMethod yX3_showYellow ∈ lw_g) (lw_sel 100 rfl : Cond.selects yX3_showYellow.cls yX3_showYellow yX3_showYellow ∈ lw_g) (lwq_1 (dqa_m (dqa_m (List.mem_of_getElem? (i := 2) rfl))) rfl : Cond.initialized yX3_showYellow.cls ∈ lw_g) (lwq_5 (dqc_m (dqc_m (dqa_m (List.mem_of_getElem? (i := 3) rfl)))) rfl : Cond.code yX3_showYellow cX3_showYellow 4 none ∈ lw_g), ⟨nmh_3.1, nmh_3.2, pdq_0⟩, ⟨_, _, rfl⟩⟩
abbrev cX3_playVolleyball : ByteArray := prog_5_method_18_code
def yX3_playVolleyball : MethodName := ⟨RX3, "playVolleyball", "(I)V"⟩
def zX3_playVolleyball : Zm := (RX3, cX3_playVolleyball, 3, none, { frames := 2, cells := 0, slots := 0, locals := 45 })
set_option maxRecDepth 100000 in
theorem cl_X3_125 : cs_ RX3 125 yX3_isWon zX3_isWon 3 := ⟨gi_S (lwq_5 (dqc_m (dqc_m (dqa_m (dqa_m (dqa_m (List.mem_of_getElem? (i := 4) rfl)))))) rfl : Cond.methodLink RX3 125 yX3_isWon ∈ lw_g) (lwq_5 (dqc_m (dqc_m (dqa_m (dqa_m (dqa_m (List.mem_of_getElem? (i := 5) rfl)))))) rfl : Cond.static yX3_isWon ∈ lw_g) (lwq_1 (dqa_m (dqa_m (List.mem_of_getElem? (i := 2) rfl))) rfl : Cond.initialized yX3_isWon.cls ∈ lw_g) (lwq_5 (dqc_m (dqc_m (dqa_m (dqa_m (dqa_m (List.mem_of_getElem? (i := 6) rfl)))))) rfl : Cond.code yX3_isWon cX3_isWon 3 (some .boolean) ∈ lw_g), ⟨by decide, by decide, by decide +kernel⟩⟩
set_option maxRecDepth 100000 in
theorem cl_X3_62 : cs_ RX3 62 yJ7_fill_53178 zJ7_fill_53178 2 := ⟨gi_S (lwq_5 (dqa_m (dqa_m (List.mem_of_getElem? (i := 2) rfl))) rfl : Cond.methodLink RX3 62 yJ7_fill_53178 ∈ lw_g) (lwq_2 (dqa_m (dqa_m (dqa_m (List.mem_of_getElem? (i := 2) rfl)))) rfl : Cond.static yJ7_fill_53178 ∈ lw_g) (lwq_1 (List.mem_of_getElem? (i := 7) rfl) rfl : Cond.initialized yJ7_fill_53178.cls ∈ lw_g) (lwq_2 (dqa_m (dqa_m (dqa_m (List.mem_of_getElem? (i := 3) rfl)))) rfl : Cond.code yJ7_fill_53178 cJ7_fill_53178 4 none ∈ lw_g), ⟨by decide, by decide, by decide +kernel⟩⟩
set_option maxRecDepth 100000 in
theorem cl_X3_122 : cv_ RX3 122 yX3_rotate zX3_rotate 3 1 := ⟨gi_V (lwq_5 (dqc_m (dqc_m (dqa_m (dqa_m (dqa_m (List.mem_of_getElem? (i := 0) rfl)))))) rfl : Cond.methodLink RX3 122 yX3_rotate ∈ lw_g) (lwq_5 (dqc_m (dqc_m (dqa_m (dqa_m (dqa_m (List.mem_of_getElem? (i := 2) rfl)))))) rfl : Cond.instanceMethod yX3_rotate ∈ lw_g) (lw_sel 98 rfl : Cond.selects yX3_rotate.cls yX3_rotate yX3_rotate ∈ lw_g) (lwq_1 (dqa_m (dqa_m (List.mem_of_getElem? (i := 2) rfl))) rfl : Cond.initialized yX3_rotate.cls ∈ lw_g) (lwq_5 (dqc_m (dqc_m (dqa_m (dqa_m (dqa_m (List.mem_of_getElem? (i := 3) rfl)))))) rfl : Cond.code yX3_rotate cX3_rotate 3 none ∈ lw_g), ⟨nmh_3.1, nmh_3.2, pdq_9⟩, ⟨_, _, rfl⟩⟩
abbrev cX3_playTennis : ByteArray := prog_5_method_21_code
def yX3_playTennis : MethodName := ⟨RX3, "playTennis", "(II)V"⟩
def zX3_playTennis : Zm := (RX3, cX3_playTennis, 5, none, { frames := 1, cells := 0, slots := 0, locals := 23 })
abbrev cX3_endHalf : ByteArray := prog_5_method_28_code
def yX3_endHalf : MethodName := ⟨RX3, "endHalf", "()V"⟩
def zX3_endHalf : Zm := (RX3, cX3_endHalf, 2, none, { frames := 1, cells := 0, slots := 0, locals := 20 })
set_option maxRecDepth 100000 in
theorem cl_X3_147 : cv_ RX3 147 yX3_isLastInning zX3_isLastInning 3 0 := ⟨gi_V (lwq_5 (dqc_m (dqc_m (dqc_m (dqa_m (dqa_m (List.mem_of_getElem? (i := 5) rfl)))))) rfl : Cond.methodLink RX3 147 yX3_isLastInning ∈ lw_g) (lwq_5 (dqc_m (dqc_m (dqc_m (dqa_m (dqa_m (List.mem_of_getElem? (i := 7) rfl)))))) rfl : Cond.instanceMethod yX3_isLastInning ∈ lw_g) (lw_sel 91 rfl : Cond.selects yX3_isLastInning.cls yX3_isLastInning yX3_isLastInning ∈ lw_g) (lwq_1 (dqa_m (dqa_m (List.mem_of_getElem? (i := 2) rfl))) rfl : Cond.initialized yX3_isLastInning.cls ∈ lw_g) (lwq_5 (dqc_m (dqc_m (dqc_m (dqa_m (dqa_m (dqa_m (List.mem_of_getElem? (i := 0) rfl))))))) rfl : Cond.code yX3_isLastInning cX3_isLastInning 1 (some .boolean) ∈ lw_g), ⟨nmh_3.1, nmh_3.2, pdq_18⟩, ⟨_, _, rfl⟩⟩
abbrev cX3_countOut : ByteArray := prog_5_method_27_code
def yX3_countOut : MethodName := ⟨RX3, "countOut", "()V"⟩
def zX3_countOut : Zm := (RX3, cX3_countOut, 1, none, { frames := 2, cells := 0, slots := 0, locals := 41 })
set_option maxRecDepth 100000 in
theorem cl_X3_151 : cv_ RX3 151 yX3_endHalf zX3_endHalf 3 0 := ⟨gi_V (lwq_5 (dqc_m (dqc_m (dqc_m (dqc_m (List.mem_of_getElem? (i := 1) rfl))))) rfl : Cond.methodLink RX3 151 yX3_endHalf ∈ lw_g) (lwq_5 (dqc_m (dqc_m (dqc_m (dqc_m (List.mem_of_getElem? (i := 3) rfl))))) rfl : Cond.instanceMethod yX3_endHalf ∈ lw_g) (lw_sel 86 rfl : Cond.selects yX3_endHalf.cls yX3_endHalf yX3_endHalf ∈ lw_g) (lwq_1 (dqa_m (dqa_m (List.mem_of_getElem? (i := 2) rfl))) rfl : Cond.initialized yX3_endHalf.cls ∈ lw_g) (lwq_5 (dqc_m (dqc_m (dqc_m (dqc_m (List.mem_of_getElem? (i := 4) rfl))))) rfl : Cond.code yX3_endHalf cX3_endHalf 2 none ∈ lw_g), ⟨nmh_3.1, nmh_3.2, pdq_1⟩, ⟨_, _, rfl⟩⟩
abbrev cX3_goOnBase : ByteArray := prog_5_method_25_code
def yX3_goOnBase : MethodName := ⟨RX3, "goOnBase", "(II)V"⟩
def zX3_goOnBase : Zm := (RX3, cX3_goOnBase, 3, none, { frames := 1, cells := 0, slots := 0, locals := 23 })
abbrev cX3_walk : ByteArray := prog_5_method_24_code
def yX3_walk : MethodName := ⟨RX3, "walk", "(I)V"⟩
def zX3_walk : Zm := (RX3, cX3_walk, 3, none, { frames := 2, cells := 0, slots := 0, locals := 45 })
set_option maxRecDepth 100000 in
theorem cl_X3_144 : cv_ RX3 144 yX3_goOnBase zX3_goOnBase 3 2 := ⟨gi_V (lwq_5 (dqc_m (dqc_m (dqc_m (dqa_m (dqa_m (List.mem_of_getElem? (i := 1) rfl)))))) rfl : Cond.methodLink RX3 144 yX3_goOnBase ∈ lw_g) (lwq_5 (dqc_m (dqc_m (dqc_m (dqa_m (dqa_m (List.mem_of_getElem? (i := 3) rfl)))))) rfl : Cond.instanceMethod yX3_goOnBase ∈ lw_g) (lw_sel 88 rfl : Cond.selects yX3_goOnBase.cls yX3_goOnBase yX3_goOnBase ∈ lw_g) (lwq_1 (dqa_m (dqa_m (List.mem_of_getElem? (i := 2) rfl))) rfl : Cond.initialized yX3_goOnBase.cls ∈ lw_g) (lwq_5 (dqc_m (dqc_m (dqc_m (dqa_m (dqa_m (List.mem_of_getElem? (i := 4) rfl)))))) rfl : Cond.code yX3_goOnBase cX3_goOnBase 3 none ∈ lw_g), ⟨nmh_3.1, nmh_3.2, pdq_0⟩, ⟨_, _, rfl⟩⟩
abbrev cX3_backToBeginning : ByteArray := prog_5_method_2_code
def yX3_backToBeginning : MethodName := ⟨RX3, "backToBeginning", "()V"⟩
def zX3_backToBeginning : Zm := (RX3, cX3_backToBeginning, 3, none, { frames := 1, cells := 0, slots := 0, locals := 23 })
abbrev cX7_addSide : ByteArray := prog_9_method_4_code
def yX7_addSide : MethodName := ⟨RX7, "addSide", "(IIII)V"⟩
def zX7_addSide : Zm := (RX7, cX7_addSide, 8, none, { frames := 0, cells := 0, slots := 0, locals := 0 })
theorem bk_X7_addSide_27 : ck_ fX7 none cX7_addSide 27 [.istore 6, .aload 0, .tableswitch 0 7 1 #[], .tableswitch 0 0 1 #[], .iconst 1, .iload 6, .iadd, .iconst 1, .isub, .iaload, .istore 7, .aload 0, .tableswitch 0 7 2 #[], .iload 5, .iconst 0, .iadd, .dup2, .iaload, .iconst 1, .fadd, .iastore, .aload 0, .tableswitch 0 7 2 #[], .iload 5, .iload 6, .iadd, .dup2, .iaload, .iconst 1, .fadd, .iastore, .aload 0, .tableswitch 0 7 2 #[], .iload 5, .iconst 4, .iadd, .dup2, .iaload, .iload 3, .fadd, .iastore, .aload 0, .tableswitch 0 7 2 #[], .iload 5, .iconst 5, .iadd, .dup2, .iaload, .iload 4, .fadd, .iastore, .aload 0, .tableswitch 0 7 2 #[], .iload 5, .iconst 6, .iadd, .dup2, .iaload, .iload 7, .fadd, .iastore, .aload 0, .tableswitch 0 7 5 #[], .iload 1, .iconst 12, .imul, .iload 2, .iadd, .dup2, .iaload, .iload 7, .fadd, .iastore, .aload 0, .tableswitch 0 7 6 #[], .iload 1, .iconst 12, .imul, .iload 2, .iadd, .dup2, .iaload, .iload 3, .fadd, .iastore, .return_] 146 = true := qck_r (nn_ _) (by decide +kernel)
theorem bs_X7_addSide_27 {P : Zt → Option Zv → Prop} (K : Int → Zl → List Zv → Zt → Prop) : sx_ K P [.istore 6, .aload 0, .tableswitch 0 7 1 #[], .tableswitch 0 0 1 #[], .iconst 1, .iload 6, .iadd, .iconst 1, .isub, .iaload, .istore 7, .aload 0, .tableswitch 0 7 2 #[], .iload 5, .iconst 0, .iadd, .dup2, .iaload, .iconst 1, .fadd, .iastore, .aload 0, .tableswitch 0 7 2 #[], .iload 5, .iload 6, .iadd, .dup2, .iaload, .iconst 1, .fadd, .iastore, .aload 0, .tableswitch 0 7 2 #[], .iload 5, .iconst 4, .iadd, .dup2, .iaload, .iload 3, .fadd, .iastore, .aload 0, .tableswitch 0 7 2 #[], .iload 5, .iconst 5, .iadd, .dup2, .iaload, .iload 4, .fadd, .iastore, .aload 0, .tableswitch 0 7 2 #[], .iload 5, .iconst 6, .iadd, .dup2, .iaload, .iload 7, .fadd, .iastore, .aload 0, .tableswitch 0 7 5 #[], .iload 1, .iconst 12, .imul, .iload 2, .iadd, .dup2, .iaload, .iload 7, .fadd, .iastore, .aload 0, .tableswitch 0 7 6 #[], .iload 1, .iconst 12, .imul, .iload 2, .iadd, .dup2, .iaload, .iload 3, .fadd, .iastore, .return_] 146 = x_istore 6 (x_aload 0 (x_g5 107 100 1 (x_g2 100 401 (x_iconst 1 (x_iload 6 (x_iadd (x_iconst 1 (x_isub (x_iaload (x_istore 7 (x_aload 0 (x_g1 107 542 (x_iload 5 (x_iconst 0 (x_iadd (x_dup2 (x_iaload (x_iconst 1 (x_fadd (x_iastore (x_aload 0 (x_g1 107 542 (x_iload 5 (x_iload 6 (x_iadd (x_dup2 (x_iaload (x_iconst 1 (x_fadd (x_iastore (x_aload 0 (x_g1 107 542 (x_iload 5 (x_iconst 4 (x_iadd (x_dup2 (x_iaload (x_iload 3 (x_fadd (x_iastore (x_aload 0 (x_g1 107 542 (x_iload 5 (x_iconst 5 (x_iadd (x_dup2 (x_iaload (x_iload 4 (x_fadd (x_iastore (x_aload 0 (x_g1 107 542 (x_iload 5 (x_iconst 6 (x_iadd (x_dup2 (x_iaload (x_iload 7 (x_fadd (x_iastore (x_aload 0 (x_g1 107 545 (x_iload 1 (x_iconst 12 (x_imul (x_iload 2 (x_iadd (x_dup2 (x_iaload (x_iload 7 (x_fadd (x_iastore (x_aload 0 (x_g1 107 546 (x_iload 1 (x_iconst 12 (x_imul (x_iload 2 (x_iadd (x_dup2 (x_iaload (x_iload 3 (x_fadd (x_iastore (x_return_ P))))))))))))))))))))))))))))))))))))))))))))))))))))))))))))))))))))))))))))))))))))) := ((xe_istore 6).trans (congrArg (x_istore 6) ((xe_aload 0).trans (congrArg (x_aload 0) ((xe_g5 (kk := 107) rfl tl_7_1).trans (congrArg (x_g5 107 100 1) ((xe_g2 (kk := 100) rfl tl_0_1).trans (congrArg (x_g2 100 401) ((xe_iconst 1).trans (congrArg (x_iconst 1) ((xe_iload 6).trans (congrArg (x_iload 6) ((xe_iadd).trans (congrArg (x_iadd) ((xe_iconst 1).trans (congrArg (x_iconst 1) ((xe_isub).trans (congrArg (x_isub) ((xe_iaload).trans (congrArg (x_iaload) ((xe_istore 7).trans (congrArg (x_istore 7) ((xe_aload 0).trans (congrArg (x_aload 0) ((xe_g1 (kk := 107) rfl tl_7_2).trans (congrArg (x_g1 107 542) ((xe_iload 5).trans (congrArg (x_iload 5) ((xe_iconst 0).trans (congrArg (x_iconst 0) ((xe_iadd).trans (congrArg (x_iadd) ((xe_dup2).trans (congrArg (x_dup2) ((xe_iaload).trans (congrArg (x_iaload) ((xe_iconst 1).trans (congrArg (x_iconst 1) ((xe_fadd).trans (congrArg (x_fadd) ((xe_iastore).trans (congrArg (x_iastore) ((xe_aload 0).trans (congrArg (x_aload 0) ((xe_g1 (kk := 107) rfl tl_7_2).trans (congrArg (x_g1 107 542) ((xe_iload 5).trans (congrArg (x_iload 5) ((xe_iload 6).trans (congrArg (x_iload 6) ((xe_iadd).trans (congrArg (x_iadd) ((xe_dup2).trans (congrArg (x_dup2) ((xe_iaload).trans (congrArg (x_iaload) ((xe_iconst 1).trans (congrArg (x_iconst 1) ((xe_fadd).trans (congrArg (x_fadd) ((xe_iastore).trans (congrArg (x_iastore) ((xe_aload 0).trans (congrArg (x_aload 0) ((xe_g1 (kk := 107) rfl tl_7_2).trans (congrArg (x_g1 107 542) ((xe_iload 5).trans (congrArg (x_iload 5) ((xe_iconst 4).trans (congrArg (x_iconst 4) ((xe_iadd).trans (congrArg (x_iadd) ((xe_dup2).trans (congrArg (x_dup2) ((xe_iaload).trans (congrArg (x_iaload) ((xe_iload 3).trans (congrArg (x_iload 3) ((xe_fadd).trans (congrArg (x_fadd) ((xe_iastore).trans (congrArg (x_iastore) ((xe_aload 0).trans (congrArg (x_aload 0) ((xe_g1 (kk := 107) rfl tl_7_2).trans (congrArg (x_g1 107 542) ((xe_iload 5).trans (congrArg (x_iload 5) ((xe_iconst 5).trans (congrArg (x_iconst 5) ((xe_iadd).trans (congrArg (x_iadd) ((xe_dup2).trans (congrArg (x_dup2) ((xe_iaload).trans (congrArg (x_iaload) ((xe_iload 4).trans (congrArg (x_iload 4) ((xe_fadd).trans (congrArg (x_fadd) ((xe_iastore).trans (congrArg (x_iastore) ((xe_aload 0).trans (congrArg (x_aload 0) ((xe_g1 (kk := 107) rfl tl_7_2).trans (congrArg (x_g1 107 542) ((xe_iload 5).trans (congrArg (x_iload 5) ((xe_iconst 6).trans (congrArg (x_iconst 6) ((xe_iadd).trans (congrArg (x_iadd) ((xe_dup2).trans (congrArg (x_dup2) ((xe_iaload).trans (congrArg (x_iaload) ((xe_iload 7).trans (congrArg (x_iload 7) ((xe_fadd).trans (congrArg (x_fadd) ((xe_iastore).trans (congrArg (x_iastore) ((xe_aload 0).trans (congrArg (x_aload 0) ((xe_g1 (kk := 107) rfl tl_7_5).trans (congrArg (x_g1 107 545) ((xe_iload 1).trans (congrArg (x_iload 1) ((xe_iconst 12).trans (congrArg (x_iconst 12) ((xe_imul).trans (congrArg (x_imul) ((xe_iload 2).trans (congrArg (x_iload 2) ((xe_iadd).trans (congrArg (x_iadd) ((xe_dup2).trans (congrArg (x_dup2) ((xe_iaload).trans (congrArg (x_iaload) ((xe_iload 7).trans (congrArg (x_iload 7) ((xe_fadd).trans (congrArg (x_fadd) ((xe_iastore).trans (congrArg (x_iastore) ((xe_aload 0).trans (congrArg (x_aload 0) ((xe_g1 (kk := 107) rfl tl_7_6).trans (congrArg (x_g1 107 546) ((xe_iload 1).trans (congrArg (x_iload 1) ((xe_iconst 12).trans (congrArg (x_iconst 12) ((xe_imul).trans (congrArg (x_imul) ((xe_iload 2).trans (congrArg (x_iload 2) ((xe_iadd).trans (congrArg (x_iadd) ((xe_dup2).trans (congrArg (x_dup2) ((xe_iaload).trans (congrArg (x_iaload) ((xe_iload 3).trans (congrArg (x_iload 3) ((xe_fadd).trans (congrArg (x_fadd) ((xe_iastore).trans (congrArg (x_iastore) (xe_return_)))))))))))))))))))))))))))))))))))))))))))))))))))))))))))))))))))))))))))))))))))))))))))))))))))))))))))))))))))))))))))))))))))))))))))))))))))))))))))))))))))))))))))
theorem bk_X7_addSide_0 : ck_ fX7 none cX7_addSide 0 [.iload 1, .iconst 8, .imul, .istore 5, .iload 3, .iload 4, .if_icmp .le 16, .iconst 1, .goto 27] 16 = true := qck_r (nn_ _) (by decide +kernel)
theorem bs_X7_addSide_0 {P : Zt → Option Zv → Prop} (K : Int → Zl → List Zv → Zt → Prop) : sx_ K P [.iload 1, .iconst 8, .imul, .istore 5, .iload 3, .iload 4, .if_icmp .le 16, .iconst 1, .goto 27] 16 = x_iload 1 (x_iconst 8 (x_imul (x_istore 5 (x_iload 3 (x_iload 4 (x_if_icmp .le 16 K (x_iconst 1 (x_goto 27 K)))))))) := ((xe_iload 1).trans (congrArg (x_iload 1) ((xe_iconst 8).trans (congrArg (x_iconst 8) ((xe_imul).trans (congrArg (x_imul) ((xe_istore 5).trans (congrArg (x_istore 5) ((xe_iload 3).trans (congrArg (x_iload 3) ((xe_iload 4).trans (congrArg (x_iload 4) ((xe_if_icmp .le 16).trans (congrArg (x_if_icmp .le 16 K) ((xe_iconst 1).trans (congrArg (x_iconst 1) (xe_goto 27)))))))))))))))))
theorem bk_X7_addSide_16 : ck_ fX7 none cX7_addSide 16 [.iload 3, .iload 4, .if_icmp .ne 26, .iconst 2, .goto 27] 26 = true := qck_r (nn_ _) (by decide +kernel)
theorem bs_X7_addSide_16 {P : Zt → Option Zv → Prop} (K : Int → Zl → List Zv → Zt → Prop) : sx_ K P [.iload 3, .iload 4, .if_icmp .ne 26, .iconst 2, .goto 27] 26 = x_iload 3 (x_iload 4 (x_if_icmp .ne 26 K (x_iconst 2 (x_goto 27 K)))) := ((xe_iload 3).trans (congrArg (x_iload 3) ((xe_iload 4).trans (congrArg (x_iload 4) ((xe_if_icmp .ne 26).trans (congrArg (x_if_icmp .ne 26 K) ((xe_iconst 2).trans (congrArg (x_iconst 2) (xe_goto 27)))))))))
theorem bk_X7_addSide_26 : ck_ fX7 none cX7_addSide 26 [.iconst 3] 27 = true := qck_r (nn_ _) (by decide +kernel)
theorem bs_X7_addSide_26 {P : Zt → Option Zv → Prop} (K : Int → Zl → List Zv → Zt → Prop) : sx_ K P [.iconst 3] 27 = x_iconst 3 (K 27) := ((xe_iconst 3).trans (congrArg (x_iconst 3) xe_nil))
abbrev po_X7_addSide (T : Zt) (s q a b : Int) : Zt → Option Zv → Prop := fun T' r => r = none ∧ fr_ [(542, []), (545, []), (546, [])] T T' ∧ (0 = (0 : Int))
set_option maxHeartbeats 4000000 in
theorem ct_X7_addSide {T : Zt} {s q a b : Int} (hct : T 107 0 1 ≠ 0) (hs : 0 ≤ s ∧ s < 12) (ho : 0 ≤ q ∧ q < 12) : Ct_ yX7_addSide zX7_addSide T [vR 107 0, vI s, vI q, vI a, vI b] (po_X7_addSide T s q a b) := by
  refine ct_of pn_7 rfl rfl (Nat.le_of_ble_eq_true rfl) (fun hT hav => ?_)
  have hr_s : -2147483648 ≤ s ∧ s ≤ 2147483647 := hav (vI s) (List.mem_cons_of_mem _ List.mem_cons_self)
  have hr_q : -2147483648 ≤ q ∧ q ≤ 2147483647 := hav (vI q) (List.mem_cons_of_mem _ (List.mem_cons_of_mem _ List.mem_cons_self))
  have hr_a : -2147483648 ≤ a ∧ a ≤ 2147483647 := hav (vI a) (List.mem_cons_of_mem _ (List.mem_cons_of_mem _ (List.mem_cons_of_mem _ List.mem_cons_self)))
  have hr_b : -2147483648 ≤ b ∧ b ≤ 2147483647 := hav (vI b) (List.mem_cons_of_mem _ (List.mem_cons_of_mem _ (List.mem_cons_of_mem _ (List.mem_cons_of_mem _ List.mem_cons_self))))
  have hz : zX7_addSide.2.2.2.1 = some .boolean → ∀ (T' : Zt) (x : Int), po_X7_addSide T s q a b T' (some (vI x)) → 0 ≤ x ∧ x ≤ 1 := fun h => by cases h
  show J_ zX7_addSide T (po_X7_addSide T s q a b) 0 0 0 [some (vR 107 0), some (vI s), some (vI q), some (vI a), some (vI b), none, none, none] [] T
  have c_27 : ∀ (v : Int), (1 ≤ v ∧ v ≤ 3) → J_ zX7_addSide T (po_X7_addSide T s q a b) 0 0 27 [some (vR 107 0), some (vI s), some (vI q), some (vI a), some (vI b), some (vI (s * 8)), none, none] [vI v] T := by
    intro v v1
    refine j_blx (F := fX7) tb_X7 (nn_ _) bk_X7_addSide_27 bs_X7_addSide_27 hz (fun K hK => ?_)
    refine And.intro (fun c1 => ?_) (fun c1 => ?_)
    · exact absurd c1 (by omega)
    · refine rg_i (by omega) ?_
      refine rg_i (by omega) ?_
      refine ix_i (by omega) ?_
      intro b2 b2b
      refine rg_i (by omega) ?_
      refine ix_i (by omega) ?_
      intro b3 b3b
      intro w4 w4b
      refine iy_i (by omega) (by omega) ?_
      refine x_nm (fun U5 hU5 => ?_)
      have e6 := up_f hU5
      refine rg_i (by omega) ?_
      refine ix_i (by omega) ?_
      intro b7 b7b
      intro w8 w8b
      refine iy_i (by omega) (by omega) ?_
      refine x_nm (fun U9 hU9 => ?_)
      have e10 := up_f hU9
      refine rg_i (by omega) ?_
      refine ix_i (by omega) ?_
      intro b11 b11b
      intro w12 w12b
      refine iy_i (by omega) (by omega) ?_
      refine x_nm (fun U13 hU13 => ?_)
      have e14 := up_f hU13
      refine rg_i (by omega) ?_
      refine ix_i (by omega) ?_
      intro b15 b15b
      intro w16 w16b
      refine iy_i (by omega) (by omega) ?_
      refine x_nm (fun U17 hU17 => ?_)
      have e18 := up_f hU17
      refine rg_i (by omega) ?_
      refine ix_i (by omega) ?_
      intro b19 b19b
      intro w20 w20b
      refine iy_i (by omega) (by omega) ?_
      refine x_nm (fun U21 hU21 => ?_)
      have e22 := up_f hU21
      refine rg_i (by omega) ?_
      refine rg_i (by omega) ?_
      refine ix_i (by omega) ?_
      intro b23 b23b
      have e24 : U21 545 0 ((s * 12) + q) = T 545 0 ((s * 12) + q) := (up_k hU21 (by exact Nat.ne_of_beq_eq_false rfl) 0 ((s * 12) + q)).trans ((up_k hU17 (by exact Nat.ne_of_beq_eq_false rfl) 0 ((s * 12) + q)).trans ((up_k hU13 (by exact Nat.ne_of_beq_eq_false rfl) 0 ((s * 12) + q)).trans ((up_k hU9 (by exact Nat.ne_of_beq_eq_false rfl) 0 ((s * 12) + q)).trans (up_k hU5 (by exact Nat.ne_of_beq_eq_false rfl) 0 ((s * 12) + q)))))
      rw [e24] at b23 b23b ⊢
      intro w25 w25b
      refine iy_i (by omega) (by omega) ?_
      refine x_nm (fun U26 hU26 => ?_)
      have e27 := up_f hU26
      refine rg_i (by omega) ?_
      refine rg_i (by omega) ?_
      refine ix_i (by omega) ?_
      intro b28 b28b
      have e29 : U26 546 0 ((s * 12) + q) = T 546 0 ((s * 12) + q) := (up_k hU26 (by exact Nat.ne_of_beq_eq_false rfl) 0 ((s * 12) + q)).trans ((up_k hU21 (by exact Nat.ne_of_beq_eq_false rfl) 0 ((s * 12) + q)).trans ((up_k hU17 (by exact Nat.ne_of_beq_eq_false rfl) 0 ((s * 12) + q)).trans ((up_k hU13 (by exact Nat.ne_of_beq_eq_false rfl) 0 ((s * 12) + q)).trans ((up_k hU9 (by exact Nat.ne_of_beq_eq_false rfl) 0 ((s * 12) + q)).trans (up_k hU5 (by exact Nat.ne_of_beq_eq_false rfl) 0 ((s * 12) + q))))))
      rw [e29] at b28 b28b ⊢
      intro w30 w30b
      refine iy_i (by omega) (by omega) ?_
      refine x_nm (fun U31 hU31 => ?_)
      have e32 := up_f hU31
      refine (show po_X7_addSide T s q a b U31 (none) from ?_)
      exact ⟨rfl, fr_u (fr_u (fr_u (fr_u (fr_u (fr_u (fr_u (fr_0 _ _) hU5 rfl) hU9 rfl) hU13 rfl) hU17 rfl) hU21 rfl) hU26 rfl) hU31 rfl, by rfl⟩
  refine j_blx (F := fX7) tb_X7 (nn_ _) bk_X7_addSide_0 bs_X7_addSide_0 hz (fun K hK => ?_)
  refine rg_i (by omega) ?_
  refine And.intro (fun c33 => ?_) (fun c33 => ?_)
  · refine hK 16 [some (vR 107 0), some (vI s), some (vI q), some (vI a), some (vI b), some (vI (s * 8)), none, none] [] T ?_
    refine j_blx (F := fX7) tb_X7 (nn_ _) bk_X7_addSide_16 bs_X7_addSide_16 hz (fun K hK => ?_)
    refine And.intro (fun c34 => ?_) (fun c34 => ?_)
    · refine hK 26 _ [] T ?_
      refine j_blx (F := fX7) tb_X7 (nn_ _) bk_X7_addSide_26 bs_X7_addSide_26 hz (fun K hK => ?_)
      refine hK 27 _ [vI 3] T ?_
      refine c_27 3 ?_
      · omega
    · refine hK 27 _ [vI 2] T ?_
      refine c_27 2 ?_
      · omega
  · refine hK 27 _ [vI 1] T ?_
    refine c_27 1 ?_
    · omega
abbrev cX7_addResult : ByteArray := prog_9_method_3_code
def yX7_addResult : MethodName := ⟨RX7, "addResult", "(LSportsHouse$Match;II)V"⟩
def zX7_addResult : Zm := (RX7, cX7_addResult, 6, none, { frames := 1, cells := 0, slots := 0, locals := 27 })
theorem bk_X7_addResult_0 : ck_ fX7 none cX7_addResult 0 [.aload 0, .tableswitch 0 7 1 #[], .tableswitch 0 0 4 #[], .aload 1, .tableswitch 0 2 3 #[], .iaload, .istore 4, .aload 0, .tableswitch 0 7 1 #[], .tableswitch 0 0 4 #[], .aload 1, .tableswitch 0 2 4 #[], .iaload, .istore 5, .iload 4, .iconst (-1), .if_icmp .eq 40, .iload 5, .iconst (-1), .if_icmp .ne 41, .return_] 41 = true := qck_r (nn_ _) (by decide +kernel)
theorem bs_X7_addResult_0 {P : Zt → Option Zv → Prop} (K : Int → Zl → List Zv → Zt → Prop) : sx_ K P [.aload 0, .tableswitch 0 7 1 #[], .tableswitch 0 0 4 #[], .aload 1, .tableswitch 0 2 3 #[], .iaload, .istore 4, .aload 0, .tableswitch 0 7 1 #[], .tableswitch 0 0 4 #[], .aload 1, .tableswitch 0 2 4 #[], .iaload, .istore 5, .iload 4, .iconst (-1), .if_icmp .eq 40, .iload 5, .iconst (-1), .if_icmp .ne 41, .return_] 41 = x_aload 0 (x_g5 107 100 1 (x_g2 100 404 (x_aload 1 (x_g0 102 3 0 11 (x_iaload (x_istore 4 (x_aload 0 (x_g5 107 100 1 (x_g2 100 404 (x_aload 1 (x_g0 102 4 0 11 (x_iaload (x_istore 5 (x_iload 4 (x_iconst (-1) (x_if_icmp .eq 40 K (x_iload 5 (x_iconst (-1) (x_if_icmp .ne 41 K (x_return_ P)))))))))))))))))))) := ((xe_aload 0).trans (congrArg (x_aload 0) ((xe_g5 (kk := 107) rfl tl_7_1).trans (congrArg (x_g5 107 100 1) ((xe_g2 (kk := 100) rfl tl_0_4).trans (congrArg (x_g2 100 404) ((xe_aload 1).trans (congrArg (x_aload 1) ((xe_g0 (kk := 102) rfl tl_2_3).trans (congrArg (x_g0 102 3 0 11) ((xe_iaload).trans (congrArg (x_iaload) ((xe_istore 4).trans (congrArg (x_istore 4) ((xe_aload 0).trans (congrArg (x_aload 0) ((xe_g5 (kk := 107) rfl tl_7_1).trans (congrArg (x_g5 107 100 1) ((xe_g2 (kk := 100) rfl tl_0_4).trans (congrArg (x_g2 100 404) ((xe_aload 1).trans (congrArg (x_aload 1) ((xe_g0 (kk := 102) rfl tl_2_4).trans (congrArg (x_g0 102 4 0 11) ((xe_iaload).trans (congrArg (x_iaload) ((xe_istore 5).trans (congrArg (x_istore 5) ((xe_iload 4).trans (congrArg (x_iload 4) ((xe_iconst (-1)).trans (congrArg (x_iconst (-1)) ((xe_if_icmp .eq 40).trans (congrArg (x_if_icmp .eq 40 K) ((xe_iload 5).trans (congrArg (x_iload 5) ((xe_iconst (-1)).trans (congrArg (x_iconst (-1)) ((xe_if_icmp .ne 41).trans (congrArg (x_if_icmp .ne 41 K) (xe_return_)))))))))))))))))))))))))))))))))))))))))
theorem bk_X7_addResult_40 : ck_ fX7 none cX7_addResult 40 [.return_] 41 = true := qck_r (nn_ _) (by decide +kernel)
theorem bs_X7_addResult_40 {P : Zt → Option Zv → Prop} (K : Int → Zl → List Zv → Zt → Prop) : sx_ K P [.return_] 41 = x_return_ P := (xe_return_)
theorem bk_X7_addResult_41 : ck_ fX7 none cX7_addResult 41 [.aload 0, .iload 4, .iload 5, .iload 2, .iload 3] 48 = true := qck_r (nn_ _) (by decide +kernel)
theorem bs_X7_addResult_41 {P : Zt → Option Zv → Prop} (K : Int → Zl → List Zv → Zt → Prop) : sx_ K P [.aload 0, .iload 4, .iload 5, .iload 2, .iload 3] 48 = x_aload 0 (x_iload 4 (x_iload 5 (x_iload 2 (x_iload 3 (K 48))))) := ((xe_aload 0).trans (congrArg (x_aload 0) ((xe_iload 4).trans (congrArg (x_iload 4) ((xe_iload 5).trans (congrArg (x_iload 5) ((xe_iload 2).trans (congrArg (x_iload 2) ((xe_iload 3).trans (congrArg (x_iload 3) xe_nil))))))))))
set_option maxRecDepth 100000 in
theorem cl_X7_117 : cv_ RX7 117 yX7_addSide zX7_addSide 7 4 := ⟨gi_V (lwq_5 (dqc_m (dqc_m (dqc_m (dqc_m (dqc_m (dqc_m (dqa_m (dqa_m (List.mem_of_getElem? (i := 3) rfl))))))))) rfl : Cond.methodLink RX7 117 yX7_addSide ∈ lw_g) (lwq_5 (dqc_m (dqc_m (dqc_m (dqc_m (dqc_m (dqc_m (dqa_m (dqa_m (List.mem_of_getElem? (i := 5) rfl))))))))) rfl : Cond.instanceMethod yX7_addSide ∈ lw_g) (lw_sel 128 rfl : Cond.selects yX7_addSide.cls yX7_addSide yX7_addSide ∈ lw_g) (lwq_1 (List.mem_of_getElem? (i := 5) rfl) rfl : Cond.initialized yX7_addSide.cls ∈ lw_g) (lwq_5 (dqc_m (dqc_m (dqc_m (dqc_m (dqc_m (dqc_m (dqa_m (dqa_m (List.mem_of_getElem? (i := 6) rfl))))))))) rfl : Cond.code yX7_addSide cX7_addSide 8 none ∈ lw_g), ⟨nmh_7.1, nmh_7.2, pdq_12⟩, ⟨_, _, rfl⟩⟩
theorem bk_X7_addResult_51 : ck_ fX7 none cX7_addResult 51 [.aload 0, .iload 5, .iload 4, .iload 3, .iload 2] 58 = true := qck_r (nn_ _) (by decide +kernel)
theorem bs_X7_addResult_51 {P : Zt → Option Zv → Prop} (K : Int → Zl → List Zv → Zt → Prop) : sx_ K P [.aload 0, .iload 5, .iload 4, .iload 3, .iload 2] 58 = x_aload 0 (x_iload 5 (x_iload 4 (x_iload 3 (x_iload 2 (K 58))))) := ((xe_aload 0).trans (congrArg (x_aload 0) ((xe_iload 5).trans (congrArg (x_iload 5) ((xe_iload 4).trans (congrArg (x_iload 4) ((xe_iload 3).trans (congrArg (x_iload 3) ((xe_iload 2).trans (congrArg (x_iload 2) xe_nil))))))))))
theorem bk_X7_addResult_61 : ck_ fX7 none cX7_addResult 61 [.aload 0, .tableswitch 0 7 3 #[], .iload 5, .dup2, .iaload, .iload 3, .fadd, .iastore, .return_] 73 = true := qck_r (nn_ _) (by decide +kernel)
theorem bs_X7_addResult_61 {P : Zt → Option Zv → Prop} (K : Int → Zl → List Zv → Zt → Prop) : sx_ K P [.aload 0, .tableswitch 0 7 3 #[], .iload 5, .dup2, .iaload, .iload 3, .fadd, .iastore, .return_] 73 = x_aload 0 (x_g1 107 543 (x_iload 5 (x_dup2 (x_iaload (x_iload 3 (x_fadd (x_iastore (x_return_ P)))))))) := ((xe_aload 0).trans (congrArg (x_aload 0) ((xe_g1 (kk := 107) rfl tl_7_3).trans (congrArg (x_g1 107 543) ((xe_iload 5).trans (congrArg (x_iload 5) ((xe_dup2).trans (congrArg (x_dup2) ((xe_iaload).trans (congrArg (x_iaload) ((xe_iload 3).trans (congrArg (x_iload 3) ((xe_fadd).trans (congrArg (x_fadd) ((xe_iastore).trans (congrArg (x_iastore) (xe_return_)))))))))))))))))
abbrev po_X7_addResult (T : Zt) (p : Int) (a b : Int) : Zt → Option Zv → Prop := fun T' r => r = none ∧ fr_ [(542, []), (545, []), (546, []), (543, [])] T T' ∧ (0 = (0 : Int))
set_option maxHeartbeats 4000000 in
theorem ct_X7_addResult {T : Zt} {p : Int} {a b : Int} (hct : T 107 0 1 ≠ 0) : Ct_ yX7_addResult zX7_addResult T [vR 107 0, vR 102 p, vI a, vI b] (po_X7_addResult T p a b) := by
  refine ct_of pn_7 rfl rfl (Nat.le_of_ble_eq_true rfl) (fun hT hav => ?_)
  have hr_a : -2147483648 ≤ a ∧ a ≤ 2147483647 := hav (vI a) (List.mem_cons_of_mem _ (List.mem_cons_of_mem _ List.mem_cons_self))
  have hr_b : -2147483648 ≤ b ∧ b ≤ 2147483647 := hav (vI b) (List.mem_cons_of_mem _ (List.mem_cons_of_mem _ (List.mem_cons_of_mem _ List.mem_cons_self)))
  have hz : zX7_addResult.2.2.2.1 = some .boolean → ∀ (T' : Zt) (x : Int), po_X7_addResult T p a b T' (some (vI x)) → 0 ≤ x ∧ x ≤ 1 := fun h => by cases h
  show J_ zX7_addResult T (po_X7_addResult T p a b) 0 0 0 [some (vR 107 0), some (vR 102 p), some (vI a), some (vI b), none, none] [] T
  refine j_blx (F := fX7) tb_X7 (nn_ _) bk_X7_addResult_0 bs_X7_addResult_0 hz (fun K hK => ?_)
  refine And.intro (fun c1 => ?_) (fun c1 => ?_)
  · exact absurd c1 (by omega)
  · intro b2 b2b
    refine ix_i (by omega) ?_
    intro b3 b3b
    refine And.intro (fun c4 => ?_) (fun c4 => ?_)
    · exact absurd c4 (by omega)
    · intro b5 b5b
      refine ix_i (by omega) ?_
      intro b6 b6b
      refine And.intro (fun c7 => ?_) (fun c7 => ?_)
      · refine hK 40 [some (vR 107 0), some (vR 102 p), some (vI a), some (vI b), some (vI (T 404 (T 107 0 1 - 1) (T 102 p 3))), some (vI (T 404 (T 107 0 1 - 1) (T 102 p 4)))] [] T ?_
        refine j_blx (F := fX7) tb_X7 (nn_ _) bk_X7_addResult_40 bs_X7_addResult_40 hz (fun K hK => ?_)
        refine (show po_X7_addResult T p a b T (none) from ?_)
        exact ⟨rfl, fr_0 _ _, by rfl⟩
      · refine And.intro (fun c8 => ?_) (fun c8 => ?_)
        · refine hK 41 _ [] T ?_
          refine j_blx (F := fX7) tb_X7 (nn_ _) bk_X7_addResult_41 bs_X7_addResult_41 hz (fun K hK => ?_)
          refine hK 48 _ [vI b, vI a, vI (T 404 (T 107 0 1 - 1) (T 102 p 4)), vI (T 404 (T 107 0 1 - 1) (T 102 p 3)), vR 107 0] T ?_
          refine j_callV (y := yX7_addSide) (Yc := zX7_addSide) (rest := []) [vI (T 404 (T 107 0 1 - 1) (T 102 p 3)), vI (T 404 (T 107 0 1 - 1) (T 102 p 4)), vI a, vI b] (ct_X7_addSide (T := T) (by omega) (by omega) (by omega)) cl_X7_117 (qd_c (by decide +kernel)) (nn_ _) rfl (rf_of rfl) (Nat.le_of_ble_eq_true rfl) (Nat.le_of_ble_eq_true rfl) (Nat.le_of_ble_eq_true rfl) rfl ?_
          rintro U9 _ ⟨rfl, fU9, qU9⟩
          show J_ zX7_addResult T (po_X7_addResult T p a b) 0 0 51 _ [] U9
          refine j_blx (F := fX7) tb_X7 (nn_ _) bk_X7_addResult_51 bs_X7_addResult_51 hz (fun K hK => ?_)
          refine hK 58 _ [vI a, vI b, vI (T 404 (T 107 0 1 - 1) (T 102 p 3)), vI (T 404 (T 107 0 1 - 1) (T 102 p 4)), vR 107 0] U9 ?_
          have e10 : U9 107 0 1 = T 107 0 1 := fU9 107 0 1 rfl
          refine j_callV (y := yX7_addSide) (Yc := zX7_addSide) (rest := []) [vI (T 404 (T 107 0 1 - 1) (T 102 p 4)), vI (T 404 (T 107 0 1 - 1) (T 102 p 3)), vI b, vI a] (ct_X7_addSide (T := U9) (by omega) (by omega) (by omega)) cl_X7_117 (qd_c (by decide +kernel)) (nn_ _) rfl (rf_of rfl) (Nat.le_of_ble_eq_true rfl) (Nat.le_of_ble_eq_true rfl) (Nat.le_of_ble_eq_true rfl) rfl ?_
          rintro U11 _ ⟨rfl, fU11, qU11⟩
          show J_ zX7_addResult T (po_X7_addResult T p a b) 0 0 61 _ [] U11
          refine j_blx (F := fX7) tb_X7 (nn_ _) bk_X7_addResult_61 bs_X7_addResult_61 hz (fun K hK => ?_)
          refine ix_i (by omega) ?_
          intro b12 b12b
          have e13 : U11 543 0 (T 404 (T 107 0 1 - 1) (T 102 p 4)) = T 543 0 (T 404 (T 107 0 1 - 1) (T 102 p 4)) := (fU11 543 0 (T 404 (T 107 0 1 - 1) (T 102 p 4)) rfl).trans (fU9 543 0 (T 404 (T 107 0 1 - 1) (T 102 p 4)) rfl)
          rw [e13] at b12 b12b ⊢
          intro w14 w14b
          refine iy_i (by omega) (by omega) ?_
          refine x_nm (fun U15 hU15 => ?_)
          have e16 := up_f hU15
          refine (show po_X7_addResult T p a b U15 (none) from ?_)
          exact ⟨rfl, fr_u (fr_t (fr_t (fr_0 _ _) (fr_s fU9 rfl)) (fr_s fU11 rfl)) hU15 rfl, by rfl⟩
        · refine (show po_X7_addResult T p a b T (none) from ?_)
          exact ⟨rfl, fr_0 _ _, by rfl⟩
abbrev cX7_addCards : ByteArray := prog_9_method_5_code
def yX7_addCards : MethodName := ⟨RX7, "addCards", "(LSportsHouse$Match;)V"⟩
def zX7_addCards : Zm := (RX7, cX7_addCards, 6, none, { frames := 1, cells := 0, slots := 0, locals := 21 })
theorem bk_X7_addCards_42 : ck_ fX7 none cX7_addCards 42 [.iload 3, .iconst (-1), .if_icmp .eq 110, .iload 4, .aload 1, .tableswitch 0 2 9 #[], .iload 2, .iaload, .if_icmp .ge 110, .iload 2, .iconst 10, .imul, .iload 4, .iadd, .istore 5, .aload 0, .tableswitch 0 7 4 #[], .iload 3, .dup2, .iaload, .aload 1, .tableswitch 0 2 10 #[], .tableswitch 0 3 13 #[], .iload 5, .iaload, .aload 1, .tableswitch 0 2 10 #[], .iload 5] 90 = true := qck_r (nn_ _) (by decide +kernel)
theorem bs_X7_addCards_42 {P : Zt → Option Zv → Prop} (K : Int → Zl → List Zv → Zt → Prop) : sx_ K P [.iload 3, .iconst (-1), .if_icmp .eq 110, .iload 4, .aload 1, .tableswitch 0 2 9 #[], .iload 2, .iaload, .if_icmp .ge 110, .iload 2, .iconst 10, .imul, .iload 4, .iadd, .istore 5, .aload 0, .tableswitch 0 7 4 #[], .iload 3, .dup2, .iaload, .aload 1, .tableswitch 0 2 10 #[], .tableswitch 0 3 13 #[], .iload 5, .iaload, .aload 1, .tableswitch 0 2 10 #[], .iload 5] 90 = x_iload 3 (x_iconst (-1) (x_if_icmp .eq 110 K (x_iload 4 (x_aload 1 (x_g2 102 449 (x_iload 2 (x_iaload (x_if_icmp .ge 110 K (x_iload 2 (x_iconst 10 (x_imul (x_iload 4 (x_iadd (x_istore 5 (x_aload 0 (x_g1 107 544 (x_iload 3 (x_dup2 (x_iaload (x_aload 1 (x_g4 102 103 10 (x_g2 103 473 (x_iload 5 (x_iaload (x_aload 1 (x_g4 102 103 10 (x_iload 5 (K 90)))))))))))))))))))))))))))) := ((xe_iload 3).trans (congrArg (x_iload 3) ((xe_iconst (-1)).trans (congrArg (x_iconst (-1)) ((xe_if_icmp .eq 110).trans (congrArg (x_if_icmp .eq 110 K) ((xe_iload 4).trans (congrArg (x_iload 4) ((xe_aload 1).trans (congrArg (x_aload 1) ((xe_g2 (kk := 102) rfl tl_2_9).trans (congrArg (x_g2 102 449) ((xe_iload 2).trans (congrArg (x_iload 2) ((xe_iaload).trans (congrArg (x_iaload) ((xe_if_icmp .ge 110).trans (congrArg (x_if_icmp .ge 110 K) ((xe_iload 2).trans (congrArg (x_iload 2) ((xe_iconst 10).trans (congrArg (x_iconst 10) ((xe_imul).trans (congrArg (x_imul) ((xe_iload 4).trans (congrArg (x_iload 4) ((xe_iadd).trans (congrArg (x_iadd) ((xe_istore 5).trans (congrArg (x_istore 5) ((xe_aload 0).trans (congrArg (x_aload 0) ((xe_g1 (kk := 107) rfl tl_7_4).trans (congrArg (x_g1 107 544) ((xe_iload 3).trans (congrArg (x_iload 3) ((xe_dup2).trans (congrArg (x_dup2) ((xe_iaload).trans (congrArg (x_iaload) ((xe_aload 1).trans (congrArg (x_aload 1) ((xe_g4 (kk := 102) rfl tl_2_10).trans (congrArg (x_g4 102 103 10) ((xe_g2 (kk := 103) rfl tl_3_13).trans (congrArg (x_g2 103 473) ((xe_iload 5).trans (congrArg (x_iload 5) ((xe_iaload).trans (congrArg (x_iaload) ((xe_aload 1).trans (congrArg (x_aload 1) ((xe_g4 (kk := 102) rfl tl_2_10).trans (congrArg (x_g4 102 103 10) ((xe_iload 5).trans (congrArg (x_iload 5) xe_nil))))))))))))))))))))))))))))))))))))))))))))))))))))))))
theorem bk_X7_addCards_110 : ck_ fX7 none cX7_addCards 110 [.iinc 2 1, .goto 10] 116 = true := qck_r (nn_ _) (by decide +kernel)
theorem bs_X7_addCards_110 {P : Zt → Option Zv → Prop} (K : Int → Zl → List Zv → Zt → Prop) : sx_ K P [.iinc 2 1, .goto 10] 116 = x_iinc 2 1 (x_goto 10 K) := ((xe_iinc 2 1).trans (congrArg (x_iinc 2 1) (xe_goto 10)))
set_option maxRecDepth 100000 in
theorem cl_X7_136 : cv_ RX7 136 yX3_isSentOff zX3_isSentOff 3 1 := ⟨gi_V (lwq_5 (dqc_m (dqc_m (dqc_m (dqc_m (dqc_m (dqc_m (dqa_m (dqa_m (dqa_m (List.mem_of_getElem? (i := 3) rfl)))))))))) rfl : Cond.methodLink RX7 136 yX3_isSentOff ∈ lw_g) (lwq_4 (dqc_m (dqc_m (dqc_m (dqc_m (dqc_m (List.mem_of_getElem? (i := 4) rfl)))))) rfl : Cond.instanceMethod yX3_isSentOff ∈ lw_g) (lwq_4 (dqc_m (dqc_m (dqc_m (dqc_m (dqc_m (List.mem_of_getElem? (i := 5) rfl)))))) rfl : Cond.selects yX3_isSentOff.cls yX3_isSentOff yX3_isSentOff ∈ lw_g) (lwq_1 (dqa_m (dqa_m (List.mem_of_getElem? (i := 2) rfl))) rfl : Cond.initialized yX3_isSentOff.cls ∈ lw_g) (lwq_4 (dqc_m (dqc_m (dqc_m (dqc_m (dqc_m (List.mem_of_getElem? (i := 6) rfl)))))) rfl : Cond.code yX3_isSentOff cX3_isSentOff 2 (some .boolean) ∈ lw_g), ⟨nmh_3.1, nmh_3.2, pdq_7⟩, ⟨_, _, rfl⟩⟩
theorem bk_X7_addCards_93 : ck_ fX7 none cX7_addCards 93 [.ifCond .eq 100, .iconst 3, .goto 101] 100 = true := qck_r (nn_ _) (by decide +kernel)
theorem bs_X7_addCards_93 {P : Zt → Option Zv → Prop} (K : Int → Zl → List Zv → Zt → Prop) : sx_ K P [.ifCond .eq 100, .iconst 3, .goto 101] 100 = x_ifCond .eq 100 K (x_iconst 3 (x_goto 101 K)) := ((xe_ifCond .eq 100).trans (congrArg (x_ifCond .eq 100 K) ((xe_iconst 3).trans (congrArg (x_iconst 3) (xe_goto 101)))))
theorem bk_X7_addCards_100 : ck_ fX7 none cX7_addCards 100 [.iconst 0, .fadd, .fadd, .iastore, .iinc 4 1, .goto 42] 110 = true := qck_r (nn_ _) (by decide +kernel)
theorem bs_X7_addCards_100 {P : Zt → Option Zv → Prop} (K : Int → Zl → List Zv → Zt → Prop) : sx_ K P [.iconst 0, .fadd, .fadd, .iastore, .iinc 4 1, .goto 42] 110 = x_iconst 0 (x_fadd (x_fadd (x_iastore (x_iinc 4 1 (x_goto 42 K))))) := ((xe_iconst 0).trans (congrArg (x_iconst 0) ((xe_fadd).trans (congrArg (x_fadd) ((xe_fadd).trans (congrArg (x_fadd) ((xe_iastore).trans (congrArg (x_iastore) ((xe_iinc 4 1).trans (congrArg (x_iinc 4 1) (xe_goto 42)))))))))))
theorem bk_X7_addCards_101 : ck_ fX7 none cX7_addCards 101 [.fadd, .fadd, .iastore, .iinc 4 1, .goto 42] 110 = true := qck_r (nn_ _) (by decide +kernel)
theorem bs_X7_addCards_101 {P : Zt → Option Zv → Prop} (K : Int → Zl → List Zv → Zt → Prop) : sx_ K P [.fadd, .fadd, .iastore, .iinc 4 1, .goto 42] 110 = x_fadd (x_fadd (x_iastore (x_iinc 4 1 (x_goto 42 K)))) := ((xe_fadd).trans (congrArg (x_fadd) ((xe_fadd).trans (congrArg (x_fadd) ((xe_iastore).trans (congrArg (x_iastore) ((xe_iinc 4 1).trans (congrArg (x_iinc 4 1) (xe_goto 42)))))))))
theorem bk_X7_addCards_10 : ck_ fX7 none cX7_addCards 10 [.iload 2, .iconst 2, .if_icmp .ge 116, .aload 0, .tableswitch 0 7 1 #[], .tableswitch 0 0 4 #[], .iload 2, .ifCond .ne 33, .aload 1, .tableswitch 0 2 3 #[], .goto 37] 33 = true := qck_r (nn_ _) (by decide +kernel)
theorem bs_X7_addCards_10 {P : Zt → Option Zv → Prop} (K : Int → Zl → List Zv → Zt → Prop) : sx_ K P [.iload 2, .iconst 2, .if_icmp .ge 116, .aload 0, .tableswitch 0 7 1 #[], .tableswitch 0 0 4 #[], .iload 2, .ifCond .ne 33, .aload 1, .tableswitch 0 2 3 #[], .goto 37] 33 = x_iload 2 (x_iconst 2 (x_if_icmp .ge 116 K (x_aload 0 (x_g5 107 100 1 (x_g2 100 404 (x_iload 2 (x_ifCond .ne 33 K (x_aload 1 (x_g0 102 3 0 11 (x_goto 37 K)))))))))) := ((xe_iload 2).trans (congrArg (x_iload 2) ((xe_iconst 2).trans (congrArg (x_iconst 2) ((xe_if_icmp .ge 116).trans (congrArg (x_if_icmp .ge 116 K) ((xe_aload 0).trans (congrArg (x_aload 0) ((xe_g5 (kk := 107) rfl tl_7_1).trans (congrArg (x_g5 107 100 1) ((xe_g2 (kk := 100) rfl tl_0_4).trans (congrArg (x_g2 100 404) ((xe_iload 2).trans (congrArg (x_iload 2) ((xe_ifCond .ne 33).trans (congrArg (x_ifCond .ne 33 K) ((xe_aload 1).trans (congrArg (x_aload 1) ((xe_g0 (kk := 102) rfl tl_2_3).trans (congrArg (x_g0 102 3 0 11) (xe_goto 37)))))))))))))))))))))
theorem bk_X7_addCards_116 : ck_ fX7 none cX7_addCards 116 [.return_] 117 = true := qck_r (nn_ _) (by decide +kernel)
theorem bs_X7_addCards_116 {P : Zt → Option Zv → Prop} (K : Int → Zl → List Zv → Zt → Prop) : sx_ K P [.return_] 117 = x_return_ P := (xe_return_)
theorem bk_X7_addCards_33 : ck_ fX7 none cX7_addCards 33 [.aload 1, .tableswitch 0 2 4 #[], .iaload, .istore 3, .iconst 0, .istore 4] 42 = true := qck_r (nn_ _) (by decide +kernel)
theorem bs_X7_addCards_33 {P : Zt → Option Zv → Prop} (K : Int → Zl → List Zv → Zt → Prop) : sx_ K P [.aload 1, .tableswitch 0 2 4 #[], .iaload, .istore 3, .iconst 0, .istore 4] 42 = x_aload 1 (x_g0 102 4 0 11 (x_iaload (x_istore 3 (x_iconst 0 (x_istore 4 (K 42)))))) := ((xe_aload 1).trans (congrArg (x_aload 1) ((xe_g0 (kk := 102) rfl tl_2_4).trans (congrArg (x_g0 102 4 0 11) ((xe_iaload).trans (congrArg (x_iaload) ((xe_istore 3).trans (congrArg (x_istore 3) ((xe_iconst 0).trans (congrArg (x_iconst 0) ((xe_istore 4).trans (congrArg (x_istore 4) xe_nil))))))))))))
theorem bk_X7_addCards_37 : ck_ fX7 none cX7_addCards 37 [.iaload, .istore 3, .iconst 0, .istore 4] 42 = true := qck_r (nn_ _) (by decide +kernel)
theorem bs_X7_addCards_37 {P : Zt → Option Zv → Prop} (K : Int → Zl → List Zv → Zt → Prop) : sx_ K P [.iaload, .istore 3, .iconst 0, .istore 4] 42 = x_iaload (x_istore 3 (x_iconst 0 (x_istore 4 (K 42)))) := ((xe_iaload).trans (congrArg (x_iaload) ((xe_istore 3).trans (congrArg (x_istore 3) ((xe_iconst 0).trans (congrArg (x_iconst 0) ((xe_istore 4).trans (congrArg (x_istore 4) xe_nil))))))))
theorem bk_X7_addCards_0 : ck_ fX7 none cX7_addCards 0 [.aload 1, .tableswitch 0 2 10 #[], .ifnonnull 8, .return_] 8 = true := qck_r (nn_ _) (by decide +kernel)
theorem bs_X7_addCards_0 {P : Zt → Option Zv → Prop} (K : Int → Zl → List Zv → Zt → Prop) : sx_ K P [.aload 1, .tableswitch 0 2 10 #[], .ifnonnull 8, .return_] 8 = x_aload 1 (x_g4 102 103 10 (x_ifnonnull 8 K (x_return_ P))) := ((xe_aload 1).trans (congrArg (x_aload 1) ((xe_g4 (kk := 102) rfl tl_2_10).trans (congrArg (x_g4 102 103 10) ((xe_ifnonnull 8).trans (congrArg (x_ifnonnull 8 K) (xe_return_)))))))
theorem bk_X7_addCards_8 : ck_ fX7 none cX7_addCards 8 [.iconst 0, .istore 2] 10 = true := qck_r (nn_ _) (by decide +kernel)
theorem bs_X7_addCards_8 {P : Zt → Option Zv → Prop} (K : Int → Zl → List Zv → Zt → Prop) : sx_ K P [.iconst 0, .istore 2] 10 = x_iconst 0 (x_istore 2 (K 10)) := ((xe_iconst 0).trans (congrArg (x_iconst 0) ((xe_istore 2).trans (congrArg (x_istore 2) xe_nil))))
abbrev po_X7_addCards (T : Zt) (p : Int) : Zt → Option Zv → Prop := fun T' r => r = none ∧ fr_ [(544, [])] T T' ∧ (0 = (0 : Int))
set_option maxHeartbeats 4000000 in
theorem ct_X7_addCards {T : Zt} {p : Int} (hct : T 107 0 1 ≠ 0) : Ct_ yX7_addCards zX7_addCards T [vR 107 0, vR 102 p] (po_X7_addCards T p) := by
  refine ct_of pn_7 rfl rfl (Nat.le_of_ble_eq_true rfl) (fun hT hav => ?_)
  have hz : zX7_addCards.2.2.2.1 = some .boolean → ∀ (T' : Zt) (x : Int), po_X7_addCards T p T' (some (vI x)) → 0 ≤ x ∧ x ≤ 1 := fun h => by cases h
  show J_ zX7_addCards T (po_X7_addCards T p) 0 0 0 [some (vR 107 0), some (vR 102 p), none, none, none, none] [] T
  have c_10 : ∀ (nn : Nat) (d : Int) (T1 : Zt), ((2 - d).toNat) ≤ nn → (fr_ [(544, [])] T T1) → (0 ≤ d ∧ d ≤ 2 ∧ T 102 p 10 ≠ 0) → J_ zX7_addCards T (po_X7_addCards T p) 0 0 10 [some (vR 107 0), some (vR 102 p), some (vI d), none, none, none] [] T1 := by
    intro nn
    induction nn using Nat.strongRecOn with
    | _ nn ih_10 =>
      intro d T1 hm_10 hf_10 i1
      replace hm_10 := fun (_ : Unit) => hm_10
      have c_42 : ∀ (nn : Nat) (e : Int) (k : Int) (T2 : Zt), ((10 - k).toNat) ≤ nn → (fr_ [(544, [])] T T2) → (-1 ≤ e ∧ e < 12 ∧ 0 ≤ k ∧ d < 2) → J_ zX7_addCards T (po_X7_addCards T p) 0 0 42 [some (vR 107 0), some (vR 102 p), some (vI d), some (vI e), some (vI k), none] [] T2 := by
        intro nn
        induction nn using Nat.strongRecOn with
        | _ nn ih_42 =>
          intro e k T2 hm_42 hf_42 i2
          replace hm_42 := fun (_ : Unit) => hm_42
          refine j_blx (F := fX7) tb_X7 (nn_ _) bk_X7_addCards_42 bs_X7_addCards_42 hz (fun K hK => ?_)
          refine And.intro (fun c1 => ?_) (fun c1 => ?_)
          · refine hK 110 _ [] T2 ?_
            refine j_blx (F := fX7) tb_X7 (nn_ _) bk_X7_addCards_110 bs_X7_addCards_110 hz (fun K hK => ?_)
            refine rg_i (by omega) ?_
            refine hK 10 [some (vR 107 0), some (vR 102 p), some (vI (d + 1)), some (vI e), some (vI k), none] [] T2 ?_
            refine j_drop [some (vR 107 0), some (vR 102 p), some (vI (d + 1)), none, none, none] (fun k v hk => ?_) rfl ?_
            · match k, hk with
              | 0, hk => exact hk
              | 1, hk => exact hk
              | 2, hk => exact hk
              | 3, hk => cases hk
              | 4, hk => cases hk
              | 5, hk => cases hk
              | k + 6, hk => cases hk
            refine ih_10 _ ?_ (d + 1) T2 (Nat.le_refl _) ?_ ?_
            · have hm_10 := hm_10 (); omega
            · exact fr_t (fr_0 _ _) (fr_s hf_42 rfl)
            · omega
          · refine ix_i (by omega) ?_
            intro b2 b2b
            have e3 : T2 449 p d = T 449 p d := hf_42 449 p d rfl
            rw [e3] at b2 b2b ⊢
            refine And.intro (fun c4 => ?_) (fun c4 => ?_)
            · refine hK 110 [some (vR 107 0), some (vR 102 p), some (vI d), some (vI e), some (vI k), none] [] T2 ?_
              refine j_blx (F := fX7) tb_X7 (nn_ _) bk_X7_addCards_110 bs_X7_addCards_110 hz (fun K hK => ?_)
              refine rg_i (by omega) ?_
              refine hK 10 [some (vR 107 0), some (vR 102 p), some (vI (d + 1)), some (vI e), some (vI k), none] [] T2 ?_
              refine j_drop [some (vR 107 0), some (vR 102 p), some (vI (d + 1)), none, none, none] (fun k v hk => ?_) rfl ?_
              · match k, hk with
                | 0, hk => exact hk
                | 1, hk => exact hk
                | 2, hk => exact hk
                | 3, hk => cases hk
                | 4, hk => cases hk
                | 5, hk => cases hk
                | k + 6, hk => cases hk
              refine ih_10 _ ?_ (d + 1) T2 (Nat.le_refl _) ?_ ?_
              · have hm_10 := hm_10 (); omega
              · exact fr_t (fr_0 _ _) (fr_s hf_42 rfl)
              · omega
            · refine rg_i (by omega) ?_
              refine rg_i (by omega) ?_
              refine ix_i (by omega) ?_
              intro b5 b5b
              have e7 : T2 102 p 10 = T 102 p 10 := hf_42 102 p 10 rfl
              refine And.intro (fun c6 => ?_) (fun c6 => ?_)
              · exact absurd c6 (by omega)
              · refine ix_i (by omega) ?_
                intro b8 b8b
                have e9 : T2 473 p ((d * 10) + k) = T 473 p ((d * 10) + k) := hf_42 473 p ((d * 10) + k) rfl
                rw [e9] at b8 b8b ⊢
                have e11 : T2 102 p 10 = T 102 p 10 := hf_42 102 p 10 rfl
                refine And.intro (fun c10 => ?_) (fun c10 => ?_)
                · exact absurd c10 (by omega)
                · refine hK 90 [some (vR 107 0), some (vR 102 p), some (vI d), some (vI e), some (vI k), some (vI ((d * 10) + k))] [vI ((d * 10) + k), vR 103 p, vI (T 473 p ((d * 10) + k)), vI (T2 544 0 e), vI e, vR 544 0] T2 ?_
                  refine j_callV (y := yX3_isSentOff) (Yc := zX3_isSentOff) (rest := [vI (T 473 p ((d * 10) + k)), vI (T2 544 0 e), vI e, vR 544 0]) [vI ((d * 10) + k)] (ct_X3_isSentOff (T := T2) (by omega)) cl_X7_136 (qd_c (by decide +kernel)) (nn_ _) rfl (rf_of rfl) (Nat.le_of_ble_eq_true rfl) (Nat.le_of_ble_eq_true rfl) (Nat.le_of_ble_eq_true rfl) rfl ?_
                  rintro _ _ ⟨rfl, x12, rfl, hx12⟩
                  show J_ zX7_addCards T (po_X7_addCards T p) 0 0 93 _ [vI x12, vI (T 473 p ((d * 10) + k)), vI (T2 544 0 e), vI e, vR 544 0] T2
                  refine j_blx (F := fX7) tb_X7 (nn_ _) bk_X7_addCards_93 bs_X7_addCards_93 hz (fun K hK => ?_)
                  refine And.intro (fun c13 => ?_) (fun c13 => ?_)
                  · refine hK 100 _ [vI (T 473 p ((d * 10) + k)), vI (T2 544 0 e), vI e, vR 544 0] T2 ?_
                    refine j_blx (F := fX7) tb_X7 (nn_ _) bk_X7_addCards_100 bs_X7_addCards_100 hz (fun K hK => ?_)
                    intro w14 w14b
                    intro w15 w15b
                    refine iy_i (by omega) (by omega) ?_
                    refine x_nm (fun U16 hU16 => ?_)
                    have e17 := up_f hU16
                    refine rg_i (by omega) ?_
                    refine hK 42 [some (vR 107 0), some (vR 102 p), some (vI d), some (vI e), some (vI (k + 1)), some (vI ((d * 10) + k))] [] U16 ?_
                    refine j_drop [some (vR 107 0), some (vR 102 p), some (vI d), some (vI e), some (vI (k + 1)), none] (fun k v hk => ?_) rfl ?_
                    · match k, hk with
                      | 0, hk => exact hk
                      | 1, hk => exact hk
                      | 2, hk => exact hk
                      | 3, hk => exact hk
                      | 4, hk => exact hk
                      | 5, hk => cases hk
                      | k + 6, hk => cases hk
                    refine ih_42 _ ?_ e (k + 1) U16 (Nat.le_refl _) ?_ ?_
                    · have hm_42 := hm_42 (); omega
                    · exact fr_u (fr_t (fr_0 _ _) (fr_s hf_42 rfl)) hU16 rfl
                    · omega
                  · refine hK 101 [some (vR 107 0), some (vR 102 p), some (vI d), some (vI e), some (vI k), some (vI ((d * 10) + k))] [vI 3, vI (T 473 p ((d * 10) + k)), vI (T2 544 0 e), vI e, vR 544 0] T2 ?_
                    refine j_blx (F := fX7) tb_X7 (nn_ _) bk_X7_addCards_101 bs_X7_addCards_101 hz (fun K hK => ?_)
                    intro w18 w18b
                    intro w19 w19b
                    refine iy_i (by omega) (by omega) ?_
                    refine x_nm (fun U20 hU20 => ?_)
                    have e21 := up_f hU20
                    refine rg_i (by omega) ?_
                    refine hK 42 [some (vR 107 0), some (vR 102 p), some (vI d), some (vI e), some (vI (k + 1)), some (vI ((d * 10) + k))] [] U20 ?_
                    refine j_drop [some (vR 107 0), some (vR 102 p), some (vI d), some (vI e), some (vI (k + 1)), none] (fun k v hk => ?_) rfl ?_
                    · match k, hk with
                      | 0, hk => exact hk
                      | 1, hk => exact hk
                      | 2, hk => exact hk
                      | 3, hk => exact hk
                      | 4, hk => exact hk
                      | 5, hk => cases hk
                      | k + 6, hk => cases hk
                    refine ih_42 _ ?_ e (k + 1) U20 (Nat.le_refl _) ?_ ?_
                    · have hm_42 := hm_42 (); omega
                    · exact fr_u (fr_t (fr_0 _ _) (fr_s hf_42 rfl)) hU20 rfl
                    · omega
      refine j_blx (F := fX7) tb_X7 (nn_ _) bk_X7_addCards_10 bs_X7_addCards_10 hz (fun K hK => ?_)
      refine And.intro (fun c22 => ?_) (fun c22 => ?_)
      · refine hK 116 _ [] T1 ?_
        refine j_blx (F := fX7) tb_X7 (nn_ _) bk_X7_addCards_116 bs_X7_addCards_116 hz (fun K hK => ?_)
        refine (show po_X7_addCards T p T1 (none) from ?_)
        exact ⟨rfl, fr_t (fr_0 _ _) (fr_s hf_10 rfl), by rfl⟩
      · have e24 : T1 107 0 1 = T 107 0 1 := hf_10 107 0 1 rfl
        refine And.intro (fun c23 => ?_) (fun c23 => ?_)
        · exact absurd c23 (by omega)
        · refine And.intro (fun c25 => ?_) (fun c25 => ?_)
          · refine hK 33 _ [vR 404 (T1 107 0 1 - 1)] T1 ?_
            refine j_blx (F := fX7) tb_X7 (nn_ _) bk_X7_addCards_33 bs_X7_addCards_33 hz (fun K hK => ?_)
            intro b26 b26b
            have e27 : T1 102 p 4 = T 102 p 4 := hf_10 102 p 4 rfl
            rw [e27] at b26 b26b ⊢
            refine ix_i (by omega) ?_
            intro b28 b28b
            have e29 : T1 404 (T 107 0 1 - 1) (T 102 p 4) = T 404 (T 107 0 1 - 1) (T 102 p 4) := hf_10 404 (T 107 0 1 - 1) (T 102 p 4) rfl
            have e30 : T1 404 (T1 107 0 1 - 1) (T 102 p 4) = T 404 (T 107 0 1 - 1) (T 102 p 4) := by rw [e24]; exact e29
            rw [e30] at b28 b28b ⊢
            refine hK 42 [some (vR 107 0), some (vR 102 p), some (vI d), some (vI (T 404 (T 107 0 1 - 1) (T 102 p 4))), some (vI 0), none] [] T1 ?_
            refine c_42 _ (T 404 (T 107 0 1 - 1) (T 102 p 4)) 0 T1 (Nat.le_refl _) ?_ ?_
            · exact fr_t (fr_0 _ _) (fr_s hf_10 rfl)
            · omega
          · intro b31 b31b
            have e32 : T1 102 p 3 = T 102 p 3 := hf_10 102 p 3 rfl
            rw [e32] at b31 b31b ⊢
            refine hK 37 [some (vR 107 0), some (vR 102 p), some (vI d), none, none, none] [vI (T 102 p 3), vR 404 (T1 107 0 1 - 1)] T1 ?_
            refine j_blx (F := fX7) tb_X7 (nn_ _) bk_X7_addCards_37 bs_X7_addCards_37 hz (fun K hK => ?_)
            refine ix_i (by omega) ?_
            intro b33 b33b
            have e34 : T1 404 (T 107 0 1 - 1) (T 102 p 3) = T 404 (T 107 0 1 - 1) (T 102 p 3) := hf_10 404 (T 107 0 1 - 1) (T 102 p 3) rfl
            have e35 : T1 404 (T1 107 0 1 - 1) (T 102 p 3) = T 404 (T 107 0 1 - 1) (T 102 p 3) := by rw [e24]; exact e34
            rw [e35] at b33 b33b ⊢
            refine hK 42 [some (vR 107 0), some (vR 102 p), some (vI d), some (vI (T 404 (T 107 0 1 - 1) (T 102 p 3))), some (vI 0), none] [] T1 ?_
            refine c_42 _ (T 404 (T 107 0 1 - 1) (T 102 p 3)) 0 T1 (Nat.le_refl _) ?_ ?_
            · exact fr_t (fr_0 _ _) (fr_s hf_10 rfl)
            · omega
  refine j_blx (F := fX7) tb_X7 (nn_ _) bk_X7_addCards_0 bs_X7_addCards_0 hz (fun K hK => ?_)
  refine And.intro (fun c36 => ?_) (fun c36 => ?_)
  · refine (show po_X7_addCards T p T (none) from ?_)
    exact ⟨rfl, fr_0 _ _, by rfl⟩
  · refine hK 8 _ [] T ?_
    refine j_blx (F := fX7) tb_X7 (nn_ _) bk_X7_addCards_8 bs_X7_addCards_8 hz (fun K hK => ?_)
    refine hK 10 [some (vR 107 0), some (vR 102 p), some (vI 0), none, none, none] [] T ?_
    refine c_10 _ 0 T (Nat.le_refl _) ?_ ?_
    · exact fr_0 _ _
    · omega
abbrev cX7_lot : ByteArray := prog_9_method_12_code
def yX7_lot : MethodName := ⟨RX7, "lot", "(II)I"⟩
def zX7_lot : Zm := (RX7, cX7_lot, 4, (some .int), { frames := 0, cells := 0, slots := 0, locals := 0 })
abbrev cX7_headWorth : ByteArray := prog_9_method_11_code
def yX7_headWorth : MethodName := ⟨RX7, "headWorth", "(II)J"⟩
def zX7_headWorth : Zm := (RX7, cX7_headWorth, 10, (some .long), { frames := 0, cells := 0, slots := 0, locals := 0 })
abbrev cX7_worthOf : ByteArray := prog_9_method_10_code
def yX7_worthOf : MethodName := ⟨RX7, "worthOf", "(III)J"⟩
def zX7_worthOf : Zm := (RX7, cX7_worthOf, 5, (some .long), { frames := 1, cells := 0, slots := 0, locals := 29 })
theorem ds_X7_worthOf_33 : decode cX7_worthOf 33 = .ok (.tableswitch 106 0 5 #[39, 60, 71, 82, 90, 97], 39) := by decide +kernel
set_option maxRecDepth 100000 in
theorem cl_X7_164 : cv_ RX7 164 yX7_headWorth zX7_headWorth 7 2 := ⟨gi_V (lwq_6 (List.mem_of_getElem? (i := 4) rfl) rfl : Cond.methodLink RX7 164 yX7_headWorth ∈ lw_g) (lwq_6 (List.mem_of_getElem? (i := 6) rfl) rfl : Cond.instanceMethod yX7_headWorth ∈ lw_g) (lw_sel 129 rfl : Cond.selects yX7_headWorth.cls yX7_headWorth yX7_headWorth ∈ lw_g) (lwq_1 (List.mem_of_getElem? (i := 5) rfl) rfl : Cond.initialized yX7_headWorth.cls ∈ lw_g) (lwq_6 (List.mem_of_getElem? (i := 7) rfl) rfl : Cond.code yX7_headWorth cX7_headWorth 10 (some .long) ∈ lw_g), ⟨nmh_7.1, nmh_7.2, pdq_19⟩, ⟨_, _, rfl⟩⟩
set_option maxRecDepth 100000 in
theorem cl_X7_168 : cv_ RX7 168 yX7_lot zX7_lot 7 2 := ⟨gi_V (lwq_6 (dqa_m (List.mem_of_getElem? (i := 1) rfl)) rfl : Cond.methodLink RX7 168 yX7_lot ∈ lw_g) (lwq_6 (dqa_m (List.mem_of_getElem? (i := 3) rfl)) rfl : Cond.instanceMethod yX7_lot ∈ lw_g) (lw_sel 130 rfl : Cond.selects yX7_lot.cls yX7_lot yX7_lot ∈ lw_g) (lwq_1 (List.mem_of_getElem? (i := 5) rfl) rfl : Cond.initialized yX7_lot.cls ∈ lw_g) (lwq_6 (dqa_m (List.mem_of_getElem? (i := 4) rfl)) rfl : Cond.code yX7_lot cX7_lot 4 (some .int) ∈ lw_g), ⟨nmh_7.1, nmh_7.2, pdq_4⟩, ⟨_, _, rfl⟩⟩
abbrev cX7_weigh : ByteArray := prog_9_method_9_code
def yX7_weigh : MethodName := ⟨RX7, "weigh", "(III)V"⟩
def zX7_weigh : Zm := (RX7, cX7_weigh, 6, none, { frames := 2, cells := 0, slots := 0, locals := 53 })
set_option maxRecDepth 100000 in
theorem cl_X7_157 : cv_ RX7 157 yX7_worthOf zX7_worthOf 7 3 := ⟨gi_V (lwq_6 (List.mem_of_getElem? (i := 0) rfl) rfl : Cond.methodLink RX7 157 yX7_worthOf ∈ lw_g) (lwq_6 (List.mem_of_getElem? (i := 2) rfl) rfl : Cond.instanceMethod yX7_worthOf ∈ lw_g) (lw_sel 135 rfl : Cond.selects yX7_worthOf.cls yX7_worthOf yX7_worthOf ∈ lw_g) (lwq_1 (List.mem_of_getElem? (i := 5) rfl) rfl : Cond.initialized yX7_worthOf.cls ∈ lw_g) (lwq_6 (List.mem_of_getElem? (i := 3) rfl) rfl : Cond.code yX7_worthOf cX7_worthOf 5 (some .long) ∈ lw_g), ⟨nmh_7.1, nmh_7.2, pdq_20⟩, ⟨_, _, rfl⟩⟩
abbrev cX7_sort : ByteArray := prog_9_method_13_code
def yX7_sort : MethodName := ⟨RX7, "sort", "(II)V"⟩
def zX7_sort : Zm := (RX7, cX7_sort, 6, none, { frames := 0, cells := 0, slots := 0, locals := 0 })
abbrev cX7_putWaiting : ByteArray := prog_9_method_7_code
def yX7_putWaiting : MethodName := ⟨RX7, "putWaiting", "(III)V"⟩
def zX7_putWaiting : Zm := (RX7, cX7_putWaiting, 5, none, { frames := 0, cells := 0, slots := 0, locals := 0 })
abbrev cX7_orderGroup : ByteArray := prog_9_method_8_code
def yX7_orderGroup : MethodName := ⟨RX7, "orderGroup", "(III)V"⟩
def zX7_orderGroup : Zm := (RX7, cX7_orderGroup, 8, none, { frames := 3, cells := 0, slots := 0, locals := 78 })
set_option maxRecDepth 100000 in
theorem cl_X7_143 : cv_ RX7 143 yX7_putWaiting zX7_putWaiting 7 3 := ⟨gi_V (lwq_5 (dqc_m (dqc_m (dqc_m (dqc_m (dqc_m (dqc_m (dqc_m (List.mem_of_getElem? (i := 4) rfl)))))))) rfl : Cond.methodLink RX7 143 yX7_putWaiting ∈ lw_g) (lwq_5 (dqc_m (dqc_m (dqc_m (dqc_m (dqc_m (dqc_m (dqc_m (List.mem_of_getElem? (i := 6) rfl)))))))) rfl : Cond.instanceMethod yX7_putWaiting ∈ lw_g) (lw_sel 132 rfl : Cond.selects yX7_putWaiting.cls yX7_putWaiting yX7_putWaiting ∈ lw_g) (lwq_1 (List.mem_of_getElem? (i := 5) rfl) rfl : Cond.initialized yX7_putWaiting.cls ∈ lw_g) (lwq_5 (dqc_m (dqc_m (dqc_m (dqc_m (dqc_m (dqc_m (dqc_m (List.mem_of_getElem? (i := 7) rfl)))))))) rfl : Cond.code yX7_putWaiting cX7_putWaiting 5 none ∈ lw_g), ⟨nmh_7.1, nmh_7.2, pdq_3⟩, ⟨_, _, rfl⟩⟩
set_option maxRecDepth 100000 in
theorem cl_X7_150 : cv_ RX7 150 yX7_weigh zX7_weigh 7 3 := ⟨gi_V (lwq_5 (dqc_m (dqc_m (dqc_m (dqc_m (dqc_m (dqc_m (dqc_m (dqa_m (List.mem_of_getElem? (i := 4) rfl))))))))) rfl : Cond.methodLink RX7 150 yX7_weigh ∈ lw_g) (lwq_5 (dqc_m (dqc_m (dqc_m (dqc_m (dqc_m (dqc_m (dqc_m (dqa_m (List.mem_of_getElem? (i := 6) rfl))))))))) rfl : Cond.instanceMethod yX7_weigh ∈ lw_g) (lw_sel 134 rfl : Cond.selects yX7_weigh.cls yX7_weigh yX7_weigh ∈ lw_g) (lwq_1 (List.mem_of_getElem? (i := 5) rfl) rfl : Cond.initialized yX7_weigh.cls ∈ lw_g) (lwq_5 (dqc_m (dqc_m (dqc_m (dqc_m (dqc_m (dqc_m (dqc_m (dqa_m (List.mem_of_getElem? (i := 7) rfl))))))))) rfl : Cond.code yX7_weigh cX7_weigh 6 none ∈ lw_g), ⟨nmh_7.1, nmh_7.2, pdq_3⟩, ⟨_, _, rfl⟩⟩
set_option maxRecDepth 100000 in
theorem cl_X7_153 : cv_ RX7 153 yX7_sort zX7_sort 7 2 := ⟨gi_V (lwq_6 (dqa_m (dqa_m (List.mem_of_getElem? (i := 0) rfl))) rfl : Cond.methodLink RX7 153 yX7_sort ∈ lw_g) (lwq_6 (dqa_m (dqa_m (List.mem_of_getElem? (i := 2) rfl))) rfl : Cond.instanceMethod yX7_sort ∈ lw_g) (lw_sel 133 rfl : Cond.selects yX7_sort.cls yX7_sort yX7_sort ∈ lw_g) (lwq_1 (List.mem_of_getElem? (i := 5) rfl) rfl : Cond.initialized yX7_sort.cls ∈ lw_g) (lwq_6 (dqa_m (dqa_m (List.mem_of_getElem? (i := 3) rfl))) rfl : Cond.code yX7_sort cX7_sort 6 none ∈ lw_g), ⟨nmh_7.1, nmh_7.2, pdq_0⟩, ⟨_, _, rfl⟩⟩
abbrev cX7_rank : ByteArray := prog_9_method_6_code
def yX7_rank : MethodName := ⟨RX7, "rank", "()V"⟩
def zX7_rank : Zm := (RX7, cX7_rank, 3, none, { frames := 4, cells := 0, slots := 0, locals := 105 })
set_option maxRecDepth 100000 in
theorem cl_X7_147 : cv_ RX7 147 yX7_orderGroup zX7_orderGroup 7 3 := ⟨gi_V (lwq_5 (dqc_m (dqc_m (dqc_m (dqc_m (dqc_m (dqc_m (dqc_m (dqa_m (List.mem_of_getElem? (i := 0) rfl))))))))) rfl : Cond.methodLink RX7 147 yX7_orderGroup ∈ lw_g) (lwq_5 (dqc_m (dqc_m (dqc_m (dqc_m (dqc_m (dqc_m (dqc_m (dqa_m (List.mem_of_getElem? (i := 2) rfl))))))))) rfl : Cond.instanceMethod yX7_orderGroup ∈ lw_g) (lw_sel 131 rfl : Cond.selects yX7_orderGroup.cls yX7_orderGroup yX7_orderGroup ∈ lw_g) (lwq_1 (List.mem_of_getElem? (i := 5) rfl) rfl : Cond.initialized yX7_orderGroup.cls ∈ lw_g) (lwq_5 (dqc_m (dqc_m (dqc_m (dqc_m (dqc_m (dqc_m (dqc_m (dqa_m (List.mem_of_getElem? (i := 3) rfl))))))))) rfl : Cond.code yX7_orderGroup cX7_orderGroup 8 none ∈ lw_g), ⟨nmh_7.1, nmh_7.2, pdq_3⟩, ⟨_, _, rfl⟩⟩
/-- the seats of an open match's clubs -/
def hsx_ (T : Zt) (k : Int) : Int := T 404 (T 109 0 5 - 1) (T 102 (T 588 0 k) 3)
def asx_ (T : Zt) (k : Int) : Int := T 404 (T 109 0 5 - 1) (T 102 (T 588 0 k) 4)
/-- the open matches are there, and their clubs have seats -/
def Q9_ (T : Zt) : Prop := T 109 0 5 ≠ 0 ∧ ∀ k, 0 ≤ k → k < T 109 0 9 → (0 ≤ T 588 0 k ∧ T 588 0 k < T 106 0 4) ∧ (0 ≤ hsx_ T k ∧ hsx_ T k ≤ 11) ∧ (0 ≤ asx_ T k ∧ asx_ T k ≤ 11)
abbrev qw_ (ws : List (Nat × List Int)) : Prop := (∀ (_ : Nat) j, fw_ ws 404 j = false) ∧ (∀ j, fw_ ws 588 j = false) ∧ fw_ ws 109 5 = false ∧ fw_ ws 109 9 = false ∧ fw_ ws 106 4 = false ∧ fw_ ws 102 3 = false ∧ fw_ ws 102 4 = false
theorem hsx_e {ws : List (Nat × List Int)} {T T1 : Zt} (f : fr_ ws T T1) (w : qw_ ws) (k : Int) : hsx_ T1 k = hsx_ T k := by
  unfold hsx_
  rw [f 109 0 _ w.2.2.1, f _ 0 k (w.2.1 k), f 102 _ _ w.2.2.2.2.2.1, f _ _ _ (w.1 0 _)]
theorem asx_e {ws : List (Nat × List Int)} {T T1 : Zt} (f : fr_ ws T T1) (w : qw_ ws) (k : Int) : asx_ T1 k = asx_ T k := by
  unfold asx_
  rw [f 109 0 _ w.2.2.1, f _ 0 k (w.2.1 k), f 102 _ _ w.2.2.2.2.2.2, f _ _ _ (w.1 0 _)]
theorem q9_f {ws : List (Nat × List Int)} {T T1 : Zt} (h : Q9_ T) (f : fr_ ws T T1) (w : qw_ ws) : Q9_ T1 := by
  refine ⟨by rw [f 109 0 _ w.2.2.1]; exact h.1, fun k a b => ?_⟩
  rw [f 109 0 _ w.2.2.2.1] at b
  rw [hsx_e f w, asx_e f w, f _ 0 k (w.2.1 k), f 106 0 _ w.2.2.2.2.1]
  exact h.2 k a b
abbrev cX9_homeSeatOf : ByteArray := prog_11_method_10_code
def yX9_homeSeatOf : MethodName := ⟨RX9, "homeSeatOf", "(I)I"⟩
def zX9_homeSeatOf : Zm := (RX9, cX9_homeSeatOf, 2, (some .int), { frames := 0, cells := 0, slots := 0, locals := 0 })
theorem bk_X9_homeSeatOf_0 : ck_ fX9 (some .int) cX9_homeSeatOf 0 [.aload 0, .tableswitch 0 9 5 #[], .tableswitch 0 0 4 #[], .aload 0, .tableswitch 0 9 0 #[], .tableswitch 0 6 3 #[], .aload 0, .tableswitch 0 9 8 #[], .iload 1, .iaload, .aaload, .tableswitch 0 2 3 #[], .iaload, .ireturn] 26 = true := qck_r (nn_ _) (by decide +kernel)
theorem bs_X9_homeSeatOf_0 {P : Zt → Option Zv → Prop} (K : Int → Zl → List Zv → Zt → Prop) : sx_ K P [.aload 0, .tableswitch 0 9 5 #[], .tableswitch 0 0 4 #[], .aload 0, .tableswitch 0 9 0 #[], .tableswitch 0 6 3 #[], .aload 0, .tableswitch 0 9 8 #[], .iload 1, .iaload, .aaload, .tableswitch 0 2 3 #[], .iaload, .ireturn] 26 = x_aload 0 (x_g5 109 100 5 (x_g2 100 404 (x_aload 0 (x_g1 109 106 (x_g1 106 523 (x_aload 0 (x_g1 109 588 (x_iload 1 (x_iaload (x_aaload (x_g0 102 3 0 11 (x_iaload (x_ireturn P))))))))))))) := ((xe_aload 0).trans (congrArg (x_aload 0) ((xe_g5 (kk := 109) rfl tl_9_5).trans (congrArg (x_g5 109 100 5) ((xe_g2 (kk := 100) rfl tl_0_4).trans (congrArg (x_g2 100 404) ((xe_aload 0).trans (congrArg (x_aload 0) ((xe_g1 (kk := 109) rfl tl_9_0).trans (congrArg (x_g1 109 106) ((xe_g1 (kk := 106) rfl tl_6_3).trans (congrArg (x_g1 106 523) ((xe_aload 0).trans (congrArg (x_aload 0) ((xe_g1 (kk := 109) rfl tl_9_8).trans (congrArg (x_g1 109 588) ((xe_iload 1).trans (congrArg (x_iload 1) ((xe_iaload).trans (congrArg (x_iaload) ((xe_aaload).trans (congrArg (x_aaload) ((xe_g0 (kk := 102) rfl tl_2_3).trans (congrArg (x_g0 102 3 0 11) ((xe_iaload).trans (congrArg (x_iaload) (xe_ireturn)))))))))))))))))))))))))))
abbrev po_X9_homeSeatOf (T : Zt) (k : Int) : Zt → Option Zv → Prop := fun T' r => T = T' ∧ ∃ x : Int, r = some (vI x) ∧ (x = hsx_ T k ∧ 0 ≤ x ∧ x ≤ 11)
set_option maxHeartbeats 4000000 in
theorem ct_X9_homeSeatOf {T : Zt} {k : Int} (hq9 : Q9_ T) (hka : KA_ T) (hk : 0 ≤ k ∧ k < T 109 0 9) : Ct_ yX9_homeSeatOf zX9_homeSeatOf T [vR 109 0, vI k] (po_X9_homeSeatOf T k) := by
  refine ct_of pn_9 rfl rfl (Nat.le_of_ble_eq_true rfl) (fun hT hav => ?_)
  have hr_k : -2147483648 ≤ k ∧ k ≤ 2147483647 := hav (vI k) (List.mem_cons_of_mem _ List.mem_cons_self)
  have hz : zX9_homeSeatOf.2.2.2.1 = some .boolean → ∀ (T' : Zt) (x : Int), po_X9_homeSeatOf T k T' (some (vI x)) → 0 ≤ x ∧ x ≤ 1 := fun h => by cases h
  have hct := hq9.1
  have hqk := hq9.2 k (by omega) (by omega)
  have hbo : 0 ≤ T 109 0 9 ∧ T 109 0 9 ≤ 40 := bd_f hT 109 9 tl_9_9 0
  show J_ zX9_homeSeatOf T (po_X9_homeSeatOf T k) 0 0 0 [some (vR 109 0), some (vI k)] [] T
  refine j_blx (F := fX9) tb_X9 (nn_ _) bk_X9_homeSeatOf_0 bs_X9_homeSeatOf_0 hz (fun K hK => ?_)
  refine And.intro (fun c1 => ?_) (fun c1 => ?_)
  · exact absurd c1 (by omega)
  · refine ix_i (by omega) ?_
    intro b2 b2b
    refine ix_i (by omega) ?_
    refine And.intro (fun c3 => ?_) (fun c3 => ?_)
    · exact absurd c3 (hka.2 _ (by omega) (by omega))
    · intro b4 b4b
      refine ix_i (by omega) ?_
      intro b5 b5b
      refine (show po_X9_homeSeatOf T k T (some (vI (T 404 (T 109 0 5 - 1) (T 102 (T 588 0 k) 3)))) from ?_)
      exact ⟨rfl, _, rfl, rfl, hqk.2.1⟩
abbrev cX9_awaySeatOf : ByteArray := prog_11_method_11_code
def yX9_awaySeatOf : MethodName := ⟨RX9, "awaySeatOf", "(I)I"⟩
def zX9_awaySeatOf : Zm := (RX9, cX9_awaySeatOf, 2, (some .int), { frames := 0, cells := 0, slots := 0, locals := 0 })
theorem bk_X9_awaySeatOf_0 : ck_ fX9 (some .int) cX9_awaySeatOf 0 [.aload 0, .tableswitch 0 9 5 #[], .tableswitch 0 0 4 #[], .aload 0, .tableswitch 0 9 0 #[], .tableswitch 0 6 3 #[], .aload 0, .tableswitch 0 9 8 #[], .iload 1, .iaload, .aaload, .tableswitch 0 2 4 #[], .iaload, .ireturn] 26 = true := qck_r (nn_ _) (by decide +kernel)
theorem bs_X9_awaySeatOf_0 {P : Zt → Option Zv → Prop} (K : Int → Zl → List Zv → Zt → Prop) : sx_ K P [.aload 0, .tableswitch 0 9 5 #[], .tableswitch 0 0 4 #[], .aload 0, .tableswitch 0 9 0 #[], .tableswitch 0 6 3 #[], .aload 0, .tableswitch 0 9 8 #[], .iload 1, .iaload, .aaload, .tableswitch 0 2 4 #[], .iaload, .ireturn] 26 = x_aload 0 (x_g5 109 100 5 (x_g2 100 404 (x_aload 0 (x_g1 109 106 (x_g1 106 523 (x_aload 0 (x_g1 109 588 (x_iload 1 (x_iaload (x_aaload (x_g0 102 4 0 11 (x_iaload (x_ireturn P))))))))))))) := ((xe_aload 0).trans (congrArg (x_aload 0) ((xe_g5 (kk := 109) rfl tl_9_5).trans (congrArg (x_g5 109 100 5) ((xe_g2 (kk := 100) rfl tl_0_4).trans (congrArg (x_g2 100 404) ((xe_aload 0).trans (congrArg (x_aload 0) ((xe_g1 (kk := 109) rfl tl_9_0).trans (congrArg (x_g1 109 106) ((xe_g1 (kk := 106) rfl tl_6_3).trans (congrArg (x_g1 106 523) ((xe_aload 0).trans (congrArg (x_aload 0) ((xe_g1 (kk := 109) rfl tl_9_8).trans (congrArg (x_g1 109 588) ((xe_iload 1).trans (congrArg (x_iload 1) ((xe_iaload).trans (congrArg (x_iaload) ((xe_aaload).trans (congrArg (x_aaload) ((xe_g0 (kk := 102) rfl tl_2_4).trans (congrArg (x_g0 102 4 0 11) ((xe_iaload).trans (congrArg (x_iaload) (xe_ireturn)))))))))))))))))))))))))))
abbrev po_X9_awaySeatOf (T : Zt) (k : Int) : Zt → Option Zv → Prop := fun T' r => T = T' ∧ ∃ x : Int, r = some (vI x) ∧ (x = asx_ T k ∧ 0 ≤ x ∧ x ≤ 11)
set_option maxHeartbeats 4000000 in
theorem ct_X9_awaySeatOf {T : Zt} {k : Int} (hq9 : Q9_ T) (hka : KA_ T) (hk : 0 ≤ k ∧ k < T 109 0 9) : Ct_ yX9_awaySeatOf zX9_awaySeatOf T [vR 109 0, vI k] (po_X9_awaySeatOf T k) := by
  refine ct_of pn_9 rfl rfl (Nat.le_of_ble_eq_true rfl) (fun hT hav => ?_)
  have hr_k : -2147483648 ≤ k ∧ k ≤ 2147483647 := hav (vI k) (List.mem_cons_of_mem _ List.mem_cons_self)
  have hz : zX9_awaySeatOf.2.2.2.1 = some .boolean → ∀ (T' : Zt) (x : Int), po_X9_awaySeatOf T k T' (some (vI x)) → 0 ≤ x ∧ x ≤ 1 := fun h => by cases h
  have hct := hq9.1
  have hqk := hq9.2 k (by omega) (by omega)
  have hbo : 0 ≤ T 109 0 9 ∧ T 109 0 9 ≤ 40 := bd_f hT 109 9 tl_9_9 0
  show J_ zX9_awaySeatOf T (po_X9_awaySeatOf T k) 0 0 0 [some (vR 109 0), some (vI k)] [] T
  refine j_blx (F := fX9) tb_X9 (nn_ _) bk_X9_awaySeatOf_0 bs_X9_awaySeatOf_0 hz (fun K hK => ?_)
  refine And.intro (fun c1 => ?_) (fun c1 => ?_)
  · exact absurd c1 (by omega)
  · refine ix_i (by omega) ?_
    intro b2 b2b
    refine ix_i (by omega) ?_
    refine And.intro (fun c3 => ?_) (fun c3 => ?_)
    · exact absurd c3 (hka.2 _ (by omega) (by omega))
    · intro b4 b4b
      refine ix_i (by omega) ?_
      intro b5 b5b
      refine (show po_X9_awaySeatOf T k T (some (vI (T 404 (T 109 0 5 - 1) (T 102 (T 588 0 k) 4)))) from ?_)
      exact ⟨rfl, _, rfl, rfl, hqk.2.2⟩
abbrev cX9_takerOf : ByteArray := prog_11_method_13_code
def yX9_takerOf : MethodName := ⟨RX9, "takerOf", "(II)I"⟩
def zX9_takerOf : Zm := (RX9, cX9_takerOf, 3, (some .int), { frames := 1, cells := 0, slots := 0, locals := 21 })
theorem bk_X9_takerOf_0 : ck_ fX9 (some .int) cX9_takerOf 0 [.aload 0, .iload 1] 2 = true := qck_r (nn_ _) (by decide +kernel)
theorem bs_X9_takerOf_0 {P : Zt → Option Zv → Prop} (K : Int → Zl → List Zv → Zt → Prop) : sx_ K P [.aload 0, .iload 1] 2 = x_aload 0 (x_iload 1 (K 2)) := ((xe_aload 0).trans (congrArg (x_aload 0) ((xe_iload 1).trans (congrArg (x_iload 1) xe_nil))))
set_option maxRecDepth 100000 in
theorem cl_X9_145 : cv_ RX9 145 yX9_homeSeatOf zX9_homeSeatOf 9 1 := ⟨gi_V (lwq_6 (dqc_m (dqa_m (dqa_m (List.mem_of_getElem? (i := 7) rfl)))) rfl : Cond.methodLink RX9 145 yX9_homeSeatOf ∈ lw_g) (lwq_6 (dqc_m (dqa_m (dqa_m (dqa_m (List.mem_of_getElem? (i := 1) rfl))))) rfl : Cond.instanceMethod yX9_homeSeatOf ∈ lw_g) (lw_sel 137 rfl : Cond.selects yX9_homeSeatOf.cls yX9_homeSeatOf yX9_homeSeatOf ∈ lw_g) (lwq_1 (List.mem_of_getElem? (i := 6) rfl) rfl : Cond.initialized yX9_homeSeatOf.cls ∈ lw_g) (lwq_6 (dqc_m (dqa_m (dqa_m (dqa_m (List.mem_of_getElem? (i := 2) rfl))))) rfl : Cond.code yX9_homeSeatOf cX9_homeSeatOf 2 (some .int) ∈ lw_g), ⟨nmh_8.1, nmh_8.2, pdq_15⟩, ⟨_, _, rfl⟩⟩
theorem bk_X9_takerOf_5 : ck_ fX9 (some .int) cX9_takerOf 5 [.iload 2, .if_icmp .ne 28, .aload 0, .tableswitch 0 9 10 #[], .iload 1, .iaload, .ifCond .le 26, .aload 0, .iload 1] 20 = true := qck_r (nn_ _) (by decide +kernel)
theorem bs_X9_takerOf_5 {P : Zt → Option Zv → Prop} (K : Int → Zl → List Zv → Zt → Prop) : sx_ K P [.iload 2, .if_icmp .ne 28, .aload 0, .tableswitch 0 9 10 #[], .iload 1, .iaload, .ifCond .le 26, .aload 0, .iload 1] 20 = x_iload 2 (x_if_icmp .ne 28 K (x_aload 0 (x_g1 109 590 (x_iload 1 (x_iaload (x_ifCond .le 26 K (x_aload 0 (x_iload 1 (K 20))))))))) := ((xe_iload 2).trans (congrArg (x_iload 2) ((xe_if_icmp .ne 28).trans (congrArg (x_if_icmp .ne 28 K) ((xe_aload 0).trans (congrArg (x_aload 0) ((xe_g1 (kk := 109) rfl tl_9_10).trans (congrArg (x_g1 109 590) ((xe_iload 1).trans (congrArg (x_iload 1) ((xe_iaload).trans (congrArg (x_iaload) ((xe_ifCond .le 26).trans (congrArg (x_ifCond .le 26 K) ((xe_aload 0).trans (congrArg (x_aload 0) ((xe_iload 1).trans (congrArg (x_iload 1) xe_nil))))))))))))))))))
theorem bk_X9_takerOf_28 : ck_ fX9 (some .int) cX9_takerOf 28 [.aload 0, .iload 1] 30 = true := qck_r (nn_ _) (by decide +kernel)
theorem bs_X9_takerOf_28 {P : Zt → Option Zv → Prop} (K : Int → Zl → List Zv → Zt → Prop) : sx_ K P [.aload 0, .iload 1] 30 = x_aload 0 (x_iload 1 (K 30)) := ((xe_aload 0).trans (congrArg (x_aload 0) ((xe_iload 1).trans (congrArg (x_iload 1) xe_nil))))
set_option maxRecDepth 100000 in
theorem cl_X9_154 : cv_ RX9 154 yX9_awaySeatOf zX9_awaySeatOf 9 1 := ⟨gi_V (lwq_6 (dqc_m (dqc_m (List.mem_of_getElem? (i := 3) rfl))) rfl : Cond.methodLink RX9 154 yX9_awaySeatOf ∈ lw_g) (lwq_6 (dqc_m (dqc_m (List.mem_of_getElem? (i := 5) rfl))) rfl : Cond.instanceMethod yX9_awaySeatOf ∈ lw_g) (lw_sel 136 rfl : Cond.selects yX9_awaySeatOf.cls yX9_awaySeatOf yX9_awaySeatOf ∈ lw_g) (lwq_1 (List.mem_of_getElem? (i := 6) rfl) rfl : Cond.initialized yX9_awaySeatOf.cls ∈ lw_g) (lwq_6 (dqc_m (dqc_m (List.mem_of_getElem? (i := 6) rfl))) rfl : Cond.code yX9_awaySeatOf cX9_awaySeatOf 2 (some .int) ∈ lw_g), ⟨nmh_8.1, nmh_8.2, pdq_15⟩, ⟨_, _, rfl⟩⟩
theorem bk_X9_takerOf_33 : ck_ fX9 (some .int) cX9_takerOf 33 [.iload 2, .if_icmp .ne 55, .aload 0, .tableswitch 0 9 10 #[], .iload 1, .iaload, .iconst 2, .if_icmp .ge 55, .aload 0, .iload 1] 49 = true := qck_r (nn_ _) (by decide +kernel)
theorem bs_X9_takerOf_33 {P : Zt → Option Zv → Prop} (K : Int → Zl → List Zv → Zt → Prop) : sx_ K P [.iload 2, .if_icmp .ne 55, .aload 0, .tableswitch 0 9 10 #[], .iload 1, .iaload, .iconst 2, .if_icmp .ge 55, .aload 0, .iload 1] 49 = x_iload 2 (x_if_icmp .ne 55 K (x_aload 0 (x_g1 109 590 (x_iload 1 (x_iaload (x_iconst 2 (x_if_icmp .ge 55 K (x_aload 0 (x_iload 1 (K 49)))))))))) := ((xe_iload 2).trans (congrArg (x_iload 2) ((xe_if_icmp .ne 55).trans (congrArg (x_if_icmp .ne 55 K) ((xe_aload 0).trans (congrArg (x_aload 0) ((xe_g1 (kk := 109) rfl tl_9_10).trans (congrArg (x_g1 109 590) ((xe_iload 1).trans (congrArg (x_iload 1) ((xe_iaload).trans (congrArg (x_iaload) ((xe_iconst 2).trans (congrArg (x_iconst 2) ((xe_if_icmp .ge 55).trans (congrArg (x_if_icmp .ge 55 K) ((xe_aload 0).trans (congrArg (x_aload 0) ((xe_iload 1).trans (congrArg (x_iload 1) xe_nil))))))))))))))))))))
theorem bk_X9_takerOf_55 : ck_ fX9 (some .int) cX9_takerOf 55 [.iconst (-1), .ireturn] 57 = true := qck_r (nn_ _) (by decide +kernel)
theorem bs_X9_takerOf_55 {P : Zt → Option Zv → Prop} (K : Int → Zl → List Zv → Zt → Prop) : sx_ K P [.iconst (-1), .ireturn] 57 = x_iconst (-1) (x_ireturn P) := ((xe_iconst (-1)).trans (congrArg (x_iconst (-1)) (xe_ireturn)))
theorem bk_X9_takerOf_52 : ck_ fX9 (some .int) cX9_takerOf 52 [.goto 56] 55 = true := qck_r (nn_ _) (by decide +kernel)
theorem bs_X9_takerOf_52 {P : Zt → Option Zv → Prop} (K : Int → Zl → List Zv → Zt → Prop) : sx_ K P [.goto 56] 55 = x_goto 56 K := (xe_goto 56)
theorem bk_X9_takerOf_56 : ck_ fX9 (some .int) cX9_takerOf 56 [.ireturn] 57 = true := qck_r (nn_ _) (by decide +kernel)
theorem bs_X9_takerOf_56 {P : Zt → Option Zv → Prop} (K : Int → Zl → List Zv → Zt → Prop) : sx_ K P [.ireturn] 57 = x_ireturn P := (xe_ireturn)
theorem bk_X9_takerOf_26 : ck_ fX9 (some .int) cX9_takerOf 26 [.iconst (-1), .ireturn] 28 = true := qck_r (nn_ _) (by decide +kernel)
theorem bs_X9_takerOf_26 {P : Zt → Option Zv → Prop} (K : Int → Zl → List Zv → Zt → Prop) : sx_ K P [.iconst (-1), .ireturn] 28 = x_iconst (-1) (x_ireturn P) := ((xe_iconst (-1)).trans (congrArg (x_iconst (-1)) (xe_ireturn)))
theorem bk_X9_takerOf_23 : ck_ fX9 (some .int) cX9_takerOf 23 [.goto 27] 26 = true := qck_r (nn_ _) (by decide +kernel)
theorem bs_X9_takerOf_23 {P : Zt → Option Zv → Prop} (K : Int → Zl → List Zv → Zt → Prop) : sx_ K P [.goto 27] 26 = x_goto 27 K := (xe_goto 27)
theorem bk_X9_takerOf_27 : ck_ fX9 (some .int) cX9_takerOf 27 [.ireturn] 28 = true := qck_r (nn_ _) (by decide +kernel)
theorem bs_X9_takerOf_27 {P : Zt → Option Zv → Prop} (K : Int → Zl → List Zv → Zt → Prop) : sx_ K P [.ireturn] 28 = x_ireturn P := (xe_ireturn)
abbrev po_X9_takerOf (T : Zt) (k s : Int) : Zt → Option Zv → Prop := fun T' r => T = T' ∧ ∃ x : Int, r = some (vI x) ∧ (x = -1 ∨ (0 ≤ x ∧ x ≤ 11 ∧ ((hsx_ T k = s ∧ x = asx_ T k) ∨ (asx_ T k = s ∧ x = hsx_ T k))))
set_option maxHeartbeats 4000000 in
theorem ct_X9_takerOf {T : Zt} {k s : Int} (hq9 : Q9_ T) (hka : KA_ T) (hk : 0 ≤ k ∧ k < T 109 0 9) : Ct_ yX9_takerOf zX9_takerOf T [vR 109 0, vI k, vI s] (po_X9_takerOf T k s) := by
  refine ct_of pn_9 rfl rfl (Nat.le_of_ble_eq_true rfl) (fun hT hav => ?_)
  have hr_k : -2147483648 ≤ k ∧ k ≤ 2147483647 := hav (vI k) (List.mem_cons_of_mem _ List.mem_cons_self)
  have hr_s : -2147483648 ≤ s ∧ s ≤ 2147483647 := hav (vI s) (List.mem_cons_of_mem _ (List.mem_cons_of_mem _ List.mem_cons_self))
  have hz : zX9_takerOf.2.2.2.1 = some .boolean → ∀ (T' : Zt) (x : Int), po_X9_takerOf T k s T' (some (vI x)) → 0 ≤ x ∧ x ≤ 1 := fun h => by cases h
  have hbo : 0 ≤ T 109 0 9 ∧ T 109 0 9 ≤ 40 := bd_f hT 109 9 tl_9_9 0
  show J_ zX9_takerOf T (po_X9_takerOf T k s) 0 0 0 [some (vR 109 0), some (vI k), some (vI s)] [] T
  refine j_blx (F := fX9) tb_X9 (nn_ _) bk_X9_takerOf_0 bs_X9_takerOf_0 hz (fun K hK => ?_)
  refine hK 2 _ [vI k, vR 109 0] T ?_
  refine j_callV (y := yX9_homeSeatOf) (Yc := zX9_homeSeatOf) (rest := []) [vI k] (ct_X9_homeSeatOf (T := T) hq9 hka (by omega)) cl_X9_145 (qd_c (by decide +kernel)) (nn_ _) rfl (rf_of rfl) (Nat.le_of_ble_eq_true rfl) (Nat.le_of_ble_eq_true rfl) (Nat.le_of_ble_eq_true rfl) rfl ?_
  rintro _ _ ⟨rfl, x1, rfl, hx1⟩
  show J_ zX9_takerOf T (po_X9_takerOf T k s) 0 0 5 _ [vI x1] T
  refine j_blx (F := fX9) tb_X9 (nn_ _) bk_X9_takerOf_5 bs_X9_takerOf_5 hz (fun K hK => ?_)
  refine And.intro (fun c2 => ?_) (fun c2 => ?_)
  · refine hK 28 _ [] T ?_
    refine j_blx (F := fX9) tb_X9 (nn_ _) bk_X9_takerOf_28 bs_X9_takerOf_28 hz (fun K hK => ?_)
    refine hK 30 _ [vI k, vR 109 0] T ?_
    refine j_callV (y := yX9_awaySeatOf) (Yc := zX9_awaySeatOf) (rest := []) [vI k] (ct_X9_awaySeatOf (T := T) hq9 hka (by omega)) cl_X9_154 (qd_c (by decide +kernel)) (nn_ _) rfl (rf_of rfl) (Nat.le_of_ble_eq_true rfl) (Nat.le_of_ble_eq_true rfl) (Nat.le_of_ble_eq_true rfl) rfl ?_
    rintro _ _ ⟨rfl, x3, rfl, hx3⟩
    show J_ zX9_takerOf T (po_X9_takerOf T k s) 0 0 33 _ [vI x3] T
    refine j_blx (F := fX9) tb_X9 (nn_ _) bk_X9_takerOf_33 bs_X9_takerOf_33 hz (fun K hK => ?_)
    refine And.intro (fun c4 => ?_) (fun c4 => ?_)
    · refine hK 55 _ [] T ?_
      refine j_blx (F := fX9) tb_X9 (nn_ _) bk_X9_takerOf_55 bs_X9_takerOf_55 hz (fun K hK => ?_)
      refine (show po_X9_takerOf T k s T (some (vI (-1))) from ?_)
      exact ⟨rfl, _, rfl, by omega⟩
    · refine ix_i (by omega) ?_
      intro b5 b5b
      refine And.intro (fun c6 => ?_) (fun c6 => ?_)
      · refine hK 55 _ [] T ?_
        refine j_blx (F := fX9) tb_X9 (nn_ _) bk_X9_takerOf_55 bs_X9_takerOf_55 hz (fun K hK => ?_)
        refine (show po_X9_takerOf T k s T (some (vI (-1))) from ?_)
        exact ⟨rfl, _, rfl, by omega⟩
      · refine hK 49 _ [vI k, vR 109 0] T ?_
        refine j_callV (y := yX9_homeSeatOf) (Yc := zX9_homeSeatOf) (rest := []) [vI k] (ct_X9_homeSeatOf (T := T) hq9 hka (by omega)) cl_X9_145 (qd_c (by decide +kernel)) (nn_ _) rfl (rf_of rfl) (Nat.le_of_ble_eq_true rfl) (Nat.le_of_ble_eq_true rfl) (Nat.le_of_ble_eq_true rfl) rfl ?_
        rintro _ _ ⟨rfl, x7, rfl, hx7⟩
        show J_ zX9_takerOf T (po_X9_takerOf T k s) 0 0 52 _ [vI x7] T
        refine j_blx (F := fX9) tb_X9 (nn_ _) bk_X9_takerOf_52 bs_X9_takerOf_52 hz (fun K hK => ?_)
        refine hK 56 _ [vI x7] T ?_
        refine j_blx (F := fX9) tb_X9 (nn_ _) bk_X9_takerOf_56 bs_X9_takerOf_56 hz (fun K hK => ?_)
        refine (show po_X9_takerOf T k s T (some (vI x7)) from ?_)
        exact ⟨rfl, _, rfl, by omega⟩
  · refine ix_i (by omega) ?_
    intro b8 b8b
    refine And.intro (fun c9 => ?_) (fun c9 => ?_)
    · refine hK 26 _ [] T ?_
      refine j_blx (F := fX9) tb_X9 (nn_ _) bk_X9_takerOf_26 bs_X9_takerOf_26 hz (fun K hK => ?_)
      refine (show po_X9_takerOf T k s T (some (vI (-1))) from ?_)
      exact ⟨rfl, _, rfl, by omega⟩
    · refine hK 20 _ [vI k, vR 109 0] T ?_
      refine j_callV (y := yX9_awaySeatOf) (Yc := zX9_awaySeatOf) (rest := []) [vI k] (ct_X9_awaySeatOf (T := T) hq9 hka (by omega)) cl_X9_154 (qd_c (by decide +kernel)) (nn_ _) rfl (rf_of rfl) (Nat.le_of_ble_eq_true rfl) (Nat.le_of_ble_eq_true rfl) (Nat.le_of_ble_eq_true rfl) rfl ?_
      rintro _ _ ⟨rfl, x10, rfl, hx10⟩
      show J_ zX9_takerOf T (po_X9_takerOf T k s) 0 0 23 _ [vI x10] T
      refine j_blx (F := fX9) tb_X9 (nn_ _) bk_X9_takerOf_23 bs_X9_takerOf_23 hz (fun K hK => ?_)
      refine hK 27 _ [vI x10] T ?_
      refine j_blx (F := fX9) tb_X9 (nn_ _) bk_X9_takerOf_27 bs_X9_takerOf_27 hz (fun K hK => ?_)
      refine (show po_X9_takerOf T k s T (some (vI x10)) from ?_)
      exact ⟨rfl, _, rfl, by omega⟩
abbrev cX9_openBetween : ByteArray := prog_11_method_16_code
def yX9_openBetween : MethodName := ⟨RX9, "openBetween", "(II)I"⟩
def zX9_openBetween : Zm := (RX9, cX9_openBetween, 6, (some .int), { frames := 0, cells := 0, slots := 0, locals := 0 })
theorem bk_X9_openBetween_76 : ck_ fX9 (some .int) cX9_openBetween 76 [.iinc 4 1, .goto 5] 82 = true := qck_r (nn_ _) (by decide +kernel)
theorem bs_X9_openBetween_76 {P : Zt → Option Zv → Prop} (K : Int → Zl → List Zv → Zt → Prop) : sx_ K P [.iinc 4 1, .goto 5] 82 = x_iinc 4 1 (x_goto 5 K) := ((xe_iinc 4 1).trans (congrArg (x_iinc 4 1) (xe_goto 5)))
theorem bk_X9_openBetween_73 : ck_ fX9 (some .int) cX9_openBetween 73 [.iinc 3 1] 76 = true := qck_r (nn_ _) (by decide +kernel)
theorem bs_X9_openBetween_73 {P : Zt → Option Zv → Prop} (K : Int → Zl → List Zv → Zt → Prop) : sx_ K P [.iinc 3 1] 76 = x_iinc 3 1 (K 76) := ((xe_iinc 3 1).trans (congrArg (x_iinc 3 1) xe_nil))
theorem bk_X9_openBetween_5 : ck_ fX9 (some .int) cX9_openBetween 5 [.iload 4, .aload 0, .tableswitch 0 9 9 #[], .if_icmp .ge 82, .aload 0, .tableswitch 0 9 0 #[], .tableswitch 0 6 3 #[], .aload 0, .tableswitch 0 9 8 #[], .iload 4, .iaload, .aaload, .astore 5, .aload 5, .tableswitch 0 2 3 #[], .iload 1, .if_icmp .ne 52, .iload 2, .aload 5, .tableswitch 0 2 4 #[], .ishr, .iconst 1, .iand, .ifCond .ne 73, .aload 5, .tableswitch 0 2 4 #[], .iload 1, .if_icmp .ne 76, .iload 2, .aload 5, .tableswitch 0 2 3 #[], .ishr, .iconst 1, .iand, .ifCond .eq 76] 73 = true := qck_r (nn_ _) (by decide +kernel)
theorem bs_X9_openBetween_5 {P : Zt → Option Zv → Prop} (K : Int → Zl → List Zv → Zt → Prop) : sx_ K P [.iload 4, .aload 0, .tableswitch 0 9 9 #[], .if_icmp .ge 82, .aload 0, .tableswitch 0 9 0 #[], .tableswitch 0 6 3 #[], .aload 0, .tableswitch 0 9 8 #[], .iload 4, .iaload, .aaload, .astore 5, .aload 5, .tableswitch 0 2 3 #[], .iload 1, .if_icmp .ne 52, .iload 2, .aload 5, .tableswitch 0 2 4 #[], .ishr, .iconst 1, .iand, .ifCond .ne 73, .aload 5, .tableswitch 0 2 4 #[], .iload 1, .if_icmp .ne 76, .iload 2, .aload 5, .tableswitch 0 2 3 #[], .ishr, .iconst 1, .iand, .ifCond .eq 76] 73 = x_iload 4 (x_aload 0 (x_g0 109 9 0 40 (x_if_icmp .ge 82 K (x_aload 0 (x_g1 109 106 (x_g1 106 523 (x_aload 0 (x_g1 109 588 (x_iload 4 (x_iaload (x_aaload (x_astore 5 (x_aload 5 (x_g0 102 3 0 11 (x_iload 1 (x_if_icmp .ne 52 K (x_iload 2 (x_aload 5 (x_g0 102 4 0 11 (x_ishr (x_iconst 1 (x_iand (x_ifCond .ne 73 K (x_aload 5 (x_g0 102 4 0 11 (x_iload 1 (x_if_icmp .ne 76 K (x_iload 2 (x_aload 5 (x_g0 102 3 0 11 (x_ishr (x_iconst 1 (x_iand (x_ifCond .eq 76 K (K 73))))))))))))))))))))))))))))))))))) := ((xe_iload 4).trans (congrArg (x_iload 4) ((xe_aload 0).trans (congrArg (x_aload 0) ((xe_g0 (kk := 109) rfl tl_9_9).trans (congrArg (x_g0 109 9 0 40) ((xe_if_icmp .ge 82).trans (congrArg (x_if_icmp .ge 82 K) ((xe_aload 0).trans (congrArg (x_aload 0) ((xe_g1 (kk := 109) rfl tl_9_0).trans (congrArg (x_g1 109 106) ((xe_g1 (kk := 106) rfl tl_6_3).trans (congrArg (x_g1 106 523) ((xe_aload 0).trans (congrArg (x_aload 0) ((xe_g1 (kk := 109) rfl tl_9_8).trans (congrArg (x_g1 109 588) ((xe_iload 4).trans (congrArg (x_iload 4) ((xe_iaload).trans (congrArg (x_iaload) ((xe_aaload).trans (congrArg (x_aaload) ((xe_astore 5).trans (congrArg (x_astore 5) ((xe_aload 5).trans (congrArg (x_aload 5) ((xe_g0 (kk := 102) rfl tl_2_3).trans (congrArg (x_g0 102 3 0 11) ((xe_iload 1).trans (congrArg (x_iload 1) ((xe_if_icmp .ne 52).trans (congrArg (x_if_icmp .ne 52 K) ((xe_iload 2).trans (congrArg (x_iload 2) ((xe_aload 5).trans (congrArg (x_aload 5) ((xe_g0 (kk := 102) rfl tl_2_4).trans (congrArg (x_g0 102 4 0 11) ((xe_ishr).trans (congrArg (x_ishr) ((xe_iconst 1).trans (congrArg (x_iconst 1) ((xe_iand).trans (congrArg (x_iand) ((xe_ifCond .ne 73).trans (congrArg (x_ifCond .ne 73 K) ((xe_aload 5).trans (congrArg (x_aload 5) ((xe_g0 (kk := 102) rfl tl_2_4).trans (congrArg (x_g0 102 4 0 11) ((xe_iload 1).trans (congrArg (x_iload 1) ((xe_if_icmp .ne 76).trans (congrArg (x_if_icmp .ne 76 K) ((xe_iload 2).trans (congrArg (x_iload 2) ((xe_aload 5).trans (congrArg (x_aload 5) ((xe_g0 (kk := 102) rfl tl_2_3).trans (congrArg (x_g0 102 3 0 11) ((xe_ishr).trans (congrArg (x_ishr) ((xe_iconst 1).trans (congrArg (x_iconst 1) ((xe_iand).trans (congrArg (x_iand) ((xe_ifCond .eq 76).trans (congrArg (x_ifCond .eq 76 K) xe_nil))))))))))))))))))))))))))))))))))))))))))))))))))))))))))))))))))))))
theorem bk_X9_openBetween_82 : ck_ fX9 (some .int) cX9_openBetween 82 [.iload 3, .ireturn] 84 = true := qck_r (nn_ _) (by decide +kernel)
theorem bs_X9_openBetween_82 {P : Zt → Option Zv → Prop} (K : Int → Zl → List Zv → Zt → Prop) : sx_ K P [.iload 3, .ireturn] 84 = x_iload 3 (x_ireturn P) := ((xe_iload 3).trans (congrArg (x_iload 3) (xe_ireturn)))
theorem bk_X9_openBetween_52 : ck_ fX9 (some .int) cX9_openBetween 52 [.aload 5, .tableswitch 0 2 4 #[], .iload 1, .if_icmp .ne 76, .iload 2, .aload 5, .tableswitch 0 2 3 #[], .ishr, .iconst 1, .iand, .ifCond .eq 76] 73 = true := qck_r (nn_ _) (by decide +kernel)
theorem bs_X9_openBetween_52 {P : Zt → Option Zv → Prop} (K : Int → Zl → List Zv → Zt → Prop) : sx_ K P [.aload 5, .tableswitch 0 2 4 #[], .iload 1, .if_icmp .ne 76, .iload 2, .aload 5, .tableswitch 0 2 3 #[], .ishr, .iconst 1, .iand, .ifCond .eq 76] 73 = x_aload 5 (x_g0 102 4 0 11 (x_iload 1 (x_if_icmp .ne 76 K (x_iload 2 (x_aload 5 (x_g0 102 3 0 11 (x_ishr (x_iconst 1 (x_iand (x_ifCond .eq 76 K (K 73))))))))))) := ((xe_aload 5).trans (congrArg (x_aload 5) ((xe_g0 (kk := 102) rfl tl_2_4).trans (congrArg (x_g0 102 4 0 11) ((xe_iload 1).trans (congrArg (x_iload 1) ((xe_if_icmp .ne 76).trans (congrArg (x_if_icmp .ne 76 K) ((xe_iload 2).trans (congrArg (x_iload 2) ((xe_aload 5).trans (congrArg (x_aload 5) ((xe_g0 (kk := 102) rfl tl_2_3).trans (congrArg (x_g0 102 3 0 11) ((xe_ishr).trans (congrArg (x_ishr) ((xe_iconst 1).trans (congrArg (x_iconst 1) ((xe_iand).trans (congrArg (x_iand) ((xe_ifCond .eq 76).trans (congrArg (x_ifCond .eq 76 K) xe_nil))))))))))))))))))))))
theorem bk_X9_openBetween_0 : ck_ fX9 (some .int) cX9_openBetween 0 [.iconst 0, .istore 3, .iconst 0, .istore 4] 5 = true := qck_r (nn_ _) (by decide +kernel)
theorem bs_X9_openBetween_0 {P : Zt → Option Zv → Prop} (K : Int → Zl → List Zv → Zt → Prop) : sx_ K P [.iconst 0, .istore 3, .iconst 0, .istore 4] 5 = x_iconst 0 (x_istore 3 (x_iconst 0 (x_istore 4 (K 5)))) := ((xe_iconst 0).trans (congrArg (x_iconst 0) ((xe_istore 3).trans (congrArg (x_istore 3) ((xe_iconst 0).trans (congrArg (x_iconst 0) ((xe_istore 4).trans (congrArg (x_istore 4) xe_nil))))))))
abbrev po_X9_openBetween (T : Zt) (c g : Int) : Zt → Option Zv → Prop := fun T' r => T = T' ∧ ∃ x : Int, r = some (vI x) ∧ (0 ≤ x ∧ x ≤ 40)
set_option maxHeartbeats 4000000 in
theorem ct_X9_openBetween {T : Zt} {c g : Int} (hq9 : Q9_ T) (hka : KA_ T) : Ct_ yX9_openBetween zX9_openBetween T [vR 109 0, vI c, vI g] (po_X9_openBetween T c g) := by
  refine ct_of pn_9 rfl rfl (Nat.le_of_ble_eq_true rfl) (fun hT hav => ?_)
  have hr_c : -2147483648 ≤ c ∧ c ≤ 2147483647 := hav (vI c) (List.mem_cons_of_mem _ List.mem_cons_self)
  have hr_g : -2147483648 ≤ g ∧ g ≤ 2147483647 := hav (vI g) (List.mem_cons_of_mem _ (List.mem_cons_of_mem _ List.mem_cons_self))
  have hz : zX9_openBetween.2.2.2.1 = some .boolean → ∀ (T' : Zt) (x : Int), po_X9_openBetween T c g T' (some (vI x)) → 0 ≤ x ∧ x ≤ 1 := fun h => by cases h
  have hct := hq9.1
  have hbo : 0 ≤ T 109 0 9 ∧ T 109 0 9 ≤ 40 := bd_f hT 109 9 tl_9_9 0
  show J_ zX9_openBetween T (po_X9_openBetween T c g) 0 0 0 [some (vR 109 0), some (vI c), some (vI g), none, none, none] [] T
  have c_5 : ∀ (nn : Nat) (u : Int) (i : Int), ((40 - i).toNat) ≤ nn → (0 ≤ i ∧ i ≤ 40 ∧ 0 ≤ u ∧ u ≤ i) → J_ zX9_openBetween T (po_X9_openBetween T c g) 0 0 5 [some (vR 109 0), some (vI c), some (vI g), some (vI u), some (vI i), none] [] T := by
    intro nn
    induction nn using Nat.strongRecOn with
    | _ nn ih_5 =>
      intro u i hm_5 i1
      replace hm_5 := fun (_ : Unit) => hm_5
      have c_76 : ∀ (w : Int), (i < 40 ∧ 0 ≤ w ∧ w ≤ i + 1) → J_ zX9_openBetween T (po_X9_openBetween T c g) 0 0 76 [some (vR 109 0), some (vI c), some (vI g), some (vI w), some (vI i), none] [] T := by
        intro w i3
        refine j_blx (F := fX9) tb_X9 (nn_ _) bk_X9_openBetween_76 bs_X9_openBetween_76 hz (fun K hK => ?_)
        refine rg_i (by omega) ?_
        refine hK 5 [some (vR 109 0), some (vI c), some (vI g), some (vI w), some (vI (i + 1)), none] [] T ?_
        refine ih_5 _ ?_ w (i + 1) (Nat.le_refl _) ?_
        · have hm_5 := hm_5 (); omega
        · omega
      have c_73 : (i < 40) → J_ zX9_openBetween T (po_X9_openBetween T c g) 0 0 73 [some (vR 109 0), some (vI c), some (vI g), some (vI u), some (vI i), none] [] T := by
        intro  i2
        refine j_blx (F := fX9) tb_X9 (nn_ _) bk_X9_openBetween_73 bs_X9_openBetween_73 hz (fun K hK => ?_)
        refine rg_i (by omega) ?_
        refine hK 76 [some (vR 109 0), some (vI c), some (vI g), some (vI (u + 1)), some (vI i), none] [] T ?_
        refine c_76 (u + 1) ?_
        · omega
      refine j_blx (F := fX9) tb_X9 (nn_ _) bk_X9_openBetween_5 bs_X9_openBetween_5 hz (fun K hK => ?_)
      intro b1 b1b
      refine And.intro (fun c2 => ?_) (fun c2 => ?_)
      · refine hK 82 _ [] T ?_
        refine j_blx (F := fX9) tb_X9 (nn_ _) bk_X9_openBetween_82 bs_X9_openBetween_82 hz (fun K hK => ?_)
        refine (show po_X9_openBetween T c g T (some (vI u)) from ?_)
        exact ⟨rfl, _, rfl, by omega⟩
      · refine ix_i (by omega) ?_
        intro b3 b3b
        refine ix_i (by omega) ?_
        refine And.intro (fun c4 => ?_) (fun c4 => ?_)
        · exact absurd c4 (hka.2 _ (by have := hq9.2 i (by omega) (by omega); omega) (by have := hq9.2 i (by omega) (by omega); omega))
        · intro b5 b5b
          refine And.intro (fun c6 => ?_) (fun c6 => ?_)
          · refine hK 52 [some (vR 109 0), some (vI c), some (vI g), some (vI u), some (vI i), some (vR 102 (T 588 0 i))] [] T ?_
            refine j_blx (F := fX9) tb_X9 (nn_ _) bk_X9_openBetween_52 bs_X9_openBetween_52 hz (fun K hK => ?_)
            intro b7 b7b
            refine And.intro (fun c8 => ?_) (fun c8 => ?_)
            · refine hK 76 _ [] T ?_
              refine j_drop [some (vR 109 0), some (vI c), some (vI g), some (vI u), some (vI i), none] (fun k v hk => ?_) rfl ?_
              · match k, hk with
                | 0, hk => exact hk
                | 1, hk => exact hk
                | 2, hk => exact hk
                | 3, hk => exact hk
                | 4, hk => exact hk
                | 5, hk => cases hk
                | k + 6, hk => cases hk
              refine c_76 u ?_
              · omega
            · intro b9 b9b
              intro w10 w10b
              intro w11 w11b
              refine And.intro (fun c12 => ?_) (fun c12 => ?_)
              · refine hK 76 [some (vR 109 0), some (vI c), some (vI g), some (vI u), some (vI i), some (vR 102 (T 588 0 i))] [] T ?_
                refine j_drop [some (vR 109 0), some (vI c), some (vI g), some (vI u), some (vI i), none] (fun k v hk => ?_) rfl ?_
                · match k, hk with
                  | 0, hk => exact hk
                  | 1, hk => exact hk
                  | 2, hk => exact hk
                  | 3, hk => exact hk
                  | 4, hk => exact hk
                  | 5, hk => cases hk
                  | k + 6, hk => cases hk
                refine c_76 u ?_
                · omega
              · refine hK 73 [some (vR 109 0), some (vI c), some (vI g), some (vI u), some (vI i), some (vR 102 (T 588 0 i))] [] T ?_
                refine j_drop [some (vR 109 0), some (vI c), some (vI g), some (vI u), some (vI i), none] (fun k v hk => ?_) rfl ?_
                · match k, hk with
                  | 0, hk => exact hk
                  | 1, hk => exact hk
                  | 2, hk => exact hk
                  | 3, hk => exact hk
                  | 4, hk => exact hk
                  | 5, hk => cases hk
                  | k + 6, hk => cases hk
                refine c_73  ?_
                · omega
          · intro b13 b13b
            intro w14 w14b
            intro w15 w15b
            refine And.intro (fun c16 => ?_) (fun c16 => ?_)
            · refine hK 73 _ [] T ?_
              refine j_drop [some (vR 109 0), some (vI c), some (vI g), some (vI u), some (vI i), none] (fun k v hk => ?_) rfl ?_
              · match k, hk with
                | 0, hk => exact hk
                | 1, hk => exact hk
                | 2, hk => exact hk
                | 3, hk => exact hk
                | 4, hk => exact hk
                | 5, hk => cases hk
                | k + 6, hk => cases hk
              refine c_73  ?_
              · omega
            · intro b17 b17b
              refine And.intro (fun c18 => ?_) (fun c18 => ?_)
              · refine hK 76 [some (vR 109 0), some (vI c), some (vI g), some (vI u), some (vI i), some (vR 102 (T 588 0 i))] [] T ?_
                refine j_drop [some (vR 109 0), some (vI c), some (vI g), some (vI u), some (vI i), none] (fun k v hk => ?_) rfl ?_
                · match k, hk with
                  | 0, hk => exact hk
                  | 1, hk => exact hk
                  | 2, hk => exact hk
                  | 3, hk => exact hk
                  | 4, hk => exact hk
                  | 5, hk => cases hk
                  | k + 6, hk => cases hk
                refine c_76 u ?_
                · omega
              · intro b19 b19b
                intro w20 w20b
                intro w21 w21b
                refine And.intro (fun c22 => ?_) (fun c22 => ?_)
                · refine hK 76 [some (vR 109 0), some (vI c), some (vI g), some (vI u), some (vI i), some (vR 102 (T 588 0 i))] [] T ?_
                  refine j_drop [some (vR 109 0), some (vI c), some (vI g), some (vI u), some (vI i), none] (fun k v hk => ?_) rfl ?_
                  · match k, hk with
                    | 0, hk => exact hk
                    | 1, hk => exact hk
                    | 2, hk => exact hk
                    | 3, hk => exact hk
                    | 4, hk => exact hk
                    | 5, hk => cases hk
                    | k + 6, hk => cases hk
                  refine c_76 u ?_
                  · omega
                · refine hK 73 [some (vR 109 0), some (vI c), some (vI g), some (vI u), some (vI i), some (vR 102 (T 588 0 i))] [] T ?_
                  refine j_drop [some (vR 109 0), some (vI c), some (vI g), some (vI u), some (vI i), none] (fun k v hk => ?_) rfl ?_
                  · match k, hk with
                    | 0, hk => exact hk
                    | 1, hk => exact hk
                    | 2, hk => exact hk
                    | 3, hk => exact hk
                    | 4, hk => exact hk
                    | 5, hk => cases hk
                    | k + 6, hk => cases hk
                  refine c_73  ?_
                  · omega
  refine j_blx (F := fX9) tb_X9 (nn_ _) bk_X9_openBetween_0 bs_X9_openBetween_0 hz (fun K hK => ?_)
  refine hK 5 [some (vR 109 0), some (vI c), some (vI g), some (vI 0), some (vI 0), none] [] T ?_
  refine c_5 _ 0 0 (Nat.le_refl _) ?_
  · omega
abbrev cX9_noneAbove : ByteArray := prog_11_method_5_code
def yX9_noneAbove : MethodName := ⟨RX9, "noneAbove", "(I)Z"⟩
def zX9_noneAbove : Zm := (RX9, cX9_noneAbove, 3, (some .boolean), { frames := 0, cells := 0, slots := 0, locals := 0 })
theorem bk_X9_noneAbove_2 : ck_ fX9 (some .boolean) cX9_noneAbove 2 [.iload 2, .aload 0, .tableswitch 0 9 5 #[], .tableswitch 0 0 5 #[], .if_icmp .ge 39, .iload 2, .iload 1, .if_icmp .eq 33, .aload 0, .tableswitch 0 9 7 #[], .iload 2, .iaload, .aload 0, .tableswitch 0 9 6 #[], .if_icmp .le 33, .iconst 0, .ireturn] 33 = true := qck_r (nn_ _) (by decide +kernel)
theorem bs_X9_noneAbove_2 {P : Zt → Option Zv → Prop} (K : Int → Zl → List Zv → Zt → Prop) : sx_ K P [.iload 2, .aload 0, .tableswitch 0 9 5 #[], .tableswitch 0 0 5 #[], .if_icmp .ge 39, .iload 2, .iload 1, .if_icmp .eq 33, .aload 0, .tableswitch 0 9 7 #[], .iload 2, .iaload, .aload 0, .tableswitch 0 9 6 #[], .if_icmp .le 33, .iconst 0, .ireturn] 33 = x_iload 2 (x_aload 0 (x_g5 109 100 5 (x_g0 100 5 0 12 (x_if_icmp .ge 39 K (x_iload 2 (x_iload 1 (x_if_icmp .eq 33 K (x_aload 0 (x_g1 109 587 (x_iload 2 (x_iaload (x_aload 0 (x_g0 109 6 (-2147483648) 2147483647 (x_if_icmp .le 33 K (x_iconst 0 (x_ireturn P)))))))))))))))) := ((xe_iload 2).trans (congrArg (x_iload 2) ((xe_aload 0).trans (congrArg (x_aload 0) ((xe_g5 (kk := 109) rfl tl_9_5).trans (congrArg (x_g5 109 100 5) ((xe_g0 (kk := 100) rfl tl_0_5).trans (congrArg (x_g0 100 5 0 12) ((xe_if_icmp .ge 39).trans (congrArg (x_if_icmp .ge 39 K) ((xe_iload 2).trans (congrArg (x_iload 2) ((xe_iload 1).trans (congrArg (x_iload 1) ((xe_if_icmp .eq 33).trans (congrArg (x_if_icmp .eq 33 K) ((xe_aload 0).trans (congrArg (x_aload 0) ((xe_g1 (kk := 109) rfl tl_9_7).trans (congrArg (x_g1 109 587) ((xe_iload 2).trans (congrArg (x_iload 2) ((xe_iaload).trans (congrArg (x_iaload) ((xe_aload 0).trans (congrArg (x_aload 0) ((xe_g0 (kk := 109) rfl tl_9_6).trans (congrArg (x_g0 109 6 (-2147483648) 2147483647) ((xe_if_icmp .le 33).trans (congrArg (x_if_icmp .le 33 K) ((xe_iconst 0).trans (congrArg (x_iconst 0) (xe_ireturn)))))))))))))))))))))))))))))))))
theorem bk_X9_noneAbove_39 : ck_ fX9 (some .boolean) cX9_noneAbove 39 [.iconst 1, .ireturn] 41 = true := qck_r (nn_ _) (by decide +kernel)
theorem bs_X9_noneAbove_39 {P : Zt → Option Zv → Prop} (K : Int → Zl → List Zv → Zt → Prop) : sx_ K P [.iconst 1, .ireturn] 41 = x_iconst 1 (x_ireturn P) := ((xe_iconst 1).trans (congrArg (x_iconst 1) (xe_ireturn)))
theorem bk_X9_noneAbove_33 : ck_ fX9 (some .boolean) cX9_noneAbove 33 [.iinc 2 1, .goto 2] 39 = true := qck_r (nn_ _) (by decide +kernel)
theorem bs_X9_noneAbove_33 {P : Zt → Option Zv → Prop} (K : Int → Zl → List Zv → Zt → Prop) : sx_ K P [.iinc 2 1, .goto 2] 39 = x_iinc 2 1 (x_goto 2 K) := ((xe_iinc 2 1).trans (congrArg (x_iinc 2 1) (xe_goto 2)))
theorem bk_X9_noneAbove_0 : ck_ fX9 (some .boolean) cX9_noneAbove 0 [.iconst 0, .istore 2] 2 = true := qck_r (nn_ _) (by decide +kernel)
theorem bs_X9_noneAbove_0 {P : Zt → Option Zv → Prop} (K : Int → Zl → List Zv → Zt → Prop) : sx_ K P [.iconst 0, .istore 2] 2 = x_iconst 0 (x_istore 2 (K 2)) := ((xe_iconst 0).trans (congrArg (x_iconst 0) ((xe_istore 2).trans (congrArg (x_istore 2) xe_nil))))
abbrev po_X9_noneAbove (T : Zt) (s : Int) : Zt → Option Zv → Prop := fun T' r => T = T' ∧ ∃ x : Int, r = some (vI x) ∧ (0 ≤ x ∧ x ≤ 1)
set_option maxHeartbeats 4000000 in
theorem ct_X9_noneAbove {T : Zt} {s : Int} (hct : T 109 0 5 ≠ 0) : Ct_ yX9_noneAbove zX9_noneAbove T [vR 109 0, vI s] (po_X9_noneAbove T s) := by
  refine ct_of pn_9 rfl rfl (Nat.le_of_ble_eq_true rfl) (fun hT hav => ?_)
  have hr_s : -2147483648 ≤ s ∧ s ≤ 2147483647 := hav (vI s) (List.mem_cons_of_mem _ List.mem_cons_self)
  have hz : zX9_noneAbove.2.2.2.1 = some .boolean → ∀ (T' : Zt) (x : Int), po_X9_noneAbove T s T' (some (vI x)) → 0 ≤ x ∧ x ≤ 1 := fun _ T' x h => by obtain ⟨-, y, e, hy⟩ := h; cases e; omega
  show J_ zX9_noneAbove T (po_X9_noneAbove T s) 0 0 0 [some (vR 109 0), some (vI s), none] [] T
  have c_2 : ∀ (nn : Nat) (i : Int), ((12 - i).toNat) ≤ nn → (0 ≤ i) → J_ zX9_noneAbove T (po_X9_noneAbove T s) 0 0 2 [some (vR 109 0), some (vI s), some (vI i)] [] T := by
    intro nn
    induction nn using Nat.strongRecOn with
    | _ nn ih_2 =>
      intro i hm_2 i1
      replace hm_2 := fun (_ : Unit) => hm_2
      refine j_blx (F := fX9) tb_X9 (nn_ _) bk_X9_noneAbove_2 bs_X9_noneAbove_2 hz (fun K hK => ?_)
      refine And.intro (fun c1 => ?_) (fun c1 => ?_)
      · exact absurd c1 (by omega)
      · intro b2 b2b
        refine And.intro (fun c3 => ?_) (fun c3 => ?_)
        · refine hK 39 _ [] T ?_
          refine j_blx (F := fX9) tb_X9 (nn_ _) bk_X9_noneAbove_39 bs_X9_noneAbove_39 hz (fun K hK => ?_)
          refine (show po_X9_noneAbove T s T (some (vI 1)) from ?_)
          exact ⟨rfl, _, rfl, by omega⟩
        · refine And.intro (fun c4 => ?_) (fun c4 => ?_)
          · refine hK 33 _ [] T ?_
            refine j_blx (F := fX9) tb_X9 (nn_ _) bk_X9_noneAbove_33 bs_X9_noneAbove_33 hz (fun K hK => ?_)
            refine rg_i (by omega) ?_
            refine hK 2 [some (vR 109 0), some (vI s), some (vI (i + 1))] [] T ?_
            refine ih_2 _ ?_ (i + 1) (Nat.le_refl _) ?_
            · have hm_2 := hm_2 (); omega
            · omega
          · refine ix_i (by omega) ?_
            intro b5 b5b
            intro b6 b6b
            refine And.intro (fun c7 => ?_) (fun c7 => ?_)
            · refine hK 33 [some (vR 109 0), some (vI s), some (vI i)] [] T ?_
              refine j_blx (F := fX9) tb_X9 (nn_ _) bk_X9_noneAbove_33 bs_X9_noneAbove_33 hz (fun K hK => ?_)
              refine rg_i (by omega) ?_
              refine hK 2 [some (vR 109 0), some (vI s), some (vI (i + 1))] [] T ?_
              refine ih_2 _ ?_ (i + 1) (Nat.le_refl _) ?_
              · have hm_2 := hm_2 (); omega
              · omega
            · refine (show po_X9_noneAbove T s T (some (vI 0)) from ?_)
              exact ⟨rfl, _, rfl, by omega⟩
  refine j_blx (F := fX9) tb_X9 (nn_ _) bk_X9_noneAbove_0 bs_X9_noneAbove_0 hz (fun K hK => ?_)
  refine hK 2 [some (vR 109 0), some (vI s), some (vI 0)] [] T ?_
  refine c_2 _ 0 (Nat.le_refl _) ?_
  · omega
abbrev cX9_shiftAlong : ByteArray := prog_11_method_14_code
def yX9_shiftAlong : MethodName := ⟨RX9, "shiftAlong", "(II)V"⟩
def zX9_shiftAlong : Zm := (RX9, cX9_shiftAlong, 6, none, { frames := 1, cells := 0, slots := 0, locals := 21 })
theorem bk_X9_shiftAlong_25 : ck_ fX9 none cX9_shiftAlong 25 [.iload 3, .iload 1, .if_icmp .eq 100, .iload 4, .iconst 12, .if_icmp .ge 100, .aload 0, .tableswitch 0 9 13 #[], .iload 3, .iaload, .istore 5, .aload 0, .iload 5] 48 = true := qck_r (nn_ _) (by decide +kernel)
theorem bs_X9_shiftAlong_25 {P : Zt → Option Zv → Prop} (K : Int → Zl → List Zv → Zt → Prop) : sx_ K P [.iload 3, .iload 1, .if_icmp .eq 100, .iload 4, .iconst 12, .if_icmp .ge 100, .aload 0, .tableswitch 0 9 13 #[], .iload 3, .iaload, .istore 5, .aload 0, .iload 5] 48 = x_iload 3 (x_iload 1 (x_if_icmp .eq 100 K (x_iload 4 (x_iconst 12 (x_if_icmp .ge 100 K (x_aload 0 (x_g1 109 593 (x_iload 3 (x_iaload (x_istore 5 (x_aload 0 (x_iload 5 (K 48))))))))))))) := ((xe_iload 3).trans (congrArg (x_iload 3) ((xe_iload 1).trans (congrArg (x_iload 1) ((xe_if_icmp .eq 100).trans (congrArg (x_if_icmp .eq 100 K) ((xe_iload 4).trans (congrArg (x_iload 4) ((xe_iconst 12).trans (congrArg (x_iconst 12) ((xe_if_icmp .ge 100).trans (congrArg (x_if_icmp .ge 100 K) ((xe_aload 0).trans (congrArg (x_aload 0) ((xe_g1 (kk := 109) rfl tl_9_13).trans (congrArg (x_g1 109 593) ((xe_iload 3).trans (congrArg (x_iload 3) ((xe_iaload).trans (congrArg (x_iaload) ((xe_istore 5).trans (congrArg (x_istore 5) ((xe_aload 0).trans (congrArg (x_aload 0) ((xe_iload 5).trans (congrArg (x_iload 5) xe_nil))))))))))))))))))))))))))
theorem bk_X9_shiftAlong_100 : ck_ fX9 none cX9_shiftAlong 100 [.return_] 101 = true := qck_r (nn_ _) (by decide +kernel)
theorem bs_X9_shiftAlong_100 {P : Zt → Option Zv → Prop} (K : Int → Zl → List Zv → Zt → Prop) : sx_ K P [.return_] 101 = x_return_ P := (xe_return_)
theorem bk_X9_shiftAlong_51 : ck_ fX9 none cX9_shiftAlong 51 [.iload 3, .if_icmp .ne 76, .aload 0, .tableswitch 0 9 10 #[], .iload 5, .dup2, .iaload, .iconst 1, .fadd, .iastore, .aload 0, .iload 5] 69 = true := qck_r (nn_ _) (by decide +kernel)
theorem bs_X9_shiftAlong_51 {P : Zt → Option Zv → Prop} (K : Int → Zl → List Zv → Zt → Prop) : sx_ K P [.iload 3, .if_icmp .ne 76, .aload 0, .tableswitch 0 9 10 #[], .iload 5, .dup2, .iaload, .iconst 1, .fadd, .iastore, .aload 0, .iload 5] 69 = x_iload 3 (x_if_icmp .ne 76 K (x_aload 0 (x_g1 109 590 (x_iload 5 (x_dup2 (x_iaload (x_iconst 1 (x_fadd (x_iastore (x_aload 0 (x_iload 5 (K 69)))))))))))) := ((xe_iload 3).trans (congrArg (x_iload 3) ((xe_if_icmp .ne 76).trans (congrArg (x_if_icmp .ne 76 K) ((xe_aload 0).trans (congrArg (x_aload 0) ((xe_g1 (kk := 109) rfl tl_9_10).trans (congrArg (x_g1 109 590) ((xe_iload 5).trans (congrArg (x_iload 5) ((xe_dup2).trans (congrArg (x_dup2) ((xe_iaload).trans (congrArg (x_iaload) ((xe_iconst 1).trans (congrArg (x_iconst 1) ((xe_fadd).trans (congrArg (x_fadd) ((xe_iastore).trans (congrArg (x_iastore) ((xe_aload 0).trans (congrArg (x_aload 0) ((xe_iload 5).trans (congrArg (x_iload 5) xe_nil))))))))))))))))))))))))
theorem bk_X9_shiftAlong_76 : ck_ fX9 none cX9_shiftAlong 76 [.aload 0, .tableswitch 0 9 10 #[], .iload 5, .dup2, .iaload, .iconst 1, .fsub, .iastore, .aload 0, .iload 5] 90 = true := qck_r (nn_ _) (by decide +kernel)
theorem bs_X9_shiftAlong_76 {P : Zt → Option Zv → Prop} (K : Int → Zl → List Zv → Zt → Prop) : sx_ K P [.aload 0, .tableswitch 0 9 10 #[], .iload 5, .dup2, .iaload, .iconst 1, .fsub, .iastore, .aload 0, .iload 5] 90 = x_aload 0 (x_g1 109 590 (x_iload 5 (x_dup2 (x_iaload (x_iconst 1 (x_fsub (x_iastore (x_aload 0 (x_iload 5 (K 90)))))))))) := ((xe_aload 0).trans (congrArg (x_aload 0) ((xe_g1 (kk := 109) rfl tl_9_10).trans (congrArg (x_g1 109 590) ((xe_iload 5).trans (congrArg (x_iload 5) ((xe_dup2).trans (congrArg (x_dup2) ((xe_iaload).trans (congrArg (x_iaload) ((xe_iconst 1).trans (congrArg (x_iconst 1) ((xe_fsub).trans (congrArg (x_fsub) ((xe_iastore).trans (congrArg (x_iastore) ((xe_aload 0).trans (congrArg (x_aload 0) ((xe_iload 5).trans (congrArg (x_iload 5) xe_nil))))))))))))))))))))
theorem bk_X9_shiftAlong_93 : ck_ fX9 none cX9_shiftAlong 93 [.istore 3, .iinc 4 1, .goto 25] 100 = true := qck_r (nn_ _) (by decide +kernel)
theorem bs_X9_shiftAlong_93 {P : Zt → Option Zv → Prop} (K : Int → Zl → List Zv → Zt → Prop) : sx_ K P [.istore 3, .iinc 4 1, .goto 25] 100 = x_istore 3 (x_iinc 4 1 (x_goto 25 K)) := ((xe_istore 3).trans (congrArg (x_istore 3) ((xe_iinc 4 1).trans (congrArg (x_iinc 4 1) (xe_goto 25)))))
theorem bk_X9_shiftAlong_72 : ck_ fX9 none cX9_shiftAlong 72 [.istore 3, .goto 94] 76 = true := qck_r (nn_ _) (by decide +kernel)
theorem bs_X9_shiftAlong_72 {P : Zt → Option Zv → Prop} (K : Int → Zl → List Zv → Zt → Prop) : sx_ K P [.istore 3, .goto 94] 76 = x_istore 3 (x_goto 94 K) := ((xe_istore 3).trans (congrArg (x_istore 3) (xe_goto 94)))
theorem bk_X9_shiftAlong_94 : ck_ fX9 none cX9_shiftAlong 94 [.iinc 4 1, .goto 25] 100 = true := qck_r (nn_ _) (by decide +kernel)
theorem bs_X9_shiftAlong_94 {P : Zt → Option Zv → Prop} (K : Int → Zl → List Zv → Zt → Prop) : sx_ K P [.iinc 4 1, .goto 25] 100 = x_iinc 4 1 (x_goto 25 K) := ((xe_iinc 4 1).trans (congrArg (x_iinc 4 1) (xe_goto 25)))
theorem bk_X9_shiftAlong_0 : ck_ fX9 none cX9_shiftAlong 0 [.aload 0, .tableswitch 0 9 12 #[], .iload 1, .dup2, .iaload, .iconst 1, .fsub, .iastore, .aload 0, .tableswitch 0 9 12 #[], .iload 2, .dup2, .iaload, .iconst 1, .fadd, .iastore, .iload 2, .istore 3, .iconst 0, .istore 4] 25 = true := qck_r (nn_ _) (by decide +kernel)
theorem bs_X9_shiftAlong_0 {P : Zt → Option Zv → Prop} (K : Int → Zl → List Zv → Zt → Prop) : sx_ K P [.aload 0, .tableswitch 0 9 12 #[], .iload 1, .dup2, .iaload, .iconst 1, .fsub, .iastore, .aload 0, .tableswitch 0 9 12 #[], .iload 2, .dup2, .iaload, .iconst 1, .fadd, .iastore, .iload 2, .istore 3, .iconst 0, .istore 4] 25 = x_aload 0 (x_g1 109 592 (x_iload 1 (x_dup2 (x_iaload (x_iconst 1 (x_fsub (x_iastore (x_aload 0 (x_g1 109 592 (x_iload 2 (x_dup2 (x_iaload (x_iconst 1 (x_fadd (x_iastore (x_iload 2 (x_istore 3 (x_iconst 0 (x_istore 4 (K 25)))))))))))))))))))) := ((xe_aload 0).trans (congrArg (x_aload 0) ((xe_g1 (kk := 109) rfl tl_9_12).trans (congrArg (x_g1 109 592) ((xe_iload 1).trans (congrArg (x_iload 1) ((xe_dup2).trans (congrArg (x_dup2) ((xe_iaload).trans (congrArg (x_iaload) ((xe_iconst 1).trans (congrArg (x_iconst 1) ((xe_fsub).trans (congrArg (x_fsub) ((xe_iastore).trans (congrArg (x_iastore) ((xe_aload 0).trans (congrArg (x_aload 0) ((xe_g1 (kk := 109) rfl tl_9_12).trans (congrArg (x_g1 109 592) ((xe_iload 2).trans (congrArg (x_iload 2) ((xe_dup2).trans (congrArg (x_dup2) ((xe_iaload).trans (congrArg (x_iaload) ((xe_iconst 1).trans (congrArg (x_iconst 1) ((xe_fadd).trans (congrArg (x_fadd) ((xe_iastore).trans (congrArg (x_iastore) ((xe_iload 2).trans (congrArg (x_iload 2) ((xe_istore 3).trans (congrArg (x_istore 3) ((xe_iconst 0).trans (congrArg (x_iconst 0) ((xe_istore 4).trans (congrArg (x_istore 4) xe_nil))))))))))))))))))))))))))))))))))))))))
abbrev po_X9_shiftAlong (T : Zt) (s e : Int) : Zt → Option Zv → Prop := fun T' r => r = none ∧ fr_ [(592, []), (590, [])] T T' ∧ (0 = (0 : Int))
set_option maxHeartbeats 4000000 in
theorem ct_X9_shiftAlong {T : Zt} {s e : Int} (hq9 : Q9_ T) (hka : KA_ T) (hs : 0 ≤ s ∧ s < 12) (he : 0 ≤ e ∧ e < 12 ∧ T 593 0 e ≠ -1) (hvi : ∀ v, 0 ≤ v → v < 12 → T 593 0 v ≠ -1 → v = s ∨ ((0 ≤ T 593 0 v ∧ T 593 0 v < T 109 0 9) ∧ ((hsx_ T (T 593 0 v) = v ∧ T 593 0 (asx_ T (T 593 0 v)) ≠ -1) ∨ (hsx_ T (T 593 0 v) ≠ v ∧ T 593 0 (hsx_ T (T 593 0 v)) ≠ -1)))) : Ct_ yX9_shiftAlong zX9_shiftAlong T [vR 109 0, vI s, vI e] (po_X9_shiftAlong T s e) := by
  refine ct_of pn_9 rfl rfl (Nat.le_of_ble_eq_true rfl) (fun hT hav => ?_)
  have hr_s : -2147483648 ≤ s ∧ s ≤ 2147483647 := hav (vI s) (List.mem_cons_of_mem _ List.mem_cons_self)
  have hr_e : -2147483648 ≤ e ∧ e ≤ 2147483647 := hav (vI e) (List.mem_cons_of_mem _ (List.mem_cons_of_mem _ List.mem_cons_self))
  have hz : zX9_shiftAlong.2.2.2.1 = some .boolean → ∀ (T' : Zt) (x : Int), po_X9_shiftAlong T s e T' (some (vI x)) → 0 ≤ x ∧ x ≤ 1 := fun h => by cases h
  have hbo : 0 ≤ T 109 0 9 ∧ T 109 0 9 ≤ 40 := bd_f hT 109 9 tl_9_9 0
  show J_ zX9_shiftAlong T (po_X9_shiftAlong T s e) 0 0 0 [some (vR 109 0), some (vI s), some (vI e), none, none, none] [] T
  have c_25 : ∀ (nn : Nat) (a : Int) (n : Int) (T1 : Zt), ((12 - n).toNat) ≤ nn → (fr_ [(592, []), (590, [])] T T1) → (0 ≤ n ∧ 0 ≤ a ∧ a < 12 ∧ T 593 0 a ≠ -1) → J_ zX9_shiftAlong T (po_X9_shiftAlong T s e) 0 0 25 [some (vR 109 0), some (vI s), some (vI e), some (vI a), some (vI n), none] [] T1 := by
    intro nn
    induction nn using Nat.strongRecOn with
    | _ nn ih_25 =>
      intro a n T1 hm_25 hf_25 i1
      replace hm_25 := fun (_ : Unit) => hm_25
      refine j_blx (F := fX9) tb_X9 (nn_ _) bk_X9_shiftAlong_25 bs_X9_shiftAlong_25 hz (fun K hK => ?_)
      refine And.intro (fun c1 => ?_) (fun c1 => ?_)
      · refine hK 100 _ [] T1 ?_
        refine j_blx (F := fX9) tb_X9 (nn_ _) bk_X9_shiftAlong_100 bs_X9_shiftAlong_100 hz (fun K hK => ?_)
        refine (show po_X9_shiftAlong T s e T1 (none) from ?_)
        exact ⟨rfl, fr_t (fr_0 _ _) (fr_s hf_25 rfl), by rfl⟩
      · refine And.intro (fun c2 => ?_) (fun c2 => ?_)
        · refine hK 100 _ [] T1 ?_
          refine j_blx (F := fX9) tb_X9 (nn_ _) bk_X9_shiftAlong_100 bs_X9_shiftAlong_100 hz (fun K hK => ?_)
          refine (show po_X9_shiftAlong T s e T1 (none) from ?_)
          exact ⟨rfl, fr_t (fr_0 _ _) (fr_s hf_25 rfl), by rfl⟩
        · refine ix_i (by omega) ?_
          intro b3 b3b
          have e4 : T1 593 0 a = T 593 0 a := hf_25 593 0 a rfl
          rw [e4] at b3 b3b ⊢
          refine hK 48 [some (vR 109 0), some (vI s), some (vI e), some (vI a), some (vI n), some (vI (T 593 0 a))] [vI (T 593 0 a), vR 109 0] T1 ?_
          have hv9 := hvi a (by omega) (by omega) (by omega)
          have hv8 := hv9.resolve_left (by omega)
          have fq5 : fr_ [(592, []), (590, [])] T T1 := fr_t (fr_0 _ _) (fr_s hf_25 rfl)
          have e6 : T1 109 0 9 = T 109 0 9 := hf_25 109 0 9 rfl
          refine j_callV (y := yX9_homeSeatOf) (Yc := zX9_homeSeatOf) (rest := []) [vI (T 593 0 a)] (ct_X9_homeSeatOf (T := T1) (q9_f hq9 fq5 ⟨fun _ _ => rfl, fun _ => rfl, rfl, rfl, rfl, rfl, rfl⟩) (KA__f (ws := [(592, []), (590, [])]) hka (fr_t (fr_0 _ _) (fr_s hf_25 rfl)) ⟨fun _ => rfl, fun _ => rfl, rfl, rfl, trivial⟩) (by omega)) cl_X9_145 (qd_c (by decide +kernel)) (nn_ _) rfl (rf_of rfl) (Nat.le_of_ble_eq_true rfl) (Nat.le_of_ble_eq_true rfl) (Nat.le_of_ble_eq_true rfl) rfl ?_
          rintro _ _ ⟨rfl, x7, rfl, hx7⟩
          have e8 : hsx_ T1 (T 593 0 a) = hsx_ T (T 593 0 a) := hsx_e fq5 ⟨fun _ _ => rfl, fun _ => rfl, rfl, rfl, rfl, rfl, rfl⟩ _
          show J_ zX9_shiftAlong T (po_X9_shiftAlong T s e) 0 0 51 _ [vI x7] T1
          refine j_blx (F := fX9) tb_X9 (nn_ _) bk_X9_shiftAlong_51 bs_X9_shiftAlong_51 hz (fun K hK => ?_)
          refine And.intro (fun c9 => ?_) (fun c9 => ?_)
          · refine hK 76 _ [] T1 ?_
            refine j_blx (F := fX9) tb_X9 (nn_ _) bk_X9_shiftAlong_76 bs_X9_shiftAlong_76 hz (fun K hK => ?_)
            refine ix_i (by omega) ?_
            intro b10 b10b
            intro w11 w11b
            refine iy_i (by omega) (by omega) ?_
            refine x_nm (fun U12 hU12 => ?_)
            have e13 := up_f hU12
            refine hK 90 _ [vI (T 593 0 a), vR 109 0] U12 ?_
            have fq14 : fr_ [(590, []), (592, [])] T U12 := fr_u (fr_t (fr_0 _ _) (fr_s hf_25 rfl)) hU12 rfl
            have e15 : U12 109 0 9 = T 109 0 9 := (up_k hU12 (by exact Nat.ne_of_beq_eq_false rfl) 0 9).trans (hf_25 109 0 9 rfl)
            refine j_callV (y := yX9_homeSeatOf) (Yc := zX9_homeSeatOf) (rest := []) [vI (T 593 0 a)] (ct_X9_homeSeatOf (T := U12) (q9_f hq9 fq14 ⟨fun _ _ => rfl, fun _ => rfl, rfl, rfl, rfl, rfl, rfl⟩) (KA__f (ws := [(590, []), (592, [])]) hka (fr_u (fr_t (fr_0 _ _) (fr_s hf_25 rfl)) hU12 rfl) ⟨fun _ => rfl, fun _ => rfl, rfl, rfl, trivial⟩) (by omega)) cl_X9_145 (qd_c (by decide +kernel)) (nn_ _) rfl (rf_of rfl) (Nat.le_of_ble_eq_true rfl) (Nat.le_of_ble_eq_true rfl) (Nat.le_of_ble_eq_true rfl) rfl ?_
            rintro _ _ ⟨rfl, x16, rfl, hx16⟩
            have e17 : hsx_ U12 (T 593 0 a) = hsx_ T (T 593 0 a) := hsx_e fq14 ⟨fun _ _ => rfl, fun _ => rfl, rfl, rfl, rfl, rfl, rfl⟩ _
            show J_ zX9_shiftAlong T (po_X9_shiftAlong T s e) 0 0 93 _ [vI x16] U12
            refine j_blx (F := fX9) tb_X9 (nn_ _) bk_X9_shiftAlong_93 bs_X9_shiftAlong_93 hz (fun K hK => ?_)
            refine rg_i (by omega) ?_
            refine hK 25 [some (vR 109 0), some (vI s), some (vI e), some (vI x16), some (vI (n + 1)), some (vI (T 593 0 a))] [] U12 ?_
            refine j_drop [some (vR 109 0), some (vI s), some (vI e), some (vI x16), some (vI (n + 1)), none] (fun k v hk => ?_) rfl ?_
            · match k, hk with
              | 0, hk => exact hk
              | 1, hk => exact hk
              | 2, hk => exact hk
              | 3, hk => exact hk
              | 4, hk => exact hk
              | 5, hk => cases hk
              | k + 6, hk => cases hk
            refine ih_25 _ ?_ x16 (n + 1) U12 (Nat.le_refl _) ?_ ?_
            · have hm_25 := hm_25 (); omega
            · exact fr_u (fr_t (fr_0 _ _) (fr_s hf_25 rfl)) hU12 rfl
            · refine ⟨by omega, by omega, by omega, ?_⟩
              rw [show x16 = hsx_ T (T 593 0 a) by omega]
              omega
          · refine ix_i (by omega) ?_
            intro b18 b18b
            intro w19 w19b
            refine iy_i (by omega) (by omega) ?_
            refine x_nm (fun U20 hU20 => ?_)
            have e21 := up_f hU20
            refine hK 69 [some (vR 109 0), some (vI s), some (vI e), some (vI a), some (vI n), some (vI (T 593 0 a))] [vI (T 593 0 a), vR 109 0] U20 ?_
            have fq22 : fr_ [(590, []), (592, [])] T U20 := fr_u (fr_t (fr_0 _ _) (fr_s hf_25 rfl)) hU20 rfl
            have e23 : U20 109 0 9 = T 109 0 9 := (up_k hU20 (by exact Nat.ne_of_beq_eq_false rfl) 0 9).trans (hf_25 109 0 9 rfl)
            refine j_callV (y := yX9_awaySeatOf) (Yc := zX9_awaySeatOf) (rest := []) [vI (T 593 0 a)] (ct_X9_awaySeatOf (T := U20) (q9_f hq9 fq22 ⟨fun _ _ => rfl, fun _ => rfl, rfl, rfl, rfl, rfl, rfl⟩) (KA__f (ws := [(590, []), (592, [])]) hka (fr_u (fr_t (fr_0 _ _) (fr_s hf_25 rfl)) hU20 rfl) ⟨fun _ => rfl, fun _ => rfl, rfl, rfl, trivial⟩) (by omega)) cl_X9_154 (qd_c (by decide +kernel)) (nn_ _) rfl (rf_of rfl) (Nat.le_of_ble_eq_true rfl) (Nat.le_of_ble_eq_true rfl) (Nat.le_of_ble_eq_true rfl) rfl ?_
            rintro _ _ ⟨rfl, x24, rfl, hx24⟩
            have e25 : asx_ U20 (T 593 0 a) = asx_ T (T 593 0 a) := asx_e fq22 ⟨fun _ _ => rfl, fun _ => rfl, rfl, rfl, rfl, rfl, rfl⟩ _
            show J_ zX9_shiftAlong T (po_X9_shiftAlong T s e) 0 0 72 _ [vI x24] U20
            refine j_blx (F := fX9) tb_X9 (nn_ _) bk_X9_shiftAlong_72 bs_X9_shiftAlong_72 hz (fun K hK => ?_)
            refine hK 94 [some (vR 109 0), some (vI s), some (vI e), some (vI x24), some (vI n), some (vI (T 593 0 a))] [] U20 ?_
            refine j_blx (F := fX9) tb_X9 (nn_ _) bk_X9_shiftAlong_94 bs_X9_shiftAlong_94 hz (fun K hK => ?_)
            refine rg_i (by omega) ?_
            refine hK 25 [some (vR 109 0), some (vI s), some (vI e), some (vI x24), some (vI (n + 1)), some (vI (T 593 0 a))] [] U20 ?_
            refine j_drop [some (vR 109 0), some (vI s), some (vI e), some (vI x24), some (vI (n + 1)), none] (fun k v hk => ?_) rfl ?_
            · match k, hk with
              | 0, hk => exact hk
              | 1, hk => exact hk
              | 2, hk => exact hk
              | 3, hk => exact hk
              | 4, hk => exact hk
              | 5, hk => cases hk
              | k + 6, hk => cases hk
            refine ih_25 _ ?_ x24 (n + 1) U20 (Nat.le_refl _) ?_ ?_
            · have hm_25 := hm_25 (); omega
            · exact fr_u (fr_t (fr_0 _ _) (fr_s hf_25 rfl)) hU20 rfl
            · refine ⟨by omega, by omega, by omega, ?_⟩
              rw [show x24 = asx_ T (T 593 0 a) by omega]
              omega
  refine j_blx (F := fX9) tb_X9 (nn_ _) bk_X9_shiftAlong_0 bs_X9_shiftAlong_0 hz (fun K hK => ?_)
  refine ix_i (by omega) ?_
  intro b26 b26b
  intro w27 w27b
  refine iy_i (by omega) (by omega) ?_
  refine x_nm (fun U28 hU28 => ?_)
  have e29 := up_f hU28
  refine ix_i (by omega) ?_
  intro b30 b30b
  intro w31 w31b
  refine iy_i (by omega) (by omega) ?_
  refine x_nm (fun U32 hU32 => ?_)
  have e33 := up_f hU32
  refine hK 25 [some (vR 109 0), some (vI s), some (vI e), some (vI e), some (vI 0), none] [] U32 ?_
  refine c_25 _ e 0 U32 (Nat.le_refl _) ?_ ?_
  · exact fr_u (fr_u (fr_0 _ _) hU28 rfl) hU32 rfl
  · omega
abbrev po_J7_fill_593 (T : Zt) (p : Int) (v : Int) : Zt → Option Zv → Prop := fun T' r => r = none ∧ fr_ [(593, [])] T T' ∧ oi_ T T' p ∧ ∀ j, 0 ≤ j → j < 12 → T' 593 p j = v
set_option maxHeartbeats 4000000 in
theorem ct_J7_fill_593 {T : Zt} {p : Int} {v : Int} (h1 : (-1) ≤ v ∧ v ≤ 40) : Ct_ yJ7_fill_53178 zJ7_fill_53178 T [vR 593 p, vI v] (po_J7_fill_593 T p v) := by
  refine ct_of (by decide) rfl rfl (Nat.le_of_ble_eq_true rfl) (fun hT hav => ?_)
  have hr_v : -2147483648 ≤ v ∧ v ≤ 2147483647 := hav (vI v) (List.mem_cons_of_mem _ List.mem_cons_self)
  have hz : zJ7_fill_53178.2.2.2.1 = some .boolean → ∀ (T' : Zt) (x : Int), po_J7_fill_593 T p v T' (some (vI x)) → 0 ≤ x ∧ x ≤ 1 := fun h => by cases h
  show J_ zJ7_fill_53178 T (po_J7_fill_593 T p v) 0 0 0 [some (vR 593 p), some (vI v), none, none] [] T
  have c_5 : ∀ (nn : Nat) (j : Int) (T1 : Zt), ((12 - j).toNat) ≤ nn → (fr_ [(593, [])] T T1) → (0 ≤ j ∧ j ≤ 12) → (oi_ T T1 p) → (∀ q, 0 ≤ q → q < j → T1 593 p q = v) → J_ zJ7_fill_53178 T (po_J7_fill_593 T p v) 0 0 5 [some (vR 593 p), some (vI v), some (vI j), some (vI 12)] [] T1 := by
    intro nn
    induction nn using Nat.strongRecOn with
    | _ nn ih_5 =>
      intro j T1 hm_5 hf_5 i1 o1 f1
      replace hm_5 := fun (_ : Unit) => hm_5
      refine j_blx (F := fJ7) tb_J7 (nn_ _) bk_J7_fill_53178_5 bs_J7_fill_53178_5 hz (fun K hK => ?_)
      refine And.intro (fun c1 => ?_) (fun c1 => ?_)
      · refine hK 20 _ [] T1 ?_
        refine j_blx (F := fJ7) tb_J7 (nn_ _) bk_J7_fill_53178_20 bs_J7_fill_53178_20 hz (fun K hK => ?_)
        refine (show po_J7_fill_593 T p v T1 (none) from ?_)
        exact ⟨rfl, fr_t (fr_0 _ _) (fr_s hf_5 rfl), o1, fun q a b => f1 q a (by omega)⟩
      · refine iy_i (by omega) (by omega) ?_
        refine x_nm (fun U2 hU2 => ?_)
        have e3 := up_f hU2
        refine rg_i (by omega) ?_
        refine hK 5 [some (vR 593 p), some (vI v), some (vI (j + 1)), some (vI 12)] [] U2 ?_
        refine ih_5 _ ?_ (j + 1) U2 (Nat.le_refl _) ?_ ?_ ?_ ?_
        · have hm_5 := hm_5 (); omega
        · exact fr_u (fr_t (fr_0 _ _) (fr_s hf_5 rfl)) hU2 rfl
        · omega
        · exact oi_u o1 hU2
        · intro q a b
          by_cases z : q = j
          · rw [z]; exact up_f hU2
          · rw [up_g hU2 (fun y => z y.2.2)]; exact f1 q a (by omega)
  refine j_blx (F := fJ7) tb_J7 (nn_ _) bk_J7_fill_53178_0 bs_J7_fill_53178_0 hz (fun K hK => ?_)
  refine hK 5 [some (vR 593 p), some (vI v), some (vI 0), some (vI 12)] [] T ?_
  refine c_5 _ 0 T (Nat.le_refl _) ?_ ?_ ?_ ?_
  · exact fr_0 _ _
  · omega
  · exact oi_r
  · intro q a b; omega
abbrev cX9_relieve : ByteArray := prog_11_method_12_code
def yX9_relieve : MethodName := ⟨RX9, "relieve", "(II)Z"⟩
def zX9_relieve : Zm := (RX9, cX9_relieve, 8, (some .boolean), { frames := 2, cells := 0, slots := 0, locals := 46 })
theorem bk_X9_relieve_82 : ck_ fX9 (some .boolean) cX9_relieve 82 [.iload 6, .aload 0, .tableswitch 0 9 9 #[], .if_icmp .ge 152, .aload 0, .iload 6, .iload 5] 96 = true := qck_r (nn_ _) (by decide +kernel)
theorem bs_X9_relieve_82 {P : Zt → Option Zv → Prop} (K : Int → Zl → List Zv → Zt → Prop) : sx_ K P [.iload 6, .aload 0, .tableswitch 0 9 9 #[], .if_icmp .ge 152, .aload 0, .iload 6, .iload 5] 96 = x_iload 6 (x_aload 0 (x_g0 109 9 0 40 (x_if_icmp .ge 152 K (x_aload 0 (x_iload 6 (x_iload 5 (K 96))))))) := ((xe_iload 6).trans (congrArg (x_iload 6) ((xe_aload 0).trans (congrArg (x_aload 0) ((xe_g0 (kk := 109) rfl tl_9_9).trans (congrArg (x_g0 109 9 0 40) ((xe_if_icmp .ge 152).trans (congrArg (x_if_icmp .ge 152 K) ((xe_aload 0).trans (congrArg (x_aload 0) ((xe_iload 6).trans (congrArg (x_iload 6) ((xe_iload 5).trans (congrArg (x_iload 5) xe_nil))))))))))))))
theorem bk_X9_relieve_152 : ck_ fX9 (some .boolean) cX9_relieve 152 [.goto 30] 155 = true := qck_r (nn_ _) (by decide +kernel)
theorem bs_X9_relieve_152 {P : Zt → Option Zv → Prop} (K : Int → Zl → List Zv → Zt → Prop) : sx_ K P [.goto 30] 155 = x_goto 30 K := (xe_goto 30)
set_option maxRecDepth 100000 in
theorem cl_X9_161 : cv_ RX9 161 yX9_takerOf zX9_takerOf 9 2 := ⟨gi_V (lwq_6 (dqc_m (dqc_m (List.mem_of_getElem? (i := 7) rfl))) rfl : Cond.methodLink RX9 161 yX9_takerOf ∈ lw_g) (lwq_6 (dqc_m (dqc_m (dqa_m (List.mem_of_getElem? (i := 1) rfl)))) rfl : Cond.instanceMethod yX9_takerOf ∈ lw_g) (lw_sel 150 rfl : Cond.selects yX9_takerOf.cls yX9_takerOf yX9_takerOf ∈ lw_g) (lwq_1 (List.mem_of_getElem? (i := 6) rfl) rfl : Cond.initialized yX9_takerOf.cls ∈ lw_g) (lwq_6 (dqc_m (dqc_m (dqa_m (List.mem_of_getElem? (i := 2) rfl)))) rfl : Cond.code yX9_takerOf cX9_takerOf 3 (some .int) ∈ lw_g), ⟨nmh_8.1, nmh_8.2, pdq_4⟩, ⟨_, _, rfl⟩⟩
theorem bk_X9_relieve_99 : ck_ fX9 (some .boolean) cX9_relieve 99 [.istore 7, .iload 7, .iconst (-1), .if_icmp .eq 146, .aload 0, .tableswitch 0 9 13 #[], .iload 7, .iaload, .iconst (-1), .if_icmp .ne 146, .iload 4, .iconst 12, .if_icmp .ge 146, .aload 0, .tableswitch 0 9 13 #[], .iload 7, .iload 6, .iastore, .aload 0, .tableswitch 0 9 14 #[], .iload 4, .iload 7, .iastore, .iinc 4 1, .iinc 6 1, .goto 82] 152 = true := qck_r (nn_ _) (by decide +kernel)
theorem bs_X9_relieve_99 {P : Zt → Option Zv → Prop} (K : Int → Zl → List Zv → Zt → Prop) : sx_ K P [.istore 7, .iload 7, .iconst (-1), .if_icmp .eq 146, .aload 0, .tableswitch 0 9 13 #[], .iload 7, .iaload, .iconst (-1), .if_icmp .ne 146, .iload 4, .iconst 12, .if_icmp .ge 146, .aload 0, .tableswitch 0 9 13 #[], .iload 7, .iload 6, .iastore, .aload 0, .tableswitch 0 9 14 #[], .iload 4, .iload 7, .iastore, .iinc 4 1, .iinc 6 1, .goto 82] 152 = x_istore 7 (x_iload 7 (x_iconst (-1) (x_if_icmp .eq 146 K (x_aload 0 (x_g1 109 593 (x_iload 7 (x_iaload (x_iconst (-1) (x_if_icmp .ne 146 K (x_iload 4 (x_iconst 12 (x_if_icmp .ge 146 K (x_aload 0 (x_g1 109 593 (x_iload 7 (x_iload 6 (x_iastore (x_aload 0 (x_g1 109 594 (x_iload 4 (x_iload 7 (x_iastore (x_iinc 4 1 (x_iinc 6 1 (x_goto 82 K))))))))))))))))))))))))) := ((xe_istore 7).trans (congrArg (x_istore 7) ((xe_iload 7).trans (congrArg (x_iload 7) ((xe_iconst (-1)).trans (congrArg (x_iconst (-1)) ((xe_if_icmp .eq 146).trans (congrArg (x_if_icmp .eq 146 K) ((xe_aload 0).trans (congrArg (x_aload 0) ((xe_g1 (kk := 109) rfl tl_9_13).trans (congrArg (x_g1 109 593) ((xe_iload 7).trans (congrArg (x_iload 7) ((xe_iaload).trans (congrArg (x_iaload) ((xe_iconst (-1)).trans (congrArg (x_iconst (-1)) ((xe_if_icmp .ne 146).trans (congrArg (x_if_icmp .ne 146 K) ((xe_iload 4).trans (congrArg (x_iload 4) ((xe_iconst 12).trans (congrArg (x_iconst 12) ((xe_if_icmp .ge 146).trans (congrArg (x_if_icmp .ge 146 K) ((xe_aload 0).trans (congrArg (x_aload 0) ((xe_g1 (kk := 109) rfl tl_9_13).trans (congrArg (x_g1 109 593) ((xe_iload 7).trans (congrArg (x_iload 7) ((xe_iload 6).trans (congrArg (x_iload 6) ((xe_iastore).trans (congrArg (x_iastore) ((xe_aload 0).trans (congrArg (x_aload 0) ((xe_g1 (kk := 109) rfl tl_9_14).trans (congrArg (x_g1 109 594) ((xe_iload 4).trans (congrArg (x_iload 4) ((xe_iload 7).trans (congrArg (x_iload 7) ((xe_iastore).trans (congrArg (x_iastore) ((xe_iinc 4 1).trans (congrArg (x_iinc 4 1) ((xe_iinc 6 1).trans (congrArg (x_iinc 6 1) (xe_goto 82)))))))))))))))))))))))))))))))))))))))))))))))))))
theorem bk_X9_relieve_146 : ck_ fX9 (some .boolean) cX9_relieve 146 [.iinc 6 1, .goto 82] 152 = true := qck_r (nn_ _) (by decide +kernel)
theorem bs_X9_relieve_146 {P : Zt → Option Zv → Prop} (K : Int → Zl → List Zv → Zt → Prop) : sx_ K P [.iinc 6 1, .goto 82] 152 = x_iinc 6 1 (x_goto 82 K) := ((xe_iinc 6 1).trans (congrArg (x_iinc 6 1) (xe_goto 82)))
theorem bk_X9_relieve_30 : ck_ fX9 (some .boolean) cX9_relieve 30 [.iload 3, .iload 4, .if_icmp .ge 155, .iload 3, .iconst 12, .if_icmp .ge 155, .aload 0, .tableswitch 0 9 14 #[], .iload 3, .iaload, .istore 5, .iinc 3 1, .aload 0, .tableswitch 0 9 12 #[], .iload 5, .iaload, .aload 0, .tableswitch 0 9 11 #[], .iload 5, .iaload, .if_icmp .ge 79, .aload 0, .iload 1, .iload 5] 74 = true := qck_r (nn_ _) (by decide +kernel)
theorem bs_X9_relieve_30 {P : Zt → Option Zv → Prop} (K : Int → Zl → List Zv → Zt → Prop) : sx_ K P [.iload 3, .iload 4, .if_icmp .ge 155, .iload 3, .iconst 12, .if_icmp .ge 155, .aload 0, .tableswitch 0 9 14 #[], .iload 3, .iaload, .istore 5, .iinc 3 1, .aload 0, .tableswitch 0 9 12 #[], .iload 5, .iaload, .aload 0, .tableswitch 0 9 11 #[], .iload 5, .iaload, .if_icmp .ge 79, .aload 0, .iload 1, .iload 5] 74 = x_iload 3 (x_iload 4 (x_if_icmp .ge 155 K (x_iload 3 (x_iconst 12 (x_if_icmp .ge 155 K (x_aload 0 (x_g1 109 594 (x_iload 3 (x_iaload (x_istore 5 (x_iinc 3 1 (x_aload 0 (x_g1 109 592 (x_iload 5 (x_iaload (x_aload 0 (x_g1 109 591 (x_iload 5 (x_iaload (x_if_icmp .ge 79 K (x_aload 0 (x_iload 1 (x_iload 5 (K 74)))))))))))))))))))))))) := ((xe_iload 3).trans (congrArg (x_iload 3) ((xe_iload 4).trans (congrArg (x_iload 4) ((xe_if_icmp .ge 155).trans (congrArg (x_if_icmp .ge 155 K) ((xe_iload 3).trans (congrArg (x_iload 3) ((xe_iconst 12).trans (congrArg (x_iconst 12) ((xe_if_icmp .ge 155).trans (congrArg (x_if_icmp .ge 155 K) ((xe_aload 0).trans (congrArg (x_aload 0) ((xe_g1 (kk := 109) rfl tl_9_14).trans (congrArg (x_g1 109 594) ((xe_iload 3).trans (congrArg (x_iload 3) ((xe_iaload).trans (congrArg (x_iaload) ((xe_istore 5).trans (congrArg (x_istore 5) ((xe_iinc 3 1).trans (congrArg (x_iinc 3 1) ((xe_aload 0).trans (congrArg (x_aload 0) ((xe_g1 (kk := 109) rfl tl_9_12).trans (congrArg (x_g1 109 592) ((xe_iload 5).trans (congrArg (x_iload 5) ((xe_iaload).trans (congrArg (x_iaload) ((xe_aload 0).trans (congrArg (x_aload 0) ((xe_g1 (kk := 109) rfl tl_9_11).trans (congrArg (x_g1 109 591) ((xe_iload 5).trans (congrArg (x_iload 5) ((xe_iaload).trans (congrArg (x_iaload) ((xe_if_icmp .ge 79).trans (congrArg (x_if_icmp .ge 79 K) ((xe_aload 0).trans (congrArg (x_aload 0) ((xe_iload 1).trans (congrArg (x_iload 1) ((xe_iload 5).trans (congrArg (x_iload 5) xe_nil))))))))))))))))))))))))))))))))))))))))))))))))
theorem bk_X9_relieve_155 : ck_ fX9 (some .boolean) cX9_relieve 155 [.iconst 0, .ireturn] 157 = true := qck_r (nn_ _) (by decide +kernel)
theorem bs_X9_relieve_155 {P : Zt → Option Zv → Prop} (K : Int → Zl → List Zv → Zt → Prop) : sx_ K P [.iconst 0, .ireturn] 157 = x_iconst 0 (x_ireturn P) := ((xe_iconst 0).trans (congrArg (x_iconst 0) (xe_ireturn)))
theorem bk_X9_relieve_79 : ck_ fX9 (some .boolean) cX9_relieve 79 [.iload 2, .istore 6] 82 = true := qck_r (nn_ _) (by decide +kernel)
theorem bs_X9_relieve_79 {P : Zt → Option Zv → Prop} (K : Int → Zl → List Zv → Zt → Prop) : sx_ K P [.iload 2, .istore 6] 82 = x_iload 2 (x_istore 6 (K 82)) := ((xe_iload 2).trans (congrArg (x_iload 2) ((xe_istore 6).trans (congrArg (x_istore 6) xe_nil))))
set_option maxRecDepth 100000 in
theorem cl_X9_157 : cv_ RX9 157 yX9_shiftAlong zX9_shiftAlong 9 2 := ⟨gi_V (lwq_6 (dqc_m (dqa_m (dqa_m (dqa_m (List.mem_of_getElem? (i := 7) rfl))))) rfl : Cond.methodLink RX9 157 yX9_shiftAlong ∈ lw_g) (lwq_6 (dqc_m (dqc_m (List.mem_of_getElem? (i := 1) rfl))) rfl : Cond.instanceMethod yX9_shiftAlong ∈ lw_g) (lw_sel 146 rfl : Cond.selects yX9_shiftAlong.cls yX9_shiftAlong yX9_shiftAlong ∈ lw_g) (lwq_1 (List.mem_of_getElem? (i := 6) rfl) rfl : Cond.initialized yX9_shiftAlong.cls ∈ lw_g) (lwq_6 (dqc_m (dqc_m (List.mem_of_getElem? (i := 2) rfl))) rfl : Cond.code yX9_shiftAlong cX9_shiftAlong 6 none ∈ lw_g), ⟨nmh_8.1, nmh_8.2, pdq_0⟩, ⟨_, _, rfl⟩⟩
theorem bk_X9_relieve_77 : ck_ fX9 (some .boolean) cX9_relieve 77 [.iconst 1, .ireturn] 79 = true := qck_r (nn_ _) (by decide +kernel)
theorem bs_X9_relieve_77 {P : Zt → Option Zv → Prop} (K : Int → Zl → List Zv → Zt → Prop) : sx_ K P [.iconst 1, .ireturn] 79 = x_iconst 1 (x_ireturn P) := ((xe_iconst 1).trans (congrArg (x_iconst 1) (xe_ireturn)))
theorem bk_X9_relieve_0 : ck_ fX9 (some .boolean) cX9_relieve 0 [.aload 0, .tableswitch 0 9 13 #[], .iconst (-1)] 5 = true := qck_r (nn_ _) (by decide +kernel)
theorem bs_X9_relieve_0 {P : Zt → Option Zv → Prop} (K : Int → Zl → List Zv → Zt → Prop) : sx_ K P [.aload 0, .tableswitch 0 9 13 #[], .iconst (-1)] 5 = x_aload 0 (x_g1 109 593 (x_iconst (-1) (K 5))) := ((xe_aload 0).trans (congrArg (x_aload 0) ((xe_g1 (kk := 109) rfl tl_9_13).trans (congrArg (x_g1 109 593) ((xe_iconst (-1)).trans (congrArg (x_iconst (-1)) xe_nil))))))
set_option maxRecDepth 100000 in
theorem cl_X9_48 : cs_ RX9 48 yJ7_fill_53178 zJ7_fill_53178 2 := ⟨gi_S (lwq_2 (dqa_m (dqa_m (dqa_m (List.mem_of_getElem? (i := 1) rfl)))) rfl : Cond.methodLink RX9 48 yJ7_fill_53178 ∈ lw_g) (lwq_2 (dqa_m (dqa_m (dqa_m (List.mem_of_getElem? (i := 2) rfl)))) rfl : Cond.static yJ7_fill_53178 ∈ lw_g) (lwq_1 (List.mem_of_getElem? (i := 7) rfl) rfl : Cond.initialized yJ7_fill_53178.cls ∈ lw_g) (lwq_2 (dqa_m (dqa_m (dqa_m (List.mem_of_getElem? (i := 3) rfl)))) rfl : Cond.code yJ7_fill_53178 cJ7_fill_53178 4 none ∈ lw_g), ⟨by decide, by decide, by decide +kernel⟩⟩
theorem bk_X9_relieve_8 : ck_ fX9 (some .boolean) cX9_relieve 8 [.iconst 0, .istore 3, .iconst 1, .istore 4, .aload 0, .tableswitch 0 9 14 #[], .iconst 0, .iload 1, .iastore, .aload 0, .tableswitch 0 9 13 #[], .iload 1, .aload 0, .tableswitch 0 9 9 #[], .iastore] 30 = true := qck_r (nn_ _) (by decide +kernel)
theorem bs_X9_relieve_8 {P : Zt → Option Zv → Prop} (K : Int → Zl → List Zv → Zt → Prop) : sx_ K P [.iconst 0, .istore 3, .iconst 1, .istore 4, .aload 0, .tableswitch 0 9 14 #[], .iconst 0, .iload 1, .iastore, .aload 0, .tableswitch 0 9 13 #[], .iload 1, .aload 0, .tableswitch 0 9 9 #[], .iastore] 30 = x_iconst 0 (x_istore 3 (x_iconst 1 (x_istore 4 (x_aload 0 (x_g1 109 594 (x_iconst 0 (x_iload 1 (x_iastore (x_aload 0 (x_g1 109 593 (x_iload 1 (x_aload 0 (x_g0 109 9 0 40 (x_iastore (K 30))))))))))))))) := ((xe_iconst 0).trans (congrArg (x_iconst 0) ((xe_istore 3).trans (congrArg (x_istore 3) ((xe_iconst 1).trans (congrArg (x_iconst 1) ((xe_istore 4).trans (congrArg (x_istore 4) ((xe_aload 0).trans (congrArg (x_aload 0) ((xe_g1 (kk := 109) rfl tl_9_14).trans (congrArg (x_g1 109 594) ((xe_iconst 0).trans (congrArg (x_iconst 0) ((xe_iload 1).trans (congrArg (x_iload 1) ((xe_iastore).trans (congrArg (x_iastore) ((xe_aload 0).trans (congrArg (x_aload 0) ((xe_g1 (kk := 109) rfl tl_9_13).trans (congrArg (x_g1 109 593) ((xe_iload 1).trans (congrArg (x_iload 1) ((xe_aload 0).trans (congrArg (x_aload 0) ((xe_g0 (kk := 109) rfl tl_9_9).trans (congrArg (x_g0 109 9 0 40) ((xe_iastore).trans (congrArg (x_iastore) xe_nil))))))))))))))))))))))))))))))
abbrev po_X9_relieve (T : Zt) (s f : Int) : Zt → Option Zv → Prop := fun T' r => ∃ x : Int, r = some (vI x) ∧ fr_ [(593, []), (594, []), (592, []), (590, [])] T T' ∧ (0 ≤ x ∧ x ≤ 1)
set_option maxHeartbeats 4000000 in
theorem ct_X9_relieve {T : Zt} {s f : Int} (hq9 : Q9_ T) (hka : KA_ T) (hs : 0 ≤ s ∧ s < 12) (h0 : 0 ≤ f) : Ct_ yX9_relieve zX9_relieve T [vR 109 0, vI s, vI f] (po_X9_relieve T s f) := by
  refine ct_of pn_9 rfl rfl (Nat.le_of_ble_eq_true rfl) (fun hT hav => ?_)
  have hr_s : -2147483648 ≤ s ∧ s ≤ 2147483647 := hav (vI s) (List.mem_cons_of_mem _ List.mem_cons_self)
  have hr_f : -2147483648 ≤ f ∧ f ≤ 2147483647 := hav (vI f) (List.mem_cons_of_mem _ (List.mem_cons_of_mem _ List.mem_cons_self))
  have hz : zX9_relieve.2.2.2.1 = some .boolean → ∀ (T' : Zt) (x : Int), po_X9_relieve T s f T' (some (vI x)) → 0 ≤ x ∧ x ≤ 1 := fun _ T' x h => by obtain ⟨y, e, -, hy⟩ := h; cases e; omega
  have hbo : 0 ≤ T 109 0 9 ∧ T 109 0 9 ≤ 40 := bd_f hT 109 9 tl_9_9 0
  show J_ zX9_relieve T (po_X9_relieve T s f) 0 0 0 [some (vR 109 0), some (vI s), some (vI f), none, none, none, none, none] [] T
  have c_30 : ∀ (nn : Nat) (hd : Int) (tl : Int) (T1 : Zt), ((12 - hd).toNat) ≤ nn → (fr_ [(593, []), (594, [])] T T1) → (0 ≤ hd ∧ hd ≤ 12 ∧ 1 ≤ tl ∧ tl ≤ 12) → (∀ v, 0 ≤ v → v < 12 → T1 593 0 v ≠ -1 → v = s ∨ ((0 ≤ T1 593 0 v ∧ T1 593 0 v < T 109 0 9) ∧ ((hsx_ T (T1 593 0 v) = v ∧ T1 593 0 (asx_ T (T1 593 0 v)) ≠ -1) ∨ (hsx_ T (T1 593 0 v) ≠ v ∧ T1 593 0 (hsx_ T (T1 593 0 v)) ≠ -1)))) → (∀ j, 0 ≤ j → j < tl → T1 593 0 (T1 594 0 j) ≠ -1) → J_ zX9_relieve T (po_X9_relieve T s f) 0 0 30 [some (vR 109 0), some (vI s), some (vI f), some (vI hd), some (vI tl), none, none, none] [] T1 := by
    intro nn
    induction nn using Nat.strongRecOn with
    | _ nn ih_30 =>
      intro hd tl T1 hm_30 hf_30 i1 vi1 qi1
      replace hm_30 := fun (_ : Unit) => hm_30
      have c_82 : ∀ (nn : Nat) (tl2 : Int) (at9 : Int) (k : Int) (T2 : Zt), ((40 - k).toNat) ≤ nn → (fr_ [(593, []), (594, [])] T T2) → (hd < 12 ∧ 1 ≤ tl2 ∧ tl2 ≤ 12 ∧ 0 ≤ k ∧ 0 ≤ at9 ∧ at9 < 12) → (T2 593 0 at9 ≠ -1) → (∀ v, 0 ≤ v → v < 12 → T2 593 0 v ≠ -1 → v = s ∨ ((0 ≤ T2 593 0 v ∧ T2 593 0 v < T 109 0 9) ∧ ((hsx_ T (T2 593 0 v) = v ∧ T2 593 0 (asx_ T (T2 593 0 v)) ≠ -1) ∨ (hsx_ T (T2 593 0 v) ≠ v ∧ T2 593 0 (hsx_ T (T2 593 0 v)) ≠ -1)))) → (∀ j, 0 ≤ j → j < tl2 → T2 593 0 (T2 594 0 j) ≠ -1) → J_ zX9_relieve T (po_X9_relieve T s f) 0 0 82 [some (vR 109 0), some (vI s), some (vI f), some (vI (hd + 1)), some (vI tl2), some (vI at9), some (vI k), none] [] T2 := by
        intro nn
        induction nn using Nat.strongRecOn with
        | _ nn ih_82 =>
          intro tl2 at9 k T2 hm_82 hf_82 i2 hat vi2 qi2
          replace hm_82 := fun (_ : Unit) => hm_82
          refine j_blx (F := fX9) tb_X9 (nn_ _) bk_X9_relieve_82 bs_X9_relieve_82 hz (fun K hK => ?_)
          intro b1 b1b
          have e2 : T2 109 0 9 = T 109 0 9 := hf_82 109 0 9 rfl
          rw [e2] at b1 b1b ⊢
          refine And.intro (fun c3 => ?_) (fun c3 => ?_)
          · refine hK 152 _ [] T2 ?_
            refine j_blx (F := fX9) tb_X9 (nn_ _) bk_X9_relieve_152 bs_X9_relieve_152 hz (fun K hK => ?_)
            refine hK 30 _ [] T2 ?_
            refine j_drop [some (vR 109 0), some (vI s), some (vI f), some (vI (hd + 1)), some (vI tl2), none, none, none] (fun k v hk => ?_) rfl ?_
            · match k, hk with
              | 0, hk => exact hk
              | 1, hk => exact hk
              | 2, hk => exact hk
              | 3, hk => exact hk
              | 4, hk => exact hk
              | 5, hk => cases hk
              | 6, hk => cases hk
              | 7, hk => cases hk
              | k + 8, hk => cases hk
            refine ih_30 _ ?_ (hd + 1) tl2 T2 (Nat.le_refl _) ?_ ?_ ?_ ?_
            · have hm_30 := hm_30 (); omega
            · exact fr_t (fr_0 _ _) (fr_s hf_82 rfl)
            · omega
            · exact vi2
            · exact qi2
          · refine hK 96 [some (vR 109 0), some (vI s), some (vI f), some (vI (hd + 1)), some (vI tl2), some (vI at9), some (vI k), none] [vI at9, vI k, vR 109 0] T2 ?_
            have fq4 : fr_ [(593, []), (594, [])] T T2 := fr_t (fr_0 _ _) (fr_s hf_82 rfl)
            have e5 : T2 109 0 9 = T 109 0 9 := hf_82 109 0 9 rfl
            refine j_callV (y := yX9_takerOf) (Yc := zX9_takerOf) (rest := []) [vI k, vI at9] (ct_X9_takerOf (T := T2) (q9_f hq9 fq4 ⟨fun _ _ => rfl, fun _ => rfl, rfl, rfl, rfl, rfl, rfl⟩) (KA__f (ws := [(593, []), (594, [])]) hka (fr_t (fr_0 _ _) (fr_s hf_82 rfl)) ⟨fun _ => rfl, fun _ => rfl, rfl, rfl, trivial⟩) (by omega)) cl_X9_161 (qd_c (by decide +kernel)) (nn_ _) rfl (rf_of rfl) (Nat.le_of_ble_eq_true rfl) (Nat.le_of_ble_eq_true rfl) (Nat.le_of_ble_eq_true rfl) rfl ?_
            rintro _ _ ⟨rfl, x6, rfl, hx6⟩
            rw [hsx_e fq4 ⟨fun _ _ => rfl, fun _ => rfl, rfl, rfl, rfl, rfl, rfl⟩, asx_e fq4 ⟨fun _ _ => rfl, fun _ => rfl, rfl, rfl, rfl, rfl, rfl⟩] at hx6
            show J_ zX9_relieve T (po_X9_relieve T s f) 0 0 99 _ [vI x6] T2
            refine j_blx (F := fX9) tb_X9 (nn_ _) bk_X9_relieve_99 bs_X9_relieve_99 hz (fun K hK => ?_)
            refine And.intro (fun c7 => ?_) (fun c7 => ?_)
            · refine hK 146 [some (vR 109 0), some (vI s), some (vI f), some (vI (hd + 1)), some (vI tl2), some (vI at9), some (vI k), some (vI x6)] [] T2 ?_
              refine j_blx (F := fX9) tb_X9 (nn_ _) bk_X9_relieve_146 bs_X9_relieve_146 hz (fun K hK => ?_)
              refine rg_i (by omega) ?_
              refine hK 82 [some (vR 109 0), some (vI s), some (vI f), some (vI (hd + 1)), some (vI tl2), some (vI at9), some (vI (k + 1)), some (vI x6)] [] T2 ?_
              refine j_drop [some (vR 109 0), some (vI s), some (vI f), some (vI (hd + 1)), some (vI tl2), some (vI at9), some (vI (k + 1)), none] (fun k v hk => ?_) rfl ?_
              · match k, hk with
                | 0, hk => exact hk
                | 1, hk => exact hk
                | 2, hk => exact hk
                | 3, hk => exact hk
                | 4, hk => exact hk
                | 5, hk => exact hk
                | 6, hk => exact hk
                | 7, hk => cases hk
                | k + 8, hk => cases hk
              refine ih_82 _ ?_ tl2 at9 (k + 1) T2 (Nat.le_refl _) ?_ ?_ ?_ ?_ ?_
              · have hm_82 := hm_82 (); omega
              · exact fr_t (fr_0 _ _) (fr_s hf_82 rfl)
              · omega
              · exact hat
              · exact vi2
              · exact qi2
            · refine ix_i (by omega) ?_
              intro b8 b8b
              refine And.intro (fun c9 => ?_) (fun c9 => ?_)
              · refine hK 146 [some (vR 109 0), some (vI s), some (vI f), some (vI (hd + 1)), some (vI tl2), some (vI at9), some (vI k), some (vI x6)] [] T2 ?_
                refine j_blx (F := fX9) tb_X9 (nn_ _) bk_X9_relieve_146 bs_X9_relieve_146 hz (fun K hK => ?_)
                refine rg_i (by omega) ?_
                refine hK 82 [some (vR 109 0), some (vI s), some (vI f), some (vI (hd + 1)), some (vI tl2), some (vI at9), some (vI (k + 1)), some (vI x6)] [] T2 ?_
                refine j_drop [some (vR 109 0), some (vI s), some (vI f), some (vI (hd + 1)), some (vI tl2), some (vI at9), some (vI (k + 1)), none] (fun k v hk => ?_) rfl ?_
                · match k, hk with
                  | 0, hk => exact hk
                  | 1, hk => exact hk
                  | 2, hk => exact hk
                  | 3, hk => exact hk
                  | 4, hk => exact hk
                  | 5, hk => exact hk
                  | 6, hk => exact hk
                  | 7, hk => cases hk
                  | k + 8, hk => cases hk
                refine ih_82 _ ?_ tl2 at9 (k + 1) T2 (Nat.le_refl _) ?_ ?_ ?_ ?_ ?_
                · have hm_82 := hm_82 (); omega
                · exact fr_t (fr_0 _ _) (fr_s hf_82 rfl)
                · omega
                · exact hat
                · exact vi2
                · exact qi2
              · refine And.intro (fun c10 => ?_) (fun c10 => ?_)
                · refine hK 146 [some (vR 109 0), some (vI s), some (vI f), some (vI (hd + 1)), some (vI tl2), some (vI at9), some (vI k), some (vI x6)] [] T2 ?_
                  refine j_blx (F := fX9) tb_X9 (nn_ _) bk_X9_relieve_146 bs_X9_relieve_146 hz (fun K hK => ?_)
                  refine rg_i (by omega) ?_
                  refine hK 82 [some (vR 109 0), some (vI s), some (vI f), some (vI (hd + 1)), some (vI tl2), some (vI at9), some (vI (k + 1)), some (vI x6)] [] T2 ?_
                  refine j_drop [some (vR 109 0), some (vI s), some (vI f), some (vI (hd + 1)), some (vI tl2), some (vI at9), some (vI (k + 1)), none] (fun k v hk => ?_) rfl ?_
                  · match k, hk with
                    | 0, hk => exact hk
                    | 1, hk => exact hk
                    | 2, hk => exact hk
                    | 3, hk => exact hk
                    | 4, hk => exact hk
                    | 5, hk => exact hk
                    | 6, hk => exact hk
                    | 7, hk => cases hk
                    | k + 8, hk => cases hk
                  refine ih_82 _ ?_ tl2 at9 (k + 1) T2 (Nat.le_refl _) ?_ ?_ ?_ ?_ ?_
                  · have hm_82 := hm_82 (); omega
                  · exact fr_t (fr_0 _ _) (fr_s hf_82 rfl)
                  · omega
                  · exact hat
                  · exact vi2
                  · exact qi2
                · refine iy_i (by omega) (by omega) ?_
                  refine x_nm (fun U11 hU11 => ?_)
                  have e12 := up_f hU11
                  refine iy_i (by omega) (by omega) ?_
                  refine x_nm (fun U13 hU13 => ?_)
                  have e14 := up_f hU13
                  refine rg_i (by omega) ?_
                  refine rg_i (by omega) ?_
                  refine hK 82 [some (vR 109 0), some (vI s), some (vI f), some (vI (hd + 1)), some (vI (tl2 + 1)), some (vI at9), some (vI (k + 1)), some (vI x6)] [] U13 ?_
                  refine j_drop [some (vR 109 0), some (vI s), some (vI f), some (vI (hd + 1)), some (vI (tl2 + 1)), some (vI at9), some (vI (k + 1)), none] (fun k v hk => ?_) rfl ?_
                  · match k, hk with
                    | 0, hk => exact hk
                    | 1, hk => exact hk
                    | 2, hk => exact hk
                    | 3, hk => exact hk
                    | 4, hk => exact hk
                    | 5, hk => exact hk
                    | 6, hk => exact hk
                    | 7, hk => cases hk
                    | k + 8, hk => cases hk
                  refine ih_82 _ ?_ (tl2 + 1) at9 (k + 1) U13 (Nat.le_refl _) ?_ ?_ ?_ ?_ ?_
                  · have hm_82 := hm_82 (); omega
                  · exact fr_u (fr_u (fr_t (fr_0 _ _) (fr_s hf_82 rfl)) hU11 rfl) hU13 rfl
                  · omega
                  · rw [up_k hU13 (by exact Nat.ne_of_beq_eq_false rfl), up_g hU11 (fun q => by rw [q.2.2] at hat; omega)]; exact hat
                  · have ev : ∀ z, z ≠ x6 → U13 593 0 z = T2 593 0 z := fun z hz => (up_k hU13 (by exact Nat.ne_of_beq_eq_false rfl) 0 z).trans (up_g hU11 (fun q => hz q.2.2))
                    have ex : U13 593 0 x6 = k := (up_k hU13 (by exact Nat.ne_of_beq_eq_false rfl) 0 _).trans (up_f hU11)
                    intro v a b d
                    by_cases z : v = x6
                    · right
                      rw [z, ex]
                      refine ⟨by omega, ?_⟩
                      have ha : U13 593 0 at9 ≠ -1 := by rw [ev at9 (fun q => by rw [q] at hat; omega)]; exact hat
                      rcases hx6.resolve_left (by omega) with ⟨_, _, ⟨y1, y2⟩ | ⟨y1, y2⟩⟩
                      · by_cases w : hsx_ T k = x6
                        · exact Or.inl ⟨w, fun q => hat (by rw [show at9 = x6 by omega]; omega)⟩
                        · exact Or.inr ⟨w, by rw [y1]; exact ha⟩
                      · exact Or.inl ⟨y2.symm, by rw [y1]; exact ha⟩
                    · rw [ev v z] at d ⊢
                      rcases vi2 v a b d with y | ⟨y1, y2⟩
                      · exact Or.inl y
                      · refine Or.inr ⟨y1, ?_⟩
                        rcases y2 with ⟨u1, u2⟩ | ⟨u1, u2⟩
                        · refine Or.inl ⟨u1, ?_⟩
                          by_cases t : asx_ T (T2 593 0 v) = x6
                          · rw [t, ex]; omega
                          · rw [ev _ t]; exact u2
                        · refine Or.inr ⟨u1, ?_⟩
                          by_cases t : hsx_ T (T2 593 0 v) = x6
                          · rw [t, ex]; omega
                          · rw [ev _ t]; exact u2
                  · have ev : ∀ z, z ≠ x6 → U13 593 0 z = T2 593 0 z := fun z hz => (up_k hU13 (by exact Nat.ne_of_beq_eq_false rfl) 0 z).trans (up_g hU11 (fun q => hz q.2.2))
                    have ex : U13 593 0 x6 = k := (up_k hU13 (by exact Nat.ne_of_beq_eq_false rfl) 0 _).trans (up_f hU11)
                    intro j a b
                    by_cases z : j = tl2
                    · rw [z, up_f hU13, ex]; omega
                    · rw [up_g hU13 (fun q => z q.2.2), up_k hU11 (by exact Nat.ne_of_beq_eq_false rfl)]
                      by_cases w : T2 594 0 j = x6
                      · rw [w, ex]; omega
                      · rw [ev _ w]; exact qi2 j a (by omega)
      refine j_blx (F := fX9) tb_X9 (nn_ _) bk_X9_relieve_30 bs_X9_relieve_30 hz (fun K hK => ?_)
      refine And.intro (fun c15 => ?_) (fun c15 => ?_)
      · refine hK 155 _ [] T1 ?_
        refine j_blx (F := fX9) tb_X9 (nn_ _) bk_X9_relieve_155 bs_X9_relieve_155 hz (fun K hK => ?_)
        refine (show po_X9_relieve T s f T1 (some (vI 0)) from ?_)
        exact ⟨_, rfl, fr_t (fr_0 _ _) (fr_s hf_30 rfl), by omega⟩
      · refine And.intro (fun c16 => ?_) (fun c16 => ?_)
        · refine hK 155 _ [] T1 ?_
          refine j_blx (F := fX9) tb_X9 (nn_ _) bk_X9_relieve_155 bs_X9_relieve_155 hz (fun K hK => ?_)
          refine (show po_X9_relieve T s f T1 (some (vI 0)) from ?_)
          exact ⟨_, rfl, fr_t (fr_0 _ _) (fr_s hf_30 rfl), by omega⟩
        · have hqh := qi1 hd (by omega) (by omega)
          refine ix_i (by omega) ?_
          intro b17 b17b
          refine rg_i (by omega) ?_
          refine ix_i (by omega) ?_
          intro b18 b18b
          have e19 : T1 592 0 (T1 594 0 hd) = T 592 0 (T1 594 0 hd) := hf_30 592 0 (T1 594 0 hd) rfl
          rw [e19] at b18 b18b ⊢
          refine ix_i (by omega) ?_
          intro b20 b20b
          have e21 : T1 591 0 (T1 594 0 hd) = T 591 0 (T1 594 0 hd) := hf_30 591 0 (T1 594 0 hd) rfl
          rw [e21] at b20 b20b ⊢
          refine And.intro (fun c22 => ?_) (fun c22 => ?_)
          · refine hK 79 [some (vR 109 0), some (vI s), some (vI f), some (vI (hd + 1)), some (vI tl), some (vI (T1 594 0 hd)), none, none] [] T1 ?_
            refine j_blx (F := fX9) tb_X9 (nn_ _) bk_X9_relieve_79 bs_X9_relieve_79 hz (fun K hK => ?_)
            refine hK 82 [some (vR 109 0), some (vI s), some (vI f), some (vI (hd + 1)), some (vI tl), some (vI (T1 594 0 hd)), some (vI f), none] [] T1 ?_
            refine c_82 _ tl (T1 594 0 hd) f T1 (Nat.le_refl _) ?_ ?_ ?_ ?_ ?_
            · exact fr_t (fr_0 _ _) (fr_s hf_30 rfl)
            · omega
            · exact hqh
            · exact vi1
            · exact qi1
          · refine hK 74 [some (vR 109 0), some (vI s), some (vI f), some (vI (hd + 1)), some (vI tl), some (vI (T1 594 0 hd)), none, none] [vI (T1 594 0 hd), vI s, vR 109 0] T1 ?_
            have e23 : T1 109 0 9 = T 109 0 9 := hf_30 109 0 9 rfl
            have fq24 : fr_ [(593, []), (594, [])] T T1 := fr_t (fr_0 _ _) (fr_s hf_30 rfl)
            have e25 : T1 109 0 9 = T 109 0 9 := hf_30 109 0 9 rfl
            refine j_callV (y := yX9_shiftAlong) (Yc := zX9_shiftAlong) (rest := []) [vI s, vI (T1 594 0 hd)] (ct_X9_shiftAlong (T := T1) (by exact q9_f hq9 fq24 ⟨fun _ _ => rfl, fun _ => rfl, rfl, rfl, rfl, rfl, rfl⟩) (by exact KA__f (ws := [(593, []), (594, [])]) hka (fr_t (fr_0 _ _) (fr_s hf_30 rfl)) ⟨fun _ => rfl, fun _ => rfl, rfl, rfl, trivial⟩) (by omega) (by omega) (by rw [hf_30 109 0 9 rfl]; simp only [hsx_e fq24 ⟨fun _ _ => rfl, fun _ => rfl, rfl, rfl, rfl, rfl, rfl⟩, asx_e fq24 ⟨fun _ _ => rfl, fun _ => rfl, rfl, rfl, rfl, rfl, rfl⟩]; exact vi1)) cl_X9_157 (qd_c (by decide +kernel)) (nn_ _) rfl (rf_of rfl) (Nat.le_of_ble_eq_true rfl) (Nat.le_of_ble_eq_true rfl) (Nat.le_of_ble_eq_true rfl) rfl ?_
            rintro U26 _ ⟨rfl, fU26, qU26⟩
            show J_ zX9_relieve T (po_X9_relieve T s f) 0 0 77 _ [] U26
            refine j_blx (F := fX9) tb_X9 (nn_ _) bk_X9_relieve_77 bs_X9_relieve_77 hz (fun K hK => ?_)
            refine (show po_X9_relieve T s f U26 (some (vI 1)) from ?_)
            exact ⟨_, rfl, fr_t (fr_t (fr_0 _ _) (fr_s hf_30 rfl)) (fr_s fU26 rfl), by omega⟩
  refine j_blx (F := fX9) tb_X9 (nn_ _) bk_X9_relieve_0 bs_X9_relieve_0 hz (fun K hK => ?_)
  refine hK 5 _ [vI (-1), vR 593 0] T ?_
  refine j_callS (y := yJ7_fill_53178) (Yc := zJ7_fill_53178) (rest := []) [vR 593 0, vI (-1)] (ct_J7_fill_593 (T := T) (by omega)) cl_X9_48 (qd_c (by decide +kernel)) (nn_ _) rfl (rf_of rfl) (Nat.le_of_ble_eq_true rfl) (Nat.le_of_ble_eq_true rfl) (Nat.le_of_ble_eq_true rfl) rfl ?_
  rintro U27 _ ⟨rfl, fU27, qU27o, qU27⟩
  show J_ zX9_relieve T (po_X9_relieve T s f) 0 0 8 _ [] U27
  refine j_blx (F := fX9) tb_X9 (nn_ _) bk_X9_relieve_8 bs_X9_relieve_8 hz (fun K hK => ?_)
  refine iy_i (by omega) (by omega) ?_
  refine x_nm (fun U28 hU28 => ?_)
  have e29 := up_f hU28
  intro b30 b30b
  have e31 : U28 109 0 9 = T 109 0 9 := (up_k hU28 (by exact Nat.ne_of_beq_eq_false rfl) 0 9).trans (fU27 109 0 9 rfl)
  rw [e31] at b30 b30b ⊢
  refine iy_i (by omega) (by omega) ?_
  refine x_nm (fun U32 hU32 => ?_)
  have e33 := up_f hU32
  refine hK 30 [some (vR 109 0), some (vI s), some (vI f), some (vI 0), some (vI 1), none, none, none] [] U32 ?_
  refine c_30 _ 0 1 U32 (Nat.le_refl _) ?_ ?_ ?_ ?_
  · exact fr_u (fr_u (fr_t (fr_0 _ _) (fr_s fU27 rfl)) hU28 rfl) hU32 rfl
  · omega
  · intro v a b d
    left
    apply Classical.byContradiction
    intro z
    exact d (((up_g hU32 (by omega)).trans (up_k hU28 (by exact Nat.ne_of_beq_eq_false rfl) 0 v)).trans (qU27 v a b))
  · intro j a b
    have e9 : U32 594 0 0 = s := (up_k hU32 (by exact Nat.ne_of_beq_eq_false rfl) 0 0).trans (up_f hU28)
    rw [show j = 0 by omega, e9, up_f hU32]; omega
abbrev cX9_takePartHome : ByteArray := prog_11_method_9_code
def yX9_takePartHome : MethodName := ⟨RX9, "takePartHome", "(I)Z"⟩
def zX9_takePartHome : Zm := (RX9, cX9_takePartHome, 4, (some .boolean), { frames := 3, cells := 0, slots := 0, locals := 73 })
theorem bk_X9_takePartHome_0 : ck_ fX9 (some .boolean) cX9_takePartHome 0 [.aload 0, .iload 1] 2 = true := qck_r (nn_ _) (by decide +kernel)
theorem bs_X9_takePartHome_0 {P : Zt → Option Zv → Prop} (K : Int → Zl → List Zv → Zt → Prop) : sx_ K P [.aload 0, .iload 1] 2 = x_aload 0 (x_iload 1 (K 2)) := ((xe_aload 0).trans (congrArg (x_aload 0) ((xe_iload 1).trans (congrArg (x_iload 1) xe_nil))))
theorem bk_X9_takePartHome_5 : ck_ fX9 (some .boolean) cX9_takePartHome 5 [.istore 2, .aload 0, .iload 1] 8 = true := qck_r (nn_ _) (by decide +kernel)
theorem bs_X9_takePartHome_5 {P : Zt → Option Zv → Prop} (K : Int → Zl → List Zv → Zt → Prop) : sx_ K P [.istore 2, .aload 0, .iload 1] 8 = x_istore 2 (x_aload 0 (x_iload 1 (K 8))) := ((xe_istore 2).trans (congrArg (x_istore 2) ((xe_aload 0).trans (congrArg (x_aload 0) ((xe_iload 1).trans (congrArg (x_iload 1) xe_nil))))))
theorem bk_X9_takePartHome_11 : ck_ fX9 (some .boolean) cX9_takePartHome 11 [.istore 3, .aload 0, .tableswitch 0 9 12 #[], .iload 2, .dup2, .iaload, .iconst 1, .fadd, .iastore, .aload 0, .tableswitch 0 9 12 #[], .iload 3, .dup2, .iaload, .iconst 1, .fsub, .iastore, .aload 0, .tableswitch 0 9 12 #[], .iload 2, .iaload, .aload 0, .tableswitch 0 9 11 #[], .iload 2, .iaload, .if_icmp .le 58, .aload 0, .iload 2, .iload 1, .iconst 1, .iadd] 52 = true := qck_r (nn_ _) (by decide +kernel)
theorem bs_X9_takePartHome_11 {P : Zt → Option Zv → Prop} (K : Int → Zl → List Zv → Zt → Prop) : sx_ K P [.istore 3, .aload 0, .tableswitch 0 9 12 #[], .iload 2, .dup2, .iaload, .iconst 1, .fadd, .iastore, .aload 0, .tableswitch 0 9 12 #[], .iload 3, .dup2, .iaload, .iconst 1, .fsub, .iastore, .aload 0, .tableswitch 0 9 12 #[], .iload 2, .iaload, .aload 0, .tableswitch 0 9 11 #[], .iload 2, .iaload, .if_icmp .le 58, .aload 0, .iload 2, .iload 1, .iconst 1, .iadd] 52 = x_istore 3 (x_aload 0 (x_g1 109 592 (x_iload 2 (x_dup2 (x_iaload (x_iconst 1 (x_fadd (x_iastore (x_aload 0 (x_g1 109 592 (x_iload 3 (x_dup2 (x_iaload (x_iconst 1 (x_fsub (x_iastore (x_aload 0 (x_g1 109 592 (x_iload 2 (x_iaload (x_aload 0 (x_g1 109 591 (x_iload 2 (x_iaload (x_if_icmp .le 58 K (x_aload 0 (x_iload 2 (x_iload 1 (x_iconst 1 (x_iadd (K 52))))))))))))))))))))))))))))))) := ((xe_istore 3).trans (congrArg (x_istore 3) ((xe_aload 0).trans (congrArg (x_aload 0) ((xe_g1 (kk := 109) rfl tl_9_12).trans (congrArg (x_g1 109 592) ((xe_iload 2).trans (congrArg (x_iload 2) ((xe_dup2).trans (congrArg (x_dup2) ((xe_iaload).trans (congrArg (x_iaload) ((xe_iconst 1).trans (congrArg (x_iconst 1) ((xe_fadd).trans (congrArg (x_fadd) ((xe_iastore).trans (congrArg (x_iastore) ((xe_aload 0).trans (congrArg (x_aload 0) ((xe_g1 (kk := 109) rfl tl_9_12).trans (congrArg (x_g1 109 592) ((xe_iload 3).trans (congrArg (x_iload 3) ((xe_dup2).trans (congrArg (x_dup2) ((xe_iaload).trans (congrArg (x_iaload) ((xe_iconst 1).trans (congrArg (x_iconst 1) ((xe_fsub).trans (congrArg (x_fsub) ((xe_iastore).trans (congrArg (x_iastore) ((xe_aload 0).trans (congrArg (x_aload 0) ((xe_g1 (kk := 109) rfl tl_9_12).trans (congrArg (x_g1 109 592) ((xe_iload 2).trans (congrArg (x_iload 2) ((xe_iaload).trans (congrArg (x_iaload) ((xe_aload 0).trans (congrArg (x_aload 0) ((xe_g1 (kk := 109) rfl tl_9_11).trans (congrArg (x_g1 109 591) ((xe_iload 2).trans (congrArg (x_iload 2) ((xe_iaload).trans (congrArg (x_iaload) ((xe_if_icmp .le 58).trans (congrArg (x_if_icmp .le 58 K) ((xe_aload 0).trans (congrArg (x_aload 0) ((xe_iload 2).trans (congrArg (x_iload 2) ((xe_iload 1).trans (congrArg (x_iload 1) ((xe_iconst 1).trans (congrArg (x_iconst 1) ((xe_iadd).trans (congrArg (x_iadd) xe_nil))))))))))))))))))))))))))))))))))))))))))))))))))))))))))))))
theorem bk_X9_takePartHome_58 : ck_ fX9 (some .boolean) cX9_takePartHome 58 [.iconst 1, .ireturn] 60 = true := qck_r (nn_ _) (by decide +kernel)
theorem bs_X9_takePartHome_58 {P : Zt → Option Zv → Prop} (K : Int → Zl → List Zv → Zt → Prop) : sx_ K P [.iconst 1, .ireturn] 60 = x_iconst 1 (x_ireturn P) := ((xe_iconst 1).trans (congrArg (x_iconst 1) (xe_ireturn)))
set_option maxRecDepth 100000 in
theorem cl_X9_148 : cv_ RX9 148 yX9_relieve zX9_relieve 9 2 := ⟨gi_V (lwq_6 (dqc_m (dqa_m (dqa_m (dqa_m (List.mem_of_getElem? (i := 3) rfl))))) rfl : Cond.methodLink RX9 148 yX9_relieve ∈ lw_g) (lwq_6 (dqc_m (dqa_m (dqa_m (dqa_m (List.mem_of_getElem? (i := 5) rfl))))) rfl : Cond.instanceMethod yX9_relieve ∈ lw_g) (lw_sel 143 rfl : Cond.selects yX9_relieve.cls yX9_relieve yX9_relieve ∈ lw_g) (lwq_1 (List.mem_of_getElem? (i := 6) rfl) rfl : Cond.initialized yX9_relieve.cls ∈ lw_g) (lwq_6 (dqc_m (dqa_m (dqa_m (dqa_m (List.mem_of_getElem? (i := 6) rfl))))) rfl : Cond.code yX9_relieve cX9_relieve 8 (some .boolean) ∈ lw_g), ⟨nmh_8.1, nmh_8.2, pdq_5⟩, ⟨_, _, rfl⟩⟩
theorem bk_X9_takePartHome_55 : ck_ fX9 (some .boolean) cX9_takePartHome 55 [.ifCond .eq 60, .iconst 1, .ireturn] 60 = true := qck_r (nn_ _) (by decide +kernel)
theorem bs_X9_takePartHome_55 {P : Zt → Option Zv → Prop} (K : Int → Zl → List Zv → Zt → Prop) : sx_ K P [.ifCond .eq 60, .iconst 1, .ireturn] 60 = x_ifCond .eq 60 K (x_iconst 1 (x_ireturn P)) := ((xe_ifCond .eq 60).trans (congrArg (x_ifCond .eq 60 K) ((xe_iconst 1).trans (congrArg (x_iconst 1) (xe_ireturn)))))
theorem bk_X9_takePartHome_60 : ck_ fX9 (some .boolean) cX9_takePartHome 60 [.aload 0, .tableswitch 0 9 12 #[], .iload 2, .dup2, .iaload, .iconst 1, .fsub, .iastore, .aload 0, .tableswitch 0 9 12 #[], .iload 3, .dup2, .iaload, .iconst 1, .fadd, .iastore, .iconst 0, .ireturn] 82 = true := qck_r (nn_ _) (by decide +kernel)
theorem bs_X9_takePartHome_60 {P : Zt → Option Zv → Prop} (K : Int → Zl → List Zv → Zt → Prop) : sx_ K P [.aload 0, .tableswitch 0 9 12 #[], .iload 2, .dup2, .iaload, .iconst 1, .fsub, .iastore, .aload 0, .tableswitch 0 9 12 #[], .iload 3, .dup2, .iaload, .iconst 1, .fadd, .iastore, .iconst 0, .ireturn] 82 = x_aload 0 (x_g1 109 592 (x_iload 2 (x_dup2 (x_iaload (x_iconst 1 (x_fsub (x_iastore (x_aload 0 (x_g1 109 592 (x_iload 3 (x_dup2 (x_iaload (x_iconst 1 (x_fadd (x_iastore (x_iconst 0 (x_ireturn P))))))))))))))))) := ((xe_aload 0).trans (congrArg (x_aload 0) ((xe_g1 (kk := 109) rfl tl_9_12).trans (congrArg (x_g1 109 592) ((xe_iload 2).trans (congrArg (x_iload 2) ((xe_dup2).trans (congrArg (x_dup2) ((xe_iaload).trans (congrArg (x_iaload) ((xe_iconst 1).trans (congrArg (x_iconst 1) ((xe_fsub).trans (congrArg (x_fsub) ((xe_iastore).trans (congrArg (x_iastore) ((xe_aload 0).trans (congrArg (x_aload 0) ((xe_g1 (kk := 109) rfl tl_9_12).trans (congrArg (x_g1 109 592) ((xe_iload 3).trans (congrArg (x_iload 3) ((xe_dup2).trans (congrArg (x_dup2) ((xe_iaload).trans (congrArg (x_iaload) ((xe_iconst 1).trans (congrArg (x_iconst 1) ((xe_fadd).trans (congrArg (x_fadd) ((xe_iastore).trans (congrArg (x_iastore) ((xe_iconst 0).trans (congrArg (x_iconst 0) (xe_ireturn)))))))))))))))))))))))))))))))))))
abbrev po_X9_takePartHome (T : Zt) (k : Int) : Zt → Option Zv → Prop := fun T' r => ∃ x : Int, r = some (vI x) ∧ fr_ [(593, []), (594, []), (592, []), (590, [])] T T' ∧ (0 ≤ x ∧ x ≤ 1)
set_option maxHeartbeats 4000000 in
theorem ct_X9_takePartHome {T : Zt} {k : Int} (hq9 : Q9_ T) (hka : KA_ T) (hk : 0 ≤ k ∧ k < T 109 0 9) : Ct_ yX9_takePartHome zX9_takePartHome T [vR 109 0, vI k] (po_X9_takePartHome T k) := by
  refine ct_of pn_9 rfl rfl (Nat.le_of_ble_eq_true rfl) (fun hT hav => ?_)
  have hr_k : -2147483648 ≤ k ∧ k ≤ 2147483647 := hav (vI k) (List.mem_cons_of_mem _ List.mem_cons_self)
  have hz : zX9_takePartHome.2.2.2.1 = some .boolean → ∀ (T' : Zt) (x : Int), po_X9_takePartHome T k T' (some (vI x)) → 0 ≤ x ∧ x ≤ 1 := fun _ T' x h => by obtain ⟨y, e, -, hy⟩ := h; cases e; omega
  have hbo : 0 ≤ T 109 0 9 ∧ T 109 0 9 ≤ 40 := bd_f hT 109 9 tl_9_9 0
  show J_ zX9_takePartHome T (po_X9_takePartHome T k) 0 0 0 [some (vR 109 0), some (vI k), none, none] [] T
  refine j_blx (F := fX9) tb_X9 (nn_ _) bk_X9_takePartHome_0 bs_X9_takePartHome_0 hz (fun K hK => ?_)
  refine hK 2 _ [vI k, vR 109 0] T ?_
  refine j_callV (y := yX9_homeSeatOf) (Yc := zX9_homeSeatOf) (rest := []) [vI k] (ct_X9_homeSeatOf (T := T) hq9 hka (by omega)) cl_X9_145 (qd_c (by decide +kernel)) (nn_ _) rfl (rf_of rfl) (Nat.le_of_ble_eq_true rfl) (Nat.le_of_ble_eq_true rfl) (Nat.le_of_ble_eq_true rfl) rfl ?_
  rintro _ _ ⟨rfl, x1, rfl, hx1⟩
  show J_ zX9_takePartHome T (po_X9_takePartHome T k) 0 0 5 _ [vI x1] T
  refine j_blx (F := fX9) tb_X9 (nn_ _) bk_X9_takePartHome_5 bs_X9_takePartHome_5 hz (fun K hK => ?_)
  refine hK 8 [some (vR 109 0), some (vI k), some (vI x1), none] [vI k, vR 109 0] T ?_
  refine j_callV (y := yX9_awaySeatOf) (Yc := zX9_awaySeatOf) (rest := []) [vI k] (ct_X9_awaySeatOf (T := T) hq9 hka (by omega)) cl_X9_154 (qd_c (by decide +kernel)) (nn_ _) rfl (rf_of rfl) (Nat.le_of_ble_eq_true rfl) (Nat.le_of_ble_eq_true rfl) (Nat.le_of_ble_eq_true rfl) rfl ?_
  rintro _ _ ⟨rfl, x2, rfl, hx2⟩
  show J_ zX9_takePartHome T (po_X9_takePartHome T k) 0 0 11 _ [vI x2] T
  refine j_blx (F := fX9) tb_X9 (nn_ _) bk_X9_takePartHome_11 bs_X9_takePartHome_11 hz (fun K hK => ?_)
  refine ix_i (by omega) ?_
  intro b3 b3b
  intro w4 w4b
  refine iy_i (by omega) (by omega) ?_
  refine x_nm (fun U5 hU5 => ?_)
  have e6 := up_f hU5
  refine ix_i (by omega) ?_
  intro b7 b7b
  intro w8 w8b
  refine iy_i (by omega) (by omega) ?_
  refine x_nm (fun U9 hU9 => ?_)
  have e10 := up_f hU9
  refine ix_i (by omega) ?_
  intro b11 b11b
  refine ix_i (by omega) ?_
  intro b12 b12b
  have e13 : U9 591 0 x1 = T 591 0 x1 := (up_k hU9 (by exact Nat.ne_of_beq_eq_false rfl) 0 x1).trans (up_k hU5 (by exact Nat.ne_of_beq_eq_false rfl) 0 x1)
  rw [e13] at b12 b12b ⊢
  refine And.intro (fun c14 => ?_) (fun c14 => ?_)
  · refine hK 58 [some (vR 109 0), some (vI k), some (vI x1), some (vI x2)] [] U9 ?_
    refine j_blx (F := fX9) tb_X9 (nn_ _) bk_X9_takePartHome_58 bs_X9_takePartHome_58 hz (fun K hK => ?_)
    refine (show po_X9_takePartHome T k U9 (some (vI 1)) from ?_)
    exact ⟨_, rfl, fr_u (fr_u (fr_0 _ _) hU5 rfl) hU9 rfl, by omega⟩
  · refine rg_i (by omega) ?_
    refine hK 52 _ [vI (k + 1), vI x1, vR 109 0] U9 ?_
    have fq15 : fr_ [(592, [])] T U9 := fr_u (fr_u (fr_0 _ _) hU5 rfl) hU9 rfl
    have e16 : U9 109 0 9 = T 109 0 9 := (up_k hU9 (by exact Nat.ne_of_beq_eq_false rfl) 0 9).trans (up_k hU5 (by exact Nat.ne_of_beq_eq_false rfl) 0 9)
    refine j_callV (y := yX9_relieve) (Yc := zX9_relieve) (rest := []) [vI x1, vI (k + 1)] (ct_X9_relieve (T := U9) (by exact q9_f hq9 fq15 ⟨fun _ _ => rfl, fun _ => rfl, rfl, rfl, rfl, rfl, rfl⟩) (by exact KA__f (ws := [(592, [])]) hka (fr_u (fr_u (fr_0 _ _) hU5 rfl) hU9 rfl) ⟨fun _ => rfl, fun _ => rfl, rfl, rfl, trivial⟩) (by omega) (by omega)) cl_X9_148 (qd_c (by decide +kernel)) (nn_ _) rfl (rf_of rfl) (Nat.le_of_ble_eq_true rfl) (Nat.le_of_ble_eq_true rfl) (Nat.le_of_ble_eq_true rfl) rfl ?_
    rintro U17 _ ⟨x18, rfl, fU17, qU17⟩
    show J_ zX9_takePartHome T (po_X9_takePartHome T k) 0 0 55 _ [vI x18] U17
    refine j_blx (F := fX9) tb_X9 (nn_ _) bk_X9_takePartHome_55 bs_X9_takePartHome_55 hz (fun K hK => ?_)
    refine And.intro (fun c19 => ?_) (fun c19 => ?_)
    · refine hK 60 _ [] U17 ?_
      refine j_blx (F := fX9) tb_X9 (nn_ _) bk_X9_takePartHome_60 bs_X9_takePartHome_60 hz (fun K hK => ?_)
      refine ix_i (by omega) ?_
      intro b20 b20b
      intro w21 w21b
      refine iy_i (by omega) (by omega) ?_
      refine x_nm (fun U22 hU22 => ?_)
      have e23 := up_f hU22
      refine ix_i (by omega) ?_
      intro b24 b24b
      intro w25 w25b
      refine iy_i (by omega) (by omega) ?_
      refine x_nm (fun U26 hU26 => ?_)
      have e27 := up_f hU26
      refine (show po_X9_takePartHome T k U26 (some (vI 0)) from ?_)
      exact ⟨_, rfl, fr_u (fr_u (fr_t (fr_u (fr_u (fr_0 _ _) hU5 rfl) hU9 rfl) (fr_s fU17 rfl)) hU22 rfl) hU26 rfl, by omega⟩
    · refine (show po_X9_takePartHome T k U17 (some (vI 1)) from ?_)
      exact ⟨_, rfl, fr_t (fr_u (fr_u (fr_0 _ _) hU5 rfl) hU9 rfl) (fr_s fU17 rfl), by omega⟩
abbrev cX9_spreadParts : ByteArray := prog_11_method_8_code
def yX9_spreadParts : MethodName := ⟨RX9, "spreadParts", "(I)Z"⟩
def zX9_spreadParts : Zm := (RX9, cX9_spreadParts, 5, (some .boolean), { frames := 4, cells := 0, slots := 0, locals := 96 })
theorem bk_X9_spreadParts_122 : ck_ fX9 (some .boolean) cX9_spreadParts 122 [.iload 3, .iconst 2, .if_icmp .ge 150, .aload 0, .iload 2] 129 = true := qck_r (nn_ _) (by decide +kernel)
theorem bs_X9_spreadParts_122 {P : Zt → Option Zv → Prop} (K : Int → Zl → List Zv → Zt → Prop) : sx_ K P [.iload 3, .iconst 2, .if_icmp .ge 150, .aload 0, .iload 2] 129 = x_iload 3 (x_iconst 2 (x_if_icmp .ge 150 K (x_aload 0 (x_iload 2 (K 129))))) := ((xe_iload 3).trans (congrArg (x_iload 3) ((xe_iconst 2).trans (congrArg (x_iconst 2) ((xe_if_icmp .ge 150).trans (congrArg (x_if_icmp .ge 150 K) ((xe_aload 0).trans (congrArg (x_aload 0) ((xe_iload 2).trans (congrArg (x_iload 2) xe_nil))))))))))
theorem bk_X9_spreadParts_150 : ck_ fX9 (some .boolean) cX9_spreadParts 150 [.aload 0, .tableswitch 0 9 4 #[], .aload 0, .tableswitch 0 9 8 #[], .iload 2, .iaload, .iconst 2, .aload 0, .tableswitch 0 9 10 #[], .iload 2, .iaload, .fsub, .iastore, .iinc 2 1, .goto 107] 175 = true := qck_r (nn_ _) (by decide +kernel)
theorem bs_X9_spreadParts_150 {P : Zt → Option Zv → Prop} (K : Int → Zl → List Zv → Zt → Prop) : sx_ K P [.aload 0, .tableswitch 0 9 4 #[], .aload 0, .tableswitch 0 9 8 #[], .iload 2, .iaload, .iconst 2, .aload 0, .tableswitch 0 9 10 #[], .iload 2, .iaload, .fsub, .iastore, .iinc 2 1, .goto 107] 175 = x_aload 0 (x_g1 109 584 (x_aload 0 (x_g1 109 588 (x_iload 2 (x_iaload (x_iconst 2 (x_aload 0 (x_g1 109 590 (x_iload 2 (x_iaload (x_fsub (x_iastore (x_iinc 2 1 (x_goto 107 K)))))))))))))) := ((xe_aload 0).trans (congrArg (x_aload 0) ((xe_g1 (kk := 109) rfl tl_9_4).trans (congrArg (x_g1 109 584) ((xe_aload 0).trans (congrArg (x_aload 0) ((xe_g1 (kk := 109) rfl tl_9_8).trans (congrArg (x_g1 109 588) ((xe_iload 2).trans (congrArg (x_iload 2) ((xe_iaload).trans (congrArg (x_iaload) ((xe_iconst 2).trans (congrArg (x_iconst 2) ((xe_aload 0).trans (congrArg (x_aload 0) ((xe_g1 (kk := 109) rfl tl_9_10).trans (congrArg (x_g1 109 590) ((xe_iload 2).trans (congrArg (x_iload 2) ((xe_iaload).trans (congrArg (x_iaload) ((xe_fsub).trans (congrArg (x_fsub) ((xe_iastore).trans (congrArg (x_iastore) ((xe_iinc 2 1).trans (congrArg (x_iinc 2 1) (xe_goto 107)))))))))))))))))))))))))))))
set_option maxRecDepth 100000 in
theorem cl_X9_151 : cv_ RX9 151 yX9_takePartHome zX9_takePartHome 9 1 := ⟨gi_V (lwq_6 (dqc_m (dqc_m (dqa_m (List.mem_of_getElem? (i := 3) rfl)))) rfl : Cond.methodLink RX9 151 yX9_takePartHome ∈ lw_g) (lwq_6 (dqc_m (dqc_m (dqa_m (List.mem_of_getElem? (i := 5) rfl)))) rfl : Cond.instanceMethod yX9_takePartHome ∈ lw_g) (lw_sel 148 rfl : Cond.selects yX9_takePartHome.cls yX9_takePartHome yX9_takePartHome ∈ lw_g) (lwq_1 (List.mem_of_getElem? (i := 6) rfl) rfl : Cond.initialized yX9_takePartHome.cls ∈ lw_g) (lwq_6 (dqc_m (dqc_m (dqa_m (List.mem_of_getElem? (i := 6) rfl)))) rfl : Cond.code yX9_takePartHome cX9_takePartHome 4 (some .boolean) ∈ lw_g), ⟨nmh_8.1, nmh_8.2, pdq_7⟩, ⟨_, _, rfl⟩⟩
theorem bk_X9_spreadParts_132 : ck_ fX9 (some .boolean) cX9_spreadParts 132 [.ifCond .eq 150, .aload 0, .tableswitch 0 9 10 #[], .iload 2, .iload 3, .iconst 1, .fadd, .iastore, .iinc 3 1, .goto 122] 150 = true := qck_r (nn_ _) (by decide +kernel)
theorem bs_X9_spreadParts_132 {P : Zt → Option Zv → Prop} (K : Int → Zl → List Zv → Zt → Prop) : sx_ K P [.ifCond .eq 150, .aload 0, .tableswitch 0 9 10 #[], .iload 2, .iload 3, .iconst 1, .fadd, .iastore, .iinc 3 1, .goto 122] 150 = x_ifCond .eq 150 K (x_aload 0 (x_g1 109 590 (x_iload 2 (x_iload 3 (x_iconst 1 (x_fadd (x_iastore (x_iinc 3 1 (x_goto 122 K))))))))) := ((xe_ifCond .eq 150).trans (congrArg (x_ifCond .eq 150 K) ((xe_aload 0).trans (congrArg (x_aload 0) ((xe_g1 (kk := 109) rfl tl_9_10).trans (congrArg (x_g1 109 590) ((xe_iload 2).trans (congrArg (x_iload 2) ((xe_iload 3).trans (congrArg (x_iload 3) ((xe_iconst 1).trans (congrArg (x_iconst 1) ((xe_fadd).trans (congrArg (x_fadd) ((xe_iastore).trans (congrArg (x_iastore) ((xe_iinc 3 1).trans (congrArg (x_iinc 3 1) (xe_goto 122)))))))))))))))))))
theorem bk_X9_spreadParts_107 : ck_ fX9 (some .boolean) cX9_spreadParts 107 [.iload 2, .aload 0, .tableswitch 0 9 9 #[], .if_icmp .ge 175, .aload 0, .tableswitch 0 9 10 #[], .iload 2, .iaload, .istore 3] 122 = true := qck_r (nn_ _) (by decide +kernel)
theorem bs_X9_spreadParts_107 {P : Zt → Option Zv → Prop} (K : Int → Zl → List Zv → Zt → Prop) : sx_ K P [.iload 2, .aload 0, .tableswitch 0 9 9 #[], .if_icmp .ge 175, .aload 0, .tableswitch 0 9 10 #[], .iload 2, .iaload, .istore 3] 122 = x_iload 2 (x_aload 0 (x_g0 109 9 0 40 (x_if_icmp .ge 175 K (x_aload 0 (x_g1 109 590 (x_iload 2 (x_iaload (x_istore 3 (K 122))))))))) := ((xe_iload 2).trans (congrArg (x_iload 2) ((xe_aload 0).trans (congrArg (x_aload 0) ((xe_g0 (kk := 109) rfl tl_9_9).trans (congrArg (x_g0 109 9 0 40) ((xe_if_icmp .ge 175).trans (congrArg (x_if_icmp .ge 175 K) ((xe_aload 0).trans (congrArg (x_aload 0) ((xe_g1 (kk := 109) rfl tl_9_10).trans (congrArg (x_g1 109 590) ((xe_iload 2).trans (congrArg (x_iload 2) ((xe_iaload).trans (congrArg (x_iaload) ((xe_istore 3).trans (congrArg (x_istore 3) xe_nil))))))))))))))))))
theorem bk_X9_spreadParts_175 : ck_ fX9 (some .boolean) cX9_spreadParts 175 [.iconst 1, .ireturn] 177 = true := qck_r (nn_ _) (by decide +kernel)
theorem bs_X9_spreadParts_175 {P : Zt → Option Zv → Prop} (K : Int → Zl → List Zv → Zt → Prop) : sx_ K P [.iconst 1, .ireturn] 177 = x_iconst 1 (x_ireturn P) := ((xe_iconst 1).trans (congrArg (x_iconst 1) (xe_ireturn)))
theorem bk_X9_spreadParts_76 : ck_ fX9 (some .boolean) cX9_spreadParts 76 [.iload 4, .iload 3, .if_icmp .ge 99, .aload 0, .iload 2, .iconst 0] 85 = true := qck_r (nn_ _) (by decide +kernel)
theorem bs_X9_spreadParts_76 {P : Zt → Option Zv → Prop} (K : Int → Zl → List Zv → Zt → Prop) : sx_ K P [.iload 4, .iload 3, .if_icmp .ge 99, .aload 0, .iload 2, .iconst 0] 85 = x_iload 4 (x_iload 3 (x_if_icmp .ge 99 K (x_aload 0 (x_iload 2 (x_iconst 0 (K 85)))))) := ((xe_iload 4).trans (congrArg (x_iload 4) ((xe_iload 3).trans (congrArg (x_iload 3) ((xe_if_icmp .ge 99).trans (congrArg (x_if_icmp .ge 99 K) ((xe_aload 0).trans (congrArg (x_aload 0) ((xe_iload 2).trans (congrArg (x_iload 2) ((xe_iconst 0).trans (congrArg (x_iconst 0) xe_nil))))))))))))
theorem bk_X9_spreadParts_99 : ck_ fX9 (some .boolean) cX9_spreadParts 99 [.iinc 2 1, .goto 39] 105 = true := qck_r (nn_ _) (by decide +kernel)
theorem bs_X9_spreadParts_99 {P : Zt → Option Zv → Prop} (K : Int → Zl → List Zv → Zt → Prop) : sx_ K P [.iinc 2 1, .goto 39] 105 = x_iinc 2 1 (x_goto 39 K) := ((xe_iinc 2 1).trans (congrArg (x_iinc 2 1) (xe_goto 39)))
theorem bk_X9_spreadParts_88 : ck_ fX9 (some .boolean) cX9_spreadParts 88 [.ifCond .ne 93, .iconst 0, .ireturn] 93 = true := qck_r (nn_ _) (by decide +kernel)
theorem bs_X9_spreadParts_88 {P : Zt → Option Zv → Prop} (K : Int → Zl → List Zv → Zt → Prop) : sx_ K P [.ifCond .ne 93, .iconst 0, .ireturn] 93 = x_ifCond .ne 93 K (x_iconst 0 (x_ireturn P)) := ((xe_ifCond .ne 93).trans (congrArg (x_ifCond .ne 93 K) ((xe_iconst 0).trans (congrArg (x_iconst 0) (xe_ireturn)))))
theorem bk_X9_spreadParts_93 : ck_ fX9 (some .boolean) cX9_spreadParts 93 [.iinc 4 1, .goto 76] 99 = true := qck_r (nn_ _) (by decide +kernel)
theorem bs_X9_spreadParts_93 {P : Zt → Option Zv → Prop} (K : Int → Zl → List Zv → Zt → Prop) : sx_ K P [.iinc 4 1, .goto 76] 99 = x_iinc 4 1 (x_goto 76 K) := ((xe_iinc 4 1).trans (congrArg (x_iinc 4 1) (xe_goto 76)))
theorem bk_X9_spreadParts_39 : ck_ fX9 (some .boolean) cX9_spreadParts 39 [.iload 2, .aload 0, .tableswitch 0 9 5 #[], .tableswitch 0 0 5 #[], .if_icmp .ge 105, .iload 2, .iload 1, .if_icmp .ne 59, .iconst 0, .goto 72] 59 = true := qck_r (nn_ _) (by decide +kernel)
theorem bs_X9_spreadParts_39 {P : Zt → Option Zv → Prop} (K : Int → Zl → List Zv → Zt → Prop) : sx_ K P [.iload 2, .aload 0, .tableswitch 0 9 5 #[], .tableswitch 0 0 5 #[], .if_icmp .ge 105, .iload 2, .iload 1, .if_icmp .ne 59, .iconst 0, .goto 72] 59 = x_iload 2 (x_aload 0 (x_g5 109 100 5 (x_g0 100 5 0 12 (x_if_icmp .ge 105 K (x_iload 2 (x_iload 1 (x_if_icmp .ne 59 K (x_iconst 0 (x_goto 72 K))))))))) := ((xe_iload 2).trans (congrArg (x_iload 2) ((xe_aload 0).trans (congrArg (x_aload 0) ((xe_g5 (kk := 109) rfl tl_9_5).trans (congrArg (x_g5 109 100 5) ((xe_g0 (kk := 100) rfl tl_0_5).trans (congrArg (x_g0 100 5 0 12) ((xe_if_icmp .ge 105).trans (congrArg (x_if_icmp .ge 105 K) ((xe_iload 2).trans (congrArg (x_iload 2) ((xe_iload 1).trans (congrArg (x_iload 1) ((xe_if_icmp .ne 59).trans (congrArg (x_if_icmp .ne 59 K) ((xe_iconst 0).trans (congrArg (x_iconst 0) (xe_goto 72)))))))))))))))))))
theorem bk_X9_spreadParts_105 : ck_ fX9 (some .boolean) cX9_spreadParts 105 [.iconst 0, .istore 2] 107 = true := qck_r (nn_ _) (by decide +kernel)
theorem bs_X9_spreadParts_105 {P : Zt → Option Zv → Prop} (K : Int → Zl → List Zv → Zt → Prop) : sx_ K P [.iconst 0, .istore 2] 107 = x_iconst 0 (x_istore 2 (K 107)) := ((xe_iconst 0).trans (congrArg (x_iconst 0) ((xe_istore 2).trans (congrArg (x_istore 2) xe_nil))))
theorem bk_X9_spreadParts_59 : ck_ fX9 (some .boolean) cX9_spreadParts 59 [.aload 0, .tableswitch 0 9 12 #[], .iload 2, .iaload, .aload 0, .tableswitch 0 9 11 #[], .iload 2, .iaload, .fsub, .istore 3, .iconst 0, .istore 4] 76 = true := qck_r (nn_ _) (by decide +kernel)
theorem bs_X9_spreadParts_59 {P : Zt → Option Zv → Prop} (K : Int → Zl → List Zv → Zt → Prop) : sx_ K P [.aload 0, .tableswitch 0 9 12 #[], .iload 2, .iaload, .aload 0, .tableswitch 0 9 11 #[], .iload 2, .iaload, .fsub, .istore 3, .iconst 0, .istore 4] 76 = x_aload 0 (x_g1 109 592 (x_iload 2 (x_iaload (x_aload 0 (x_g1 109 591 (x_iload 2 (x_iaload (x_fsub (x_istore 3 (x_iconst 0 (x_istore 4 (K 76)))))))))))) := ((xe_aload 0).trans (congrArg (x_aload 0) ((xe_g1 (kk := 109) rfl tl_9_12).trans (congrArg (x_g1 109 592) ((xe_iload 2).trans (congrArg (x_iload 2) ((xe_iaload).trans (congrArg (x_iaload) ((xe_aload 0).trans (congrArg (x_aload 0) ((xe_g1 (kk := 109) rfl tl_9_11).trans (congrArg (x_g1 109 591) ((xe_iload 2).trans (congrArg (x_iload 2) ((xe_iaload).trans (congrArg (x_iaload) ((xe_fsub).trans (congrArg (x_fsub) ((xe_istore 3).trans (congrArg (x_istore 3) ((xe_iconst 0).trans (congrArg (x_iconst 0) ((xe_istore 4).trans (congrArg (x_istore 4) xe_nil))))))))))))))))))))))))
theorem bk_X9_spreadParts_72 : ck_ fX9 (some .boolean) cX9_spreadParts 72 [.istore 3, .iconst 0, .istore 4] 76 = true := qck_r (nn_ _) (by decide +kernel)
theorem bs_X9_spreadParts_72 {P : Zt → Option Zv → Prop} (K : Int → Zl → List Zv → Zt → Prop) : sx_ K P [.istore 3, .iconst 0, .istore 4] 76 = x_istore 3 (x_iconst 0 (x_istore 4 (K 76))) := ((xe_istore 3).trans (congrArg (x_istore 3) ((xe_iconst 0).trans (congrArg (x_iconst 0) ((xe_istore 4).trans (congrArg (x_istore 4) xe_nil))))))
theorem bk_X9_spreadParts_2 : ck_ fX9 (some .boolean) cX9_spreadParts 2 [.iload 2, .aload 0, .tableswitch 0 9 9 #[], .if_icmp .ge 37, .aload 0, .tableswitch 0 9 10 #[], .iload 2, .iconst 2, .iastore, .aload 0, .tableswitch 0 9 12 #[], .aload 0, .iload 2] 23 = true := qck_r (nn_ _) (by decide +kernel)
theorem bs_X9_spreadParts_2 {P : Zt → Option Zv → Prop} (K : Int → Zl → List Zv → Zt → Prop) : sx_ K P [.iload 2, .aload 0, .tableswitch 0 9 9 #[], .if_icmp .ge 37, .aload 0, .tableswitch 0 9 10 #[], .iload 2, .iconst 2, .iastore, .aload 0, .tableswitch 0 9 12 #[], .aload 0, .iload 2] 23 = x_iload 2 (x_aload 0 (x_g0 109 9 0 40 (x_if_icmp .ge 37 K (x_aload 0 (x_g1 109 590 (x_iload 2 (x_iconst 2 (x_iastore (x_aload 0 (x_g1 109 592 (x_aload 0 (x_iload 2 (K 23))))))))))))) := ((xe_iload 2).trans (congrArg (x_iload 2) ((xe_aload 0).trans (congrArg (x_aload 0) ((xe_g0 (kk := 109) rfl tl_9_9).trans (congrArg (x_g0 109 9 0 40) ((xe_if_icmp .ge 37).trans (congrArg (x_if_icmp .ge 37 K) ((xe_aload 0).trans (congrArg (x_aload 0) ((xe_g1 (kk := 109) rfl tl_9_10).trans (congrArg (x_g1 109 590) ((xe_iload 2).trans (congrArg (x_iload 2) ((xe_iconst 2).trans (congrArg (x_iconst 2) ((xe_iastore).trans (congrArg (x_iastore) ((xe_aload 0).trans (congrArg (x_aload 0) ((xe_g1 (kk := 109) rfl tl_9_12).trans (congrArg (x_g1 109 592) ((xe_aload 0).trans (congrArg (x_aload 0) ((xe_iload 2).trans (congrArg (x_iload 2) xe_nil))))))))))))))))))))))))))
theorem bk_X9_spreadParts_37 : ck_ fX9 (some .boolean) cX9_spreadParts 37 [.iconst 0, .istore 2] 39 = true := qck_r (nn_ _) (by decide +kernel)
theorem bs_X9_spreadParts_37 {P : Zt → Option Zv → Prop} (K : Int → Zl → List Zv → Zt → Prop) : sx_ K P [.iconst 0, .istore 2] 39 = x_iconst 0 (x_istore 2 (K 39)) := ((xe_iconst 0).trans (congrArg (x_iconst 0) ((xe_istore 2).trans (congrArg (x_istore 2) xe_nil))))
theorem bk_X9_spreadParts_26 : ck_ fX9 (some .boolean) cX9_spreadParts 26 [.dup2, .iaload, .iconst 2, .fadd, .iastore, .iinc 2 1, .goto 2] 37 = true := qck_r (nn_ _) (by decide +kernel)
theorem bs_X9_spreadParts_26 {P : Zt → Option Zv → Prop} (K : Int → Zl → List Zv → Zt → Prop) : sx_ K P [.dup2, .iaload, .iconst 2, .fadd, .iastore, .iinc 2 1, .goto 2] 37 = x_dup2 (x_iaload (x_iconst 2 (x_fadd (x_iastore (x_iinc 2 1 (x_goto 2 K)))))) := ((xe_dup2).trans (congrArg (x_dup2) ((xe_iaload).trans (congrArg (x_iaload) ((xe_iconst 2).trans (congrArg (x_iconst 2) ((xe_fadd).trans (congrArg (x_fadd) ((xe_iastore).trans (congrArg (x_iastore) ((xe_iinc 2 1).trans (congrArg (x_iinc 2 1) (xe_goto 2)))))))))))))
theorem bk_X9_spreadParts_0 : ck_ fX9 (some .boolean) cX9_spreadParts 0 [.iconst 0, .istore 2] 2 = true := qck_r (nn_ _) (by decide +kernel)
theorem bs_X9_spreadParts_0 {P : Zt → Option Zv → Prop} (K : Int → Zl → List Zv → Zt → Prop) : sx_ K P [.iconst 0, .istore 2] 2 = x_iconst 0 (x_istore 2 (K 2)) := ((xe_iconst 0).trans (congrArg (x_iconst 0) ((xe_istore 2).trans (congrArg (x_istore 2) xe_nil))))
abbrev po_X9_spreadParts (T : Zt) (s : Int) : Zt → Option Zv → Prop := fun T' r => ∃ x : Int, r = some (vI x) ∧ fr_ [(593, []), (594, []), (592, []), (590, []), (584, [])] T T' ∧ (0 ≤ x ∧ x ≤ 1)
set_option maxHeartbeats 4000000 in
theorem ct_X9_spreadParts {T : Zt} {s : Int} (hq9 : Q9_ T) (hka : KA_ T) (hs : 0 ≤ s ∧ s < 12) : Ct_ yX9_spreadParts zX9_spreadParts T [vR 109 0, vI s] (po_X9_spreadParts T s) := by
  refine ct_of pn_9 rfl rfl (Nat.le_of_ble_eq_true rfl) (fun hT hav => ?_)
  have hr_s : -2147483648 ≤ s ∧ s ≤ 2147483647 := hav (vI s) (List.mem_cons_of_mem _ List.mem_cons_self)
  have hz : zX9_spreadParts.2.2.2.1 = some .boolean → ∀ (T' : Zt) (x : Int), po_X9_spreadParts T s T' (some (vI x)) → 0 ≤ x ∧ x ≤ 1 := fun _ T' x h => by obtain ⟨y, e, -, hy⟩ := h; cases e; omega
  have hbo : 0 ≤ T 109 0 9 ∧ T 109 0 9 ≤ 40 := bd_f hT 109 9 tl_9_9 0
  have hct := hq9.1
  show J_ zX9_spreadParts T (po_X9_spreadParts T s) 0 0 0 [some (vR 109 0), some (vI s), none, none, none] [] T
  have c_107 : ∀ (nn : Nat) (k : Int) (T4 : Zt), ((40 - k).toNat) ≤ nn → (fr_ [(593, []), (594, []), (592, []), (590, []), (584, [])] T T4) → (0 ≤ k ∧ k ≤ 40) → J_ zX9_spreadParts T (po_X9_spreadParts T s) 0 0 107 [some (vR 109 0), some (vI s), some (vI k), none, none] [] T4 := by
    intro nn
    induction nn using Nat.strongRecOn with
    | _ nn ih_107 =>
      intro k T4 hm_107 hf_107 i4
      replace hm_107 := fun (_ : Unit) => hm_107
      have c_122 : ∀ (nn : Nat) (n : Int) (T5 : Zt), ((2 - n).toNat) ≤ nn → (fr_ [(593, []), (594, []), (592, []), (590, []), (584, [])] T T5) → (k < T 109 0 9 ∧ -2147483648 ≤ n ∧ n ≤ 2147483647) → J_ zX9_spreadParts T (po_X9_spreadParts T s) 0 0 122 [some (vR 109 0), some (vI s), some (vI k), some (vI n), none] [] T5 := by
        intro nn
        induction nn using Nat.strongRecOn with
        | _ nn ih_122 =>
          intro n T5 hm_122 hf_122 i5
          replace hm_122 := fun (_ : Unit) => hm_122
          refine j_blx (F := fX9) tb_X9 (nn_ _) bk_X9_spreadParts_122 bs_X9_spreadParts_122 hz (fun K hK => ?_)
          refine And.intro (fun c1 => ?_) (fun c1 => ?_)
          · refine hK 150 _ [] T5 ?_
            refine j_blx (F := fX9) tb_X9 (nn_ _) bk_X9_spreadParts_150 bs_X9_spreadParts_150 hz (fun K hK => ?_)
            refine ix_i (by omega) ?_
            intro b2 b2b
            have e3 : T5 588 0 k = T 588 0 k := hf_122 588 0 k rfl
            rw [e3] at b2 b2b ⊢
            refine ix_i (by omega) ?_
            intro b4 b4b
            intro w5 w5b
            refine iy_i (by omega) (by omega) ?_
            refine x_nm (fun U6 hU6 => ?_)
            have e7 := up_f hU6
            refine rg_i (by omega) ?_
            refine hK 107 [some (vR 109 0), some (vI s), some (vI (k + 1)), some (vI n), none] [] U6 ?_
            refine j_drop [some (vR 109 0), some (vI s), some (vI (k + 1)), none, none] (fun k v hk => ?_) rfl ?_
            · match k, hk with
              | 0, hk => exact hk
              | 1, hk => exact hk
              | 2, hk => exact hk
              | 3, hk => cases hk
              | 4, hk => cases hk
              | k + 5, hk => cases hk
            refine ih_107 _ ?_ (k + 1) U6 (Nat.le_refl _) ?_ ?_
            · have hm_107 := hm_107 (); omega
            · exact fr_u (fr_t (fr_0 _ _) (fr_s hf_122 rfl)) hU6 rfl
            · omega
          · refine hK 129 [some (vR 109 0), some (vI s), some (vI k), some (vI n), none] [vI k, vR 109 0] T5 ?_
            have e8 : T5 109 0 9 = T 109 0 9 := hf_122 109 0 9 rfl
            have fq9 : fr_ [(593, []), (594, []), (592, []), (590, []), (584, [])] T T5 := fr_t (fr_0 _ _) (fr_s hf_122 rfl)
            have e10 : T5 109 0 9 = T 109 0 9 := hf_122 109 0 9 rfl
            refine j_callV (y := yX9_takePartHome) (Yc := zX9_takePartHome) (rest := []) [vI k] (ct_X9_takePartHome (T := T5) (by exact q9_f hq9 fq9 ⟨fun _ _ => rfl, fun _ => rfl, rfl, rfl, rfl, rfl, rfl⟩) (by exact KA__f (ws := [(593, []), (594, []), (592, []), (590, []), (584, [])]) hka (fr_t (fr_0 _ _) (fr_s hf_122 rfl)) ⟨fun _ => rfl, fun _ => rfl, rfl, rfl, trivial⟩) (by omega)) cl_X9_151 (qd_c (by decide +kernel)) (nn_ _) rfl (rf_of rfl) (Nat.le_of_ble_eq_true rfl) (Nat.le_of_ble_eq_true rfl) (Nat.le_of_ble_eq_true rfl) rfl ?_
            rintro U11 _ ⟨x12, rfl, fU11, qU11⟩
            show J_ zX9_spreadParts T (po_X9_spreadParts T s) 0 0 132 _ [vI x12] U11
            refine j_blx (F := fX9) tb_X9 (nn_ _) bk_X9_spreadParts_132 bs_X9_spreadParts_132 hz (fun K hK => ?_)
            refine And.intro (fun c13 => ?_) (fun c13 => ?_)
            · refine hK 150 _ [] U11 ?_
              refine j_blx (F := fX9) tb_X9 (nn_ _) bk_X9_spreadParts_150 bs_X9_spreadParts_150 hz (fun K hK => ?_)
              refine ix_i (by omega) ?_
              intro b14 b14b
              have e15 : U11 588 0 k = T 588 0 k := (fU11 588 0 k rfl).trans (hf_122 588 0 k rfl)
              rw [e15] at b14 b14b ⊢
              refine ix_i (by omega) ?_
              intro b16 b16b
              intro w17 w17b
              refine iy_i (by omega) (by omega) ?_
              refine x_nm (fun U18 hU18 => ?_)
              have e19 := up_f hU18
              refine rg_i (by omega) ?_
              refine hK 107 [some (vR 109 0), some (vI s), some (vI (k + 1)), some (vI n), none] [] U18 ?_
              refine j_drop [some (vR 109 0), some (vI s), some (vI (k + 1)), none, none] (fun k v hk => ?_) rfl ?_
              · match k, hk with
                | 0, hk => exact hk
                | 1, hk => exact hk
                | 2, hk => exact hk
                | 3, hk => cases hk
                | 4, hk => cases hk
                | k + 5, hk => cases hk
              refine ih_107 _ ?_ (k + 1) U18 (Nat.le_refl _) ?_ ?_
              · have hm_107 := hm_107 (); omega
              · exact fr_u (fr_t (fr_t (fr_0 _ _) (fr_s hf_122 rfl)) (fr_s fU11 rfl)) hU18 rfl
              · omega
            · intro w20 w20b
              refine iy_i (by omega) (by omega) ?_
              refine x_nm (fun U21 hU21 => ?_)
              have e22 := up_f hU21
              refine rg_i (by omega) ?_
              refine hK 122 [some (vR 109 0), some (vI s), some (vI k), some (vI (n + 1)), none] [] U21 ?_
              refine ih_122 _ ?_ (n + 1) U21 (Nat.le_refl _) ?_ ?_
              · have hm_122 := hm_122 (); omega
              · exact fr_u (fr_t (fr_t (fr_0 _ _) (fr_s hf_122 rfl)) (fr_s fU11 rfl)) hU21 rfl
              · omega
      refine j_blx (F := fX9) tb_X9 (nn_ _) bk_X9_spreadParts_107 bs_X9_spreadParts_107 hz (fun K hK => ?_)
      intro b23 b23b
      have e24 : T4 109 0 9 = T 109 0 9 := hf_107 109 0 9 rfl
      rw [e24] at b23 b23b ⊢
      refine And.intro (fun c25 => ?_) (fun c25 => ?_)
      · refine hK 175 _ [] T4 ?_
        refine j_blx (F := fX9) tb_X9 (nn_ _) bk_X9_spreadParts_175 bs_X9_spreadParts_175 hz (fun K hK => ?_)
        refine (show po_X9_spreadParts T s T4 (some (vI 1)) from ?_)
        exact ⟨_, rfl, fr_t (fr_0 _ _) (fr_s hf_107 rfl), by omega⟩
      · refine ix_i (by omega) ?_
        intro b26 b26b
        refine hK 122 [some (vR 109 0), some (vI s), some (vI k), some (vI (T4 590 0 k)), none] [] T4 ?_
        refine c_122 _ (T4 590 0 k) T4 (Nat.le_refl _) ?_ ?_
        · exact fr_t (fr_0 _ _) (fr_s hf_107 rfl)
        · omega
  have c_39 : ∀ (nn : Nat) (i : Int) (T2 : Zt), ((12 - i).toNat) ≤ nn → (fr_ [(593, []), (594, []), (592, []), (590, [])] T T2) → (0 ≤ i ∧ i ≤ 12) → J_ zX9_spreadParts T (po_X9_spreadParts T s) 0 0 39 [some (vR 109 0), some (vI s), some (vI i), none, none] [] T2 := by
    intro nn
    induction nn using Nat.strongRecOn with
    | _ nn ih_39 =>
      intro i T2 hm_39 hf_39 i2
      replace hm_39 := fun (_ : Unit) => hm_39
      have c_76 : ∀ (nn : Nat) (ov : Int) (n : Int) (T3 : Zt), ((ov - n).toNat) ≤ nn → (fr_ [(593, []), (594, []), (592, []), (590, [])] T T3) → (i < 12 ∧ 0 ≤ n ∧ ov ≤ 2147483647) → J_ zX9_spreadParts T (po_X9_spreadParts T s) 0 0 76 [some (vR 109 0), some (vI s), some (vI i), some (vI ov), some (vI n)] [] T3 := by
        intro nn
        induction nn using Nat.strongRecOn with
        | _ nn ih_76 =>
          intro ov n T3 hm_76 hf_76 i3
          replace hm_76 := fun (_ : Unit) => hm_76
          refine j_blx (F := fX9) tb_X9 (nn_ _) bk_X9_spreadParts_76 bs_X9_spreadParts_76 hz (fun K hK => ?_)
          refine And.intro (fun c27 => ?_) (fun c27 => ?_)
          · refine hK 99 _ [] T3 ?_
            refine j_blx (F := fX9) tb_X9 (nn_ _) bk_X9_spreadParts_99 bs_X9_spreadParts_99 hz (fun K hK => ?_)
            refine rg_i (by omega) ?_
            refine hK 39 [some (vR 109 0), some (vI s), some (vI (i + 1)), some (vI ov), some (vI n)] [] T3 ?_
            refine j_drop [some (vR 109 0), some (vI s), some (vI (i + 1)), none, none] (fun k v hk => ?_) rfl ?_
            · match k, hk with
              | 0, hk => exact hk
              | 1, hk => exact hk
              | 2, hk => exact hk
              | 3, hk => cases hk
              | 4, hk => cases hk
              | k + 5, hk => cases hk
            refine ih_39 _ ?_ (i + 1) T3 (Nat.le_refl _) ?_ ?_
            · have hm_39 := hm_39 (); omega
            · exact fr_t (fr_0 _ _) (fr_s hf_76 rfl)
            · omega
          · refine hK 85 [some (vR 109 0), some (vI s), some (vI i), some (vI ov), some (vI n)] [vI 0, vI i, vR 109 0] T3 ?_
            have fq28 : fr_ [(593, []), (594, []), (592, []), (590, [])] T T3 := fr_t (fr_0 _ _) (fr_s hf_76 rfl)
            have e29 : T3 109 0 9 = T 109 0 9 := hf_76 109 0 9 rfl
            refine j_callV (y := yX9_relieve) (Yc := zX9_relieve) (rest := []) [vI i, vI 0] (ct_X9_relieve (T := T3) (by exact q9_f hq9 fq28 ⟨fun _ _ => rfl, fun _ => rfl, rfl, rfl, rfl, rfl, rfl⟩) (by exact KA__f (ws := [(593, []), (594, []), (592, []), (590, [])]) hka (fr_t (fr_0 _ _) (fr_s hf_76 rfl)) ⟨fun _ => rfl, fun _ => rfl, rfl, rfl, trivial⟩) (by omega) (by omega)) cl_X9_148 (qd_c (by decide +kernel)) (nn_ _) rfl (rf_of rfl) (Nat.le_of_ble_eq_true rfl) (Nat.le_of_ble_eq_true rfl) (Nat.le_of_ble_eq_true rfl) rfl ?_
            rintro U30 _ ⟨x31, rfl, fU30, qU30⟩
            show J_ zX9_spreadParts T (po_X9_spreadParts T s) 0 0 88 _ [vI x31] U30
            refine j_blx (F := fX9) tb_X9 (nn_ _) bk_X9_spreadParts_88 bs_X9_spreadParts_88 hz (fun K hK => ?_)
            refine And.intro (fun c32 => ?_) (fun c32 => ?_)
            · refine hK 93 _ [] U30 ?_
              refine j_blx (F := fX9) tb_X9 (nn_ _) bk_X9_spreadParts_93 bs_X9_spreadParts_93 hz (fun K hK => ?_)
              refine rg_i (by omega) ?_
              refine hK 76 [some (vR 109 0), some (vI s), some (vI i), some (vI ov), some (vI (n + 1))] [] U30 ?_
              refine ih_76 _ ?_ ov (n + 1) U30 (Nat.le_refl _) ?_ ?_
              · have hm_76 := hm_76 (); omega
              · exact fr_t (fr_t (fr_0 _ _) (fr_s hf_76 rfl)) (fr_s fU30 rfl)
              · omega
            · refine (show po_X9_spreadParts T s U30 (some (vI 0)) from ?_)
              exact ⟨_, rfl, fr_t (fr_t (fr_0 _ _) (fr_s hf_76 rfl)) (fr_s fU30 rfl), by omega⟩
      refine j_blx (F := fX9) tb_X9 (nn_ _) bk_X9_spreadParts_39 bs_X9_spreadParts_39 hz (fun K hK => ?_)
      have e34 : T2 109 0 5 = T 109 0 5 := hf_39 109 0 5 rfl
      refine And.intro (fun c33 => ?_) (fun c33 => ?_)
      · exact absurd c33 (by omega)
      · intro b35 b35b
        have e36 : T2 100 (T2 109 0 5 - 1) 5 = T 100 (T2 109 0 5 - 1) 5 := hf_39 100 (T2 109 0 5 - 1) 5 rfl
        rw [e36] at b35 b35b ⊢
        refine And.intro (fun c37 => ?_) (fun c37 => ?_)
        · refine hK 105 _ [] T2 ?_
          refine j_blx (F := fX9) tb_X9 (nn_ _) bk_X9_spreadParts_105 bs_X9_spreadParts_105 hz (fun K hK => ?_)
          refine hK 107 [some (vR 109 0), some (vI s), some (vI 0), none, none] [] T2 ?_
          refine c_107 _ 0 T2 (Nat.le_refl _) ?_ ?_
          · exact fr_t (fr_0 _ _) (fr_s hf_39 rfl)
          · omega
        · refine And.intro (fun c38 => ?_) (fun c38 => ?_)
          · refine hK 59 [some (vR 109 0), some (vI s), some (vI i), none, none] [] T2 ?_
            refine j_blx (F := fX9) tb_X9 (nn_ _) bk_X9_spreadParts_59 bs_X9_spreadParts_59 hz (fun K hK => ?_)
            refine ix_i (by omega) ?_
            intro b39 b39b
            refine ix_i (by omega) ?_
            intro b40 b40b
            have e41 : T2 591 0 i = T 591 0 i := hf_39 591 0 i rfl
            rw [e41] at b40 b40b ⊢
            intro w42 w42b
            refine hK 76 [some (vR 109 0), some (vI s), some (vI i), some (vI (wr_ ((T2 592 0 i) - (T 591 0 i)))), some (vI 0)] [] T2 ?_
            refine c_76 _ (wr_ ((T2 592 0 i) - (T 591 0 i))) 0 T2 (Nat.le_refl _) ?_ ?_
            · exact fr_t (fr_0 _ _) (fr_s hf_39 rfl)
            · omega
          · refine hK 72 [some (vR 109 0), some (vI s), some (vI i), none, none] [vI 0] T2 ?_
            refine j_blx (F := fX9) tb_X9 (nn_ _) bk_X9_spreadParts_72 bs_X9_spreadParts_72 hz (fun K hK => ?_)
            refine hK 76 [some (vR 109 0), some (vI s), some (vI i), some (vI 0), some (vI 0)] [] T2 ?_
            refine c_76 _ 0 0 T2 (Nat.le_refl _) ?_ ?_
            · exact fr_t (fr_0 _ _) (fr_s hf_39 rfl)
            · omega
  have c_2 : ∀ (nn : Nat) (k : Int) (T1 : Zt), ((40 - k).toNat) ≤ nn → (fr_ [(593, []), (594, []), (592, []), (590, [])] T T1) → (0 ≤ k ∧ k ≤ 40) → J_ zX9_spreadParts T (po_X9_spreadParts T s) 0 0 2 [some (vR 109 0), some (vI s), some (vI k), none, none] [] T1 := by
    intro nn
    induction nn using Nat.strongRecOn with
    | _ nn ih_2 =>
      intro k T1 hm_2 hf_2 i1
      replace hm_2 := fun (_ : Unit) => hm_2
      refine j_blx (F := fX9) tb_X9 (nn_ _) bk_X9_spreadParts_2 bs_X9_spreadParts_2 hz (fun K hK => ?_)
      intro b43 b43b
      have e44 : T1 109 0 9 = T 109 0 9 := hf_2 109 0 9 rfl
      rw [e44] at b43 b43b ⊢
      refine And.intro (fun c45 => ?_) (fun c45 => ?_)
      · refine hK 37 _ [] T1 ?_
        refine j_blx (F := fX9) tb_X9 (nn_ _) bk_X9_spreadParts_37 bs_X9_spreadParts_37 hz (fun K hK => ?_)
        refine hK 39 [some (vR 109 0), some (vI s), some (vI 0), none, none] [] T1 ?_
        refine c_39 _ 0 T1 (Nat.le_refl _) ?_ ?_
        · exact fr_t (fr_0 _ _) (fr_s hf_2 rfl)
        · omega
      · refine iy_i (by omega) (by omega) ?_
        refine x_nm (fun U46 hU46 => ?_)
        have e47 := up_f hU46
        refine hK 23 [some (vR 109 0), some (vI s), some (vI k), none, none] [vI k, vR 109 0, vR 592 0] U46 ?_
        have fq48 : fr_ [(590, []), (593, []), (594, []), (592, [])] T U46 := fr_u (fr_t (fr_0 _ _) (fr_s hf_2 rfl)) hU46 rfl
        have e49 : U46 109 0 9 = T 109 0 9 := (up_k hU46 (by exact Nat.ne_of_beq_eq_false rfl) 0 9).trans (hf_2 109 0 9 rfl)
        refine j_callV (y := yX9_homeSeatOf) (Yc := zX9_homeSeatOf) (rest := [vR 592 0]) [vI k] (ct_X9_homeSeatOf (T := U46) (q9_f hq9 fq48 ⟨fun _ _ => rfl, fun _ => rfl, rfl, rfl, rfl, rfl, rfl⟩) (KA__f (ws := [(590, []), (593, []), (594, []), (592, [])]) hka (fr_u (fr_t (fr_0 _ _) (fr_s hf_2 rfl)) hU46 rfl) ⟨fun _ => rfl, fun _ => rfl, rfl, rfl, trivial⟩) (by omega)) cl_X9_145 (qd_c (by decide +kernel)) (nn_ _) rfl (rf_of rfl) (Nat.le_of_ble_eq_true rfl) (Nat.le_of_ble_eq_true rfl) (Nat.le_of_ble_eq_true rfl) rfl ?_
        rintro _ _ ⟨rfl, x50, rfl, hx50⟩
        have e51 : hsx_ U46 k = hsx_ T k := hsx_e fq48 ⟨fun _ _ => rfl, fun _ => rfl, rfl, rfl, rfl, rfl, rfl⟩ _
        show J_ zX9_spreadParts T (po_X9_spreadParts T s) 0 0 26 _ [vI x50, vR 592 0] U46
        refine j_blx (F := fX9) tb_X9 (nn_ _) bk_X9_spreadParts_26 bs_X9_spreadParts_26 hz (fun K hK => ?_)
        refine ix_i (by omega) ?_
        intro b52 b52b
        have e53 : U46 592 0 x50 = T1 592 0 x50 := up_k hU46 (by exact Nat.ne_of_beq_eq_false rfl) 0 x50
        rw [e53] at b52 b52b ⊢
        intro w54 w54b
        refine iy_i (by omega) (by omega) ?_
        refine x_nm (fun U55 hU55 => ?_)
        have e56 := up_f hU55
        refine rg_i (by omega) ?_
        refine hK 2 [some (vR 109 0), some (vI s), some (vI (k + 1)), none, none] [] U55 ?_
        refine ih_2 _ ?_ (k + 1) U55 (Nat.le_refl _) ?_ ?_
        · have hm_2 := hm_2 (); omega
        · exact fr_u (fr_u (fr_t (fr_0 _ _) (fr_s hf_2 rfl)) hU46 rfl) hU55 rfl
        · omega
  refine j_blx (F := fX9) tb_X9 (nn_ _) bk_X9_spreadParts_0 bs_X9_spreadParts_0 hz (fun K hK => ?_)
  refine hK 2 [some (vR 109 0), some (vI s), some (vI 0), none, none] [] T ?_
  refine c_2 _ 0 T (Nat.le_refl _) ?_ ?_
  · exact fr_0 _ _
  · omega
