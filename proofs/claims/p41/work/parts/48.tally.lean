abbrev po_J7_fill_542 (T : Zt) (p : Int) (v : Int) : Zt → Option Zv → Prop := fun T' r => r = none ∧ fr_ [(542, [])] T T' ∧ oi_ T T' p ∧ ∀ j, 0 ≤ j → j < 96 → T' 542 p j = v
set_option maxHeartbeats 4000000 in
theorem ct_J7_fill_542 {T : Zt} {p : Int} {v : Int} (h1 : (-2147483648) ≤ v ∧ v ≤ 2147483647) : Ct_ yJ7_fill_53178 zJ7_fill_53178 T [vR 542 p, vI v] (po_J7_fill_542 T p v) := by
  refine ct_of (by decide) rfl rfl (Nat.le_of_ble_eq_true rfl) (fun hT hav => ?_)
  have hr_v : -2147483648 ≤ v ∧ v ≤ 2147483647 := hav (vI v) (by simp)
  have hz : zJ7_fill_53178.2.2.2.1 = some .boolean → ∀ (T' : Zt) (x : Int), po_J7_fill_542 T p v T' (some (vI x)) → 0 ≤ x ∧ x ≤ 1 := fun h => by cases h
  show J_ zJ7_fill_53178 T (po_J7_fill_542 T p v) 0 0 0 [some (vR 542 p), some (vI v), none, none] [] T
  have c_5 : ∀ (nn : Nat) (j : Int) (T1 : Zt), ((96 - j).toNat) ≤ nn → (fr_ [(542, [])] T T1) → (0 ≤ j ∧ j ≤ 96) → (oi_ T T1 p) → (∀ q, 0 ≤ q → q < j → T1 542 p q = v) → J_ zJ7_fill_53178 T (po_J7_fill_542 T p v) 0 0 5 [some (vR 542 p), some (vI v), some (vI j), some (vI 96)] [] T1 := by
    intro nn
    induction nn using Nat.strongRecOn with
    | _ nn ih_5 =>
      intro j T1 hm_5 hf_5 i1 o1 f1
      refine j_blx (F := fJ7) tb_J7 (by decide) bk_J7_fill_53178_5 bs_J7_fill_53178_5 hz (fun K hK => ?_)
      refine And.intro (fun c1 => ?_) (fun c1 => ?_)
      · refine hK 20 [some (vR 542 p), some (vI v), some (vI j), some (vI 96)] [] T1 ?_
        refine j_blx (F := fJ7) tb_J7 (by decide) bk_J7_fill_53178_20 bs_J7_fill_53178_20 hz (fun K hK => ?_)
        refine (show po_J7_fill_542 T p v T1 (none) from ?_)
        exact ⟨rfl, fr_t (fr_0 _ _) (fr_s hf_5 rfl), o1, fun q a b => f1 q a (by omega)⟩
      · refine iy_i (by omega) (by omega) ?_
        refine x_nm (fun U2 hU2 => ?_)
        have e3 := up_f hU2
        refine rg_i (by omega) ?_
        refine hK 5 [some (vR 542 p), some (vI v), some (vI (j + 1)), some (vI 96)] [] U2 ?_
        refine ih_5 _ ?_ (j + 1) U2 (Nat.le_refl _) ?_ ?_ ?_ ?_
        · omega
        · exact fr_u (fr_t (fr_0 _ _) (fr_s hf_5 rfl)) hU2 rfl
        · omega
        · exact oi_u o1 hU2
        · intro q a b
          by_cases z : q = j
          · rw [z]; exact up_f hU2
          · rw [up_g hU2 (fun y => z y.2.2)]; exact f1 q a (by omega)
  refine j_blx (F := fJ7) tb_J7 (by decide) bk_J7_fill_53178_0 bs_J7_fill_53178_0 hz (fun K hK => ?_)
  refine hK 5 [some (vR 542 p), some (vI v), some (vI 0), some (vI 96)] [] T ?_
  refine c_5 _ 0 T (Nat.le_refl _) ?_ ?_ ?_ ?_
  · exact fr_0 _ _
  · omega
  · exact oi_r
  · intro q a b; omega
abbrev po_J7_fill_543 (T : Zt) (p : Int) (v : Int) : Zt → Option Zv → Prop := fun T' r => r = none ∧ fr_ [(543, [])] T T' ∧ oi_ T T' p ∧ ∀ j, 0 ≤ j → j < 12 → T' 543 p j = v
set_option maxHeartbeats 4000000 in
theorem ct_J7_fill_543 {T : Zt} {p : Int} {v : Int} (h1 : (-2147483648) ≤ v ∧ v ≤ 2147483647) : Ct_ yJ7_fill_53178 zJ7_fill_53178 T [vR 543 p, vI v] (po_J7_fill_543 T p v) := by
  refine ct_of (by decide) rfl rfl (Nat.le_of_ble_eq_true rfl) (fun hT hav => ?_)
  have hr_v : -2147483648 ≤ v ∧ v ≤ 2147483647 := hav (vI v) (by simp)
  have hz : zJ7_fill_53178.2.2.2.1 = some .boolean → ∀ (T' : Zt) (x : Int), po_J7_fill_543 T p v T' (some (vI x)) → 0 ≤ x ∧ x ≤ 1 := fun h => by cases h
  show J_ zJ7_fill_53178 T (po_J7_fill_543 T p v) 0 0 0 [some (vR 543 p), some (vI v), none, none] [] T
  have c_5 : ∀ (nn : Nat) (j : Int) (T1 : Zt), ((12 - j).toNat) ≤ nn → (fr_ [(543, [])] T T1) → (0 ≤ j ∧ j ≤ 12) → (oi_ T T1 p) → (∀ q, 0 ≤ q → q < j → T1 543 p q = v) → J_ zJ7_fill_53178 T (po_J7_fill_543 T p v) 0 0 5 [some (vR 543 p), some (vI v), some (vI j), some (vI 12)] [] T1 := by
    intro nn
    induction nn using Nat.strongRecOn with
    | _ nn ih_5 =>
      intro j T1 hm_5 hf_5 i1 o1 f1
      refine j_blx (F := fJ7) tb_J7 (by decide) bk_J7_fill_53178_5 bs_J7_fill_53178_5 hz (fun K hK => ?_)
      refine And.intro (fun c1 => ?_) (fun c1 => ?_)
      · refine hK 20 [some (vR 543 p), some (vI v), some (vI j), some (vI 12)] [] T1 ?_
        refine j_blx (F := fJ7) tb_J7 (by decide) bk_J7_fill_53178_20 bs_J7_fill_53178_20 hz (fun K hK => ?_)
        refine (show po_J7_fill_543 T p v T1 (none) from ?_)
        exact ⟨rfl, fr_t (fr_0 _ _) (fr_s hf_5 rfl), o1, fun q a b => f1 q a (by omega)⟩
      · refine iy_i (by omega) (by omega) ?_
        refine x_nm (fun U2 hU2 => ?_)
        have e3 := up_f hU2
        refine rg_i (by omega) ?_
        refine hK 5 [some (vR 543 p), some (vI v), some (vI (j + 1)), some (vI 12)] [] U2 ?_
        refine ih_5 _ ?_ (j + 1) U2 (Nat.le_refl _) ?_ ?_ ?_ ?_
        · omega
        · exact fr_u (fr_t (fr_0 _ _) (fr_s hf_5 rfl)) hU2 rfl
        · omega
        · exact oi_u o1 hU2
        · intro q a b
          by_cases z : q = j
          · rw [z]; exact up_f hU2
          · rw [up_g hU2 (fun y => z y.2.2)]; exact f1 q a (by omega)
  refine j_blx (F := fJ7) tb_J7 (by decide) bk_J7_fill_53178_0 bs_J7_fill_53178_0 hz (fun K hK => ?_)
  refine hK 5 [some (vR 543 p), some (vI v), some (vI 0), some (vI 12)] [] T ?_
  refine c_5 _ 0 T (Nat.le_refl _) ?_ ?_ ?_ ?_
  · exact fr_0 _ _
  · omega
  · exact oi_r
  · intro q a b; omega
abbrev po_J7_fill_544 (T : Zt) (p : Int) (v : Int) : Zt → Option Zv → Prop := fun T' r => r = none ∧ fr_ [(544, [])] T T' ∧ oi_ T T' p ∧ ∀ j, 0 ≤ j → j < 12 → T' 544 p j = v
set_option maxHeartbeats 4000000 in
theorem ct_J7_fill_544 {T : Zt} {p : Int} {v : Int} (h1 : (-2147483648) ≤ v ∧ v ≤ 2147483647) : Ct_ yJ7_fill_53178 zJ7_fill_53178 T [vR 544 p, vI v] (po_J7_fill_544 T p v) := by
  refine ct_of (by decide) rfl rfl (Nat.le_of_ble_eq_true rfl) (fun hT hav => ?_)
  have hr_v : -2147483648 ≤ v ∧ v ≤ 2147483647 := hav (vI v) (by simp)
  have hz : zJ7_fill_53178.2.2.2.1 = some .boolean → ∀ (T' : Zt) (x : Int), po_J7_fill_544 T p v T' (some (vI x)) → 0 ≤ x ∧ x ≤ 1 := fun h => by cases h
  show J_ zJ7_fill_53178 T (po_J7_fill_544 T p v) 0 0 0 [some (vR 544 p), some (vI v), none, none] [] T
  have c_5 : ∀ (nn : Nat) (j : Int) (T1 : Zt), ((12 - j).toNat) ≤ nn → (fr_ [(544, [])] T T1) → (0 ≤ j ∧ j ≤ 12) → (oi_ T T1 p) → (∀ q, 0 ≤ q → q < j → T1 544 p q = v) → J_ zJ7_fill_53178 T (po_J7_fill_544 T p v) 0 0 5 [some (vR 544 p), some (vI v), some (vI j), some (vI 12)] [] T1 := by
    intro nn
    induction nn using Nat.strongRecOn with
    | _ nn ih_5 =>
      intro j T1 hm_5 hf_5 i1 o1 f1
      refine j_blx (F := fJ7) tb_J7 (by decide) bk_J7_fill_53178_5 bs_J7_fill_53178_5 hz (fun K hK => ?_)
      refine And.intro (fun c1 => ?_) (fun c1 => ?_)
      · refine hK 20 [some (vR 544 p), some (vI v), some (vI j), some (vI 12)] [] T1 ?_
        refine j_blx (F := fJ7) tb_J7 (by decide) bk_J7_fill_53178_20 bs_J7_fill_53178_20 hz (fun K hK => ?_)
        refine (show po_J7_fill_544 T p v T1 (none) from ?_)
        exact ⟨rfl, fr_t (fr_0 _ _) (fr_s hf_5 rfl), o1, fun q a b => f1 q a (by omega)⟩
      · refine iy_i (by omega) (by omega) ?_
        refine x_nm (fun U2 hU2 => ?_)
        have e3 := up_f hU2
        refine rg_i (by omega) ?_
        refine hK 5 [some (vR 544 p), some (vI v), some (vI (j + 1)), some (vI 12)] [] U2 ?_
        refine ih_5 _ ?_ (j + 1) U2 (Nat.le_refl _) ?_ ?_ ?_ ?_
        · omega
        · exact fr_u (fr_t (fr_0 _ _) (fr_s hf_5 rfl)) hU2 rfl
        · omega
        · exact oi_u o1 hU2
        · intro q a b
          by_cases z : q = j
          · rw [z]; exact up_f hU2
          · rw [up_g hU2 (fun y => z y.2.2)]; exact f1 q a (by omega)
  refine j_blx (F := fJ7) tb_J7 (by decide) bk_J7_fill_53178_0 bs_J7_fill_53178_0 hz (fun K hK => ?_)
  refine hK 5 [some (vR 544 p), some (vI v), some (vI 0), some (vI 12)] [] T ?_
  refine c_5 _ 0 T (Nat.le_refl _) ?_ ?_ ?_ ?_
  · exact fr_0 _ _
  · omega
  · exact oi_r
  · intro q a b; omega
abbrev po_J7_fill_545 (T : Zt) (p : Int) (v : Int) : Zt → Option Zv → Prop := fun T' r => r = none ∧ fr_ [(545, [])] T T' ∧ oi_ T T' p ∧ ∀ j, 0 ≤ j → j < 144 → T' 545 p j = v
set_option maxHeartbeats 4000000 in
theorem ct_J7_fill_545 {T : Zt} {p : Int} {v : Int} (h1 : (-2147483648) ≤ v ∧ v ≤ 2147483647) : Ct_ yJ7_fill_53178 zJ7_fill_53178 T [vR 545 p, vI v] (po_J7_fill_545 T p v) := by
  refine ct_of (by decide) rfl rfl (Nat.le_of_ble_eq_true rfl) (fun hT hav => ?_)
  have hr_v : -2147483648 ≤ v ∧ v ≤ 2147483647 := hav (vI v) (by simp)
  have hz : zJ7_fill_53178.2.2.2.1 = some .boolean → ∀ (T' : Zt) (x : Int), po_J7_fill_545 T p v T' (some (vI x)) → 0 ≤ x ∧ x ≤ 1 := fun h => by cases h
  show J_ zJ7_fill_53178 T (po_J7_fill_545 T p v) 0 0 0 [some (vR 545 p), some (vI v), none, none] [] T
  have c_5 : ∀ (nn : Nat) (j : Int) (T1 : Zt), ((144 - j).toNat) ≤ nn → (fr_ [(545, [])] T T1) → (0 ≤ j ∧ j ≤ 144) → (oi_ T T1 p) → (∀ q, 0 ≤ q → q < j → T1 545 p q = v) → J_ zJ7_fill_53178 T (po_J7_fill_545 T p v) 0 0 5 [some (vR 545 p), some (vI v), some (vI j), some (vI 144)] [] T1 := by
    intro nn
    induction nn using Nat.strongRecOn with
    | _ nn ih_5 =>
      intro j T1 hm_5 hf_5 i1 o1 f1
      refine j_blx (F := fJ7) tb_J7 (by decide) bk_J7_fill_53178_5 bs_J7_fill_53178_5 hz (fun K hK => ?_)
      refine And.intro (fun c1 => ?_) (fun c1 => ?_)
      · refine hK 20 [some (vR 545 p), some (vI v), some (vI j), some (vI 144)] [] T1 ?_
        refine j_blx (F := fJ7) tb_J7 (by decide) bk_J7_fill_53178_20 bs_J7_fill_53178_20 hz (fun K hK => ?_)
        refine (show po_J7_fill_545 T p v T1 (none) from ?_)
        exact ⟨rfl, fr_t (fr_0 _ _) (fr_s hf_5 rfl), o1, fun q a b => f1 q a (by omega)⟩
      · refine iy_i (by omega) (by omega) ?_
        refine x_nm (fun U2 hU2 => ?_)
        have e3 := up_f hU2
        refine rg_i (by omega) ?_
        refine hK 5 [some (vR 545 p), some (vI v), some (vI (j + 1)), some (vI 144)] [] U2 ?_
        refine ih_5 _ ?_ (j + 1) U2 (Nat.le_refl _) ?_ ?_ ?_ ?_
        · omega
        · exact fr_u (fr_t (fr_0 _ _) (fr_s hf_5 rfl)) hU2 rfl
        · omega
        · exact oi_u o1 hU2
        · intro q a b
          by_cases z : q = j
          · rw [z]; exact up_f hU2
          · rw [up_g hU2 (fun y => z y.2.2)]; exact f1 q a (by omega)
  refine j_blx (F := fJ7) tb_J7 (by decide) bk_J7_fill_53178_0 bs_J7_fill_53178_0 hz (fun K hK => ?_)
  refine hK 5 [some (vR 545 p), some (vI v), some (vI 0), some (vI 144)] [] T ?_
  refine c_5 _ 0 T (Nat.le_refl _) ?_ ?_ ?_ ?_
  · exact fr_0 _ _
  · omega
  · exact oi_r
  · intro q a b; omega
abbrev po_J7_fill_546 (T : Zt) (p : Int) (v : Int) : Zt → Option Zv → Prop := fun T' r => r = none ∧ fr_ [(546, [])] T T' ∧ oi_ T T' p ∧ ∀ j, 0 ≤ j → j < 144 → T' 546 p j = v
set_option maxHeartbeats 4000000 in
theorem ct_J7_fill_546 {T : Zt} {p : Int} {v : Int} (h1 : (-2147483648) ≤ v ∧ v ≤ 2147483647) : Ct_ yJ7_fill_53178 zJ7_fill_53178 T [vR 546 p, vI v] (po_J7_fill_546 T p v) := by
  refine ct_of (by decide) rfl rfl (Nat.le_of_ble_eq_true rfl) (fun hT hav => ?_)
  have hr_v : -2147483648 ≤ v ∧ v ≤ 2147483647 := hav (vI v) (by simp)
  have hz : zJ7_fill_53178.2.2.2.1 = some .boolean → ∀ (T' : Zt) (x : Int), po_J7_fill_546 T p v T' (some (vI x)) → 0 ≤ x ∧ x ≤ 1 := fun h => by cases h
  show J_ zJ7_fill_53178 T (po_J7_fill_546 T p v) 0 0 0 [some (vR 546 p), some (vI v), none, none] [] T
  have c_5 : ∀ (nn : Nat) (j : Int) (T1 : Zt), ((144 - j).toNat) ≤ nn → (fr_ [(546, [])] T T1) → (0 ≤ j ∧ j ≤ 144) → (oi_ T T1 p) → (∀ q, 0 ≤ q → q < j → T1 546 p q = v) → J_ zJ7_fill_53178 T (po_J7_fill_546 T p v) 0 0 5 [some (vR 546 p), some (vI v), some (vI j), some (vI 144)] [] T1 := by
    intro nn
    induction nn using Nat.strongRecOn with
    | _ nn ih_5 =>
      intro j T1 hm_5 hf_5 i1 o1 f1
      refine j_blx (F := fJ7) tb_J7 (by decide) bk_J7_fill_53178_5 bs_J7_fill_53178_5 hz (fun K hK => ?_)
      refine And.intro (fun c1 => ?_) (fun c1 => ?_)
      · refine hK 20 [some (vR 546 p), some (vI v), some (vI j), some (vI 144)] [] T1 ?_
        refine j_blx (F := fJ7) tb_J7 (by decide) bk_J7_fill_53178_20 bs_J7_fill_53178_20 hz (fun K hK => ?_)
        refine (show po_J7_fill_546 T p v T1 (none) from ?_)
        exact ⟨rfl, fr_t (fr_0 _ _) (fr_s hf_5 rfl), o1, fun q a b => f1 q a (by omega)⟩
      · refine iy_i (by omega) (by omega) ?_
        refine x_nm (fun U2 hU2 => ?_)
        have e3 := up_f hU2
        refine rg_i (by omega) ?_
        refine hK 5 [some (vR 546 p), some (vI v), some (vI (j + 1)), some (vI 144)] [] U2 ?_
        refine ih_5 _ ?_ (j + 1) U2 (Nat.le_refl _) ?_ ?_ ?_ ?_
        · omega
        · exact fr_u (fr_t (fr_0 _ _) (fr_s hf_5 rfl)) hU2 rfl
        · omega
        · exact oi_u o1 hU2
        · intro q a b
          by_cases z : q = j
          · rw [z]; exact up_f hU2
          · rw [up_g hU2 (fun y => z y.2.2)]; exact f1 q a (by omega)
  refine j_blx (F := fJ7) tb_J7 (by decide) bk_J7_fill_53178_0 bs_J7_fill_53178_0 hz (fun K hK => ?_)
  refine hK 5 [some (vR 546 p), some (vI v), some (vI 0), some (vI 144)] [] T ?_
  refine c_5 _ 0 T (Nat.le_refl _) ?_ ?_ ?_ ?_
  · exact fr_0 _ _
  · omega
  · exact oi_r
  · intro q a b; omega
abbrev cX7_tally : ByteArray := prog_9_method_2_code
def yX7_tally : MethodName := ⟨RX7, "tally", "(LSportsHouse$Competition;I)V"⟩
def zX7_tally : Zm := (RX7, cX7_tally, 5, none, { frames := 2, cells := 0, slots := 0, locals := 52 })
theorem bk_X7_tally_126 : ck_ fX7 none cX7_tally 126 [.iload 3, .aload 0, .tableswitch 0 7 1 #[], .tableswitch 0 0 5 #[], .if_icmp .ge 182, .aload 0, .tableswitch 0 7 2 #[], .iload 3, .iconst 8, .imul, .iconst 6, .iadd, .dup2, .iaload, .aload 0, .tableswitch 0 7 0 #[], .iload 2, .aload 0, .tableswitch 0 7 1 #[], .tableswitch 0 0 0 #[], .aload 0, .tableswitch 0 7 1 #[], .tableswitch 0 0 3 #[], .iload 3, .iaload] 171 = true := qck_r (by decide) (by decide +kernel)
theorem bs_X7_tally_126 {P : Zt → Option Zv → Prop} (K : Int → Zl → List Zv → Zt → Prop) : sx_ K P [.iload 3, .aload 0, .tableswitch 0 7 1 #[], .tableswitch 0 0 5 #[], .if_icmp .ge 182, .aload 0, .tableswitch 0 7 2 #[], .iload 3, .iconst 8, .imul, .iconst 6, .iadd, .dup2, .iaload, .aload 0, .tableswitch 0 7 0 #[], .iload 2, .aload 0, .tableswitch 0 7 1 #[], .tableswitch 0 0 0 #[], .aload 0, .tableswitch 0 7 1 #[], .tableswitch 0 0 3 #[], .iload 3, .iaload] 171 = x_iload 3 (x_aload 0 (x_g5 107 100 1 (x_g0 100 5 0 12 (x_if_icmp .ge 182 K (x_aload 0 (x_g1 107 542 (x_iload 3 (x_iconst 8 (x_imul (x_iconst 6 (x_iadd (x_dup2 (x_iaload (x_aload 0 (x_g1 107 106 (x_iload 2 (x_aload 0 (x_g5 107 100 1 (x_g0 100 0 0 3 (x_aload 0 (x_g5 107 100 1 (x_g2 100 403 (x_iload 3 (x_iaload (K 171))))))))))))))))))))))))) := ((xe_iload 3).trans (congrArg (x_iload 3) ((xe_aload 0).trans (congrArg (x_aload 0) ((xe_g5 (kk := 107) rfl tl_7_1).trans (congrArg (x_g5 107 100 1) ((xe_g0 (kk := 100) rfl tl_0_5).trans (congrArg (x_g0 100 5 0 12) ((xe_if_icmp .ge 182).trans (congrArg (x_if_icmp .ge 182 K) ((xe_aload 0).trans (congrArg (x_aload 0) ((xe_g1 (kk := 107) rfl tl_7_2).trans (congrArg (x_g1 107 542) ((xe_iload 3).trans (congrArg (x_iload 3) ((xe_iconst 8).trans (congrArg (x_iconst 8) ((xe_imul).trans (congrArg (x_imul) ((xe_iconst 6).trans (congrArg (x_iconst 6) ((xe_iadd).trans (congrArg (x_iadd) ((xe_dup2).trans (congrArg (x_dup2) ((xe_iaload).trans (congrArg (x_iaload) ((xe_aload 0).trans (congrArg (x_aload 0) ((xe_g1 (kk := 107) rfl tl_7_0).trans (congrArg (x_g1 107 106) ((xe_iload 2).trans (congrArg (x_iload 2) ((xe_aload 0).trans (congrArg (x_aload 0) ((xe_g5 (kk := 107) rfl tl_7_1).trans (congrArg (x_g5 107 100 1) ((xe_g0 (kk := 100) rfl tl_0_0).trans (congrArg (x_g0 100 0 0 3) ((xe_aload 0).trans (congrArg (x_aload 0) ((xe_g5 (kk := 107) rfl tl_7_1).trans (congrArg (x_g5 107 100 1) ((xe_g2 (kk := 100) rfl tl_0_3).trans (congrArg (x_g2 100 403) ((xe_iload 3).trans (congrArg (x_iload 3) ((xe_iaload).trans (congrArg (x_iaload) xe_nil))))))))))))))))))))))))))))))))))))))))))))))))))
theorem bk_X7_tally_182 : ck_ fX7 none cX7_tally 182 [.return_] 183 = true := qck_r (by decide) (by decide +kernel)
theorem bs_X7_tally_182 {P : Zt → Option Zv → Prop} (K : Int → Zl → List Zv → Zt → Prop) : sx_ K P [.return_] 183 = x_return_ P := (xe_return_)
set_option maxRecDepth 100000 in
theorem cl_X7_105 : cv_ RX7 105 yX6_deductedUpTo zX6_deductedUpTo 6 3 := ⟨gi_V (lw_b5 220 (by decide +kernel) rfl : Cond.methodLink RX7 105 yX6_deductedUpTo ∈ lw_g) (lw_b5 221 (by decide +kernel) rfl : Cond.instanceMethod yX6_deductedUpTo ∈ lw_g) (lw_b5 222 (by decide +kernel) rfl : Cond.selects yX6_deductedUpTo.cls yX6_deductedUpTo yX6_deductedUpTo ∈ lw_g) (lw_b1 4 (by decide +kernel) rfl : Cond.initialized yX6_deductedUpTo.cls ∈ lw_g) (lw_b5 223 rfl rfl : Cond.code yX6_deductedUpTo cX6_deductedUpTo 6 (some .int) ∈ lw_g), ⟨by decide, by decide, by decide +kernel⟩, ⟨_, _, rfl⟩⟩
theorem bk_X7_tally_174 : ck_ fX7 none cX7_tally 174 [.fsub, .iastore, .iinc 3 1, .goto 126] 182 = true := qck_r (by decide) (by decide +kernel)
theorem bs_X7_tally_174 {P : Zt → Option Zv → Prop} (K : Int → Zl → List Zv → Zt → Prop) : sx_ K P [.fsub, .iastore, .iinc 3 1, .goto 126] 182 = x_fsub (x_iastore (x_iinc 3 1 (x_goto 126 K))) := ((xe_fsub).trans (congrArg (x_fsub) ((xe_iastore).trans (congrArg (x_iastore) ((xe_iinc 3 1).trans (congrArg (x_iinc 3 1) (xe_goto 126)))))))
theorem bk_X7_tally_47 : ck_ fX7 none cX7_tally 47 [.iload 3, .aload 0, .tableswitch 0 7 1 #[], .tableswitch 0 0 8 #[], .if_icmp .ge 124, .aload 0, .tableswitch 0 7 0 #[], .tableswitch 0 6 3 #[], .aload 0, .tableswitch 0 7 1 #[], .tableswitch 0 0 7 #[], .iload 3, .iadd, .aaload, .astore 4, .aload 4, .tableswitch 0 2 5 #[], .iload 2, .if_icmp .gt 118, .aload 4] 88 = true := qck_r (by decide) (by decide +kernel)
theorem bs_X7_tally_47 {P : Zt → Option Zv → Prop} (K : Int → Zl → List Zv → Zt → Prop) : sx_ K P [.iload 3, .aload 0, .tableswitch 0 7 1 #[], .tableswitch 0 0 8 #[], .if_icmp .ge 124, .aload 0, .tableswitch 0 7 0 #[], .tableswitch 0 6 3 #[], .aload 0, .tableswitch 0 7 1 #[], .tableswitch 0 0 7 #[], .iload 3, .iadd, .aaload, .astore 4, .aload 4, .tableswitch 0 2 5 #[], .iload 2, .if_icmp .gt 118, .aload 4] 88 = x_iload 3 (x_aload 0 (x_g5 107 100 1 (x_g0 100 8 0 400 (x_if_icmp .ge 124 K (x_aload 0 (x_g1 107 106 (x_g1 106 523 (x_aload 0 (x_g5 107 100 1 (x_g0 100 7 0 400 (x_iload 3 (x_iadd (x_aaload (x_astore 4 (x_aload 4 (x_g0 102 5 0 999 (x_iload 2 (x_if_icmp .gt 118 K (x_aload 4 (K 88)))))))))))))))))))) := ((xe_iload 3).trans (congrArg (x_iload 3) ((xe_aload 0).trans (congrArg (x_aload 0) ((xe_g5 (kk := 107) rfl tl_7_1).trans (congrArg (x_g5 107 100 1) ((xe_g0 (kk := 100) rfl tl_0_8).trans (congrArg (x_g0 100 8 0 400) ((xe_if_icmp .ge 124).trans (congrArg (x_if_icmp .ge 124 K) ((xe_aload 0).trans (congrArg (x_aload 0) ((xe_g1 (kk := 107) rfl tl_7_0).trans (congrArg (x_g1 107 106) ((xe_g1 (kk := 106) rfl tl_6_3).trans (congrArg (x_g1 106 523) ((xe_aload 0).trans (congrArg (x_aload 0) ((xe_g5 (kk := 107) rfl tl_7_1).trans (congrArg (x_g5 107 100 1) ((xe_g0 (kk := 100) rfl tl_0_7).trans (congrArg (x_g0 100 7 0 400) ((xe_iload 3).trans (congrArg (x_iload 3) ((xe_iadd).trans (congrArg (x_iadd) ((xe_aaload).trans (congrArg (x_aaload) ((xe_astore 4).trans (congrArg (x_astore 4) ((xe_aload 4).trans (congrArg (x_aload 4) ((xe_g0 (kk := 102) rfl tl_2_5).trans (congrArg (x_g0 102 5 0 999) ((xe_iload 2).trans (congrArg (x_iload 2) ((xe_if_icmp .gt 118).trans (congrArg (x_if_icmp .gt 118 K) ((xe_aload 4).trans (congrArg (x_aload 4) xe_nil))))))))))))))))))))))))))))))))))))))))
theorem bk_X7_tally_124 : ck_ fX7 none cX7_tally 124 [.iconst 0, .istore 3] 126 = true := qck_r (by decide) (by decide +kernel)
theorem bs_X7_tally_124 {P : Zt → Option Zv → Prop} (K : Int → Zl → List Zv → Zt → Prop) : sx_ K P [.iconst 0, .istore 3] 126 = x_iconst 0 (x_istore 3 (K 126)) := ((xe_iconst 0).trans (congrArg (x_iconst 0) ((xe_istore 3).trans (congrArg (x_istore 3) xe_nil))))
theorem bk_X7_tally_118 : ck_ fX7 none cX7_tally 118 [.iinc 3 1, .goto 47] 124 = true := qck_r (by decide) (by decide +kernel)
theorem bs_X7_tally_118 {P : Zt → Option Zv → Prop} (K : Int → Zl → List Zv → Zt → Prop) : sx_ K P [.iinc 3 1, .goto 47] 124 = x_iinc 3 1 (x_goto 47 K) := ((xe_iinc 3 1).trans (congrArg (x_iinc 3 1) (xe_goto 47)))
set_option maxRecDepth 100000 in
theorem cl_X7_80 : cv_ RX7 80 yX2_isDecided zX2_isDecided 2 0 := ⟨gi_V (lw_b5 205 (by decide +kernel) rfl : Cond.methodLink RX7 80 yX2_isDecided ∈ lw_g) (lw_b4 155 (by decide +kernel) rfl : Cond.instanceMethod yX2_isDecided ∈ lw_g) (lw_b4 156 (by decide +kernel) rfl : Cond.selects yX2_isDecided.cls yX2_isDecided yX2_isDecided ∈ lw_g) (lw_b1 16 (by decide +kernel) rfl : Cond.initialized yX2_isDecided.cls ∈ lw_g) (lw_b4 157 rfl rfl : Cond.code yX2_isDecided cX2_isDecided 1 (some .boolean) ∈ lw_g), ⟨by decide, by decide, by decide +kernel⟩, ⟨_, _, rfl⟩⟩
theorem bk_X7_tally_91 : ck_ fX7 none cX7_tally 91 [.ifCond .eq 118, .aload 0, .aload 4, .aload 4, .iconst 0] 100 = true := qck_r (by decide) (by decide +kernel)
theorem bs_X7_tally_91 {P : Zt → Option Zv → Prop} (K : Int → Zl → List Zv → Zt → Prop) : sx_ K P [.ifCond .eq 118, .aload 0, .aload 4, .aload 4, .iconst 0] 100 = x_ifCond .eq 118 K (x_aload 0 (x_aload 4 (x_aload 4 (x_iconst 0 (K 100))))) := ((xe_ifCond .eq 118).trans (congrArg (x_ifCond .eq 118 K) ((xe_aload 0).trans (congrArg (x_aload 0) ((xe_aload 4).trans (congrArg (x_aload 4) ((xe_aload 4).trans (congrArg (x_aload 4) ((xe_iconst 0).trans (congrArg (x_iconst 0) xe_nil))))))))))
set_option maxRecDepth 100000 in
theorem cl_X7_84 : cv_ RX7 84 yX2_scoreOf zX2_scoreOf 2 1 := ⟨gi_V (lw_b5 206 (by decide +kernel) rfl : Cond.methodLink RX7 84 yX2_scoreOf ∈ lw_g) (lw_b4 62 (by decide +kernel) rfl : Cond.instanceMethod yX2_scoreOf ∈ lw_g) (lw_b4 63 (by decide +kernel) rfl : Cond.selects yX2_scoreOf.cls yX2_scoreOf yX2_scoreOf ∈ lw_g) (lw_b1 16 (by decide +kernel) rfl : Cond.initialized yX2_scoreOf.cls ∈ lw_g) (lw_b4 64 rfl rfl : Cond.code yX2_scoreOf cX2_scoreOf 2 (some .int) ∈ lw_g), ⟨by decide, by decide, by decide +kernel⟩, ⟨_, _, rfl⟩⟩
theorem bk_X7_tally_103 : ck_ fX7 none cX7_tally 103 [.aload 4, .iconst 1] 106 = true := qck_r (by decide) (by decide +kernel)
theorem bs_X7_tally_103 {P : Zt → Option Zv → Prop} (K : Int → Zl → List Zv → Zt → Prop) : sx_ K P [.aload 4, .iconst 1] 106 = x_aload 4 (x_iconst 1 (K 106)) := ((xe_aload 4).trans (congrArg (x_aload 4) ((xe_iconst 1).trans (congrArg (x_iconst 1) xe_nil))))
set_option maxRecDepth 100000 in
theorem cl_X7_88 : cv_ RX7 88 yX7_addResult zX7_addResult 7 3 := ⟨gi_V (lw_b5 207 (by decide +kernel) rfl : Cond.methodLink RX7 88 yX7_addResult ∈ lw_g) (lw_b5 208 (by decide +kernel) rfl : Cond.instanceMethod yX7_addResult ∈ lw_g) (lw_b5 209 (by decide +kernel) rfl : Cond.selects yX7_addResult.cls yX7_addResult yX7_addResult ∈ lw_g) (lw_b1 5 (by decide +kernel) rfl : Cond.initialized yX7_addResult.cls ∈ lw_g) (lw_b5 210 rfl rfl : Cond.code yX7_addResult cX7_addResult 6 none ∈ lw_g), ⟨by decide, by decide, by decide +kernel⟩, ⟨_, _, rfl⟩⟩
theorem bk_X7_tally_112 : ck_ fX7 none cX7_tally 112 [.aload 0, .aload 4] 115 = true := qck_r (by decide) (by decide +kernel)
theorem bs_X7_tally_112 {P : Zt → Option Zv → Prop} (K : Int → Zl → List Zv → Zt → Prop) : sx_ K P [.aload 0, .aload 4] 115 = x_aload 0 (x_aload 4 (K 115)) := ((xe_aload 0).trans (congrArg (x_aload 0) ((xe_aload 4).trans (congrArg (x_aload 4) xe_nil))))
set_option maxRecDepth 100000 in
theorem cl_X7_92 : cv_ RX7 92 yX7_addCards zX7_addCards 7 1 := ⟨gi_V (lw_b5 215 (by decide +kernel) rfl : Cond.methodLink RX7 92 yX7_addCards ∈ lw_g) (lw_b5 217 (by decide +kernel) rfl : Cond.instanceMethod yX7_addCards ∈ lw_g) (lw_sel 127 rfl : Cond.selects yX7_addCards.cls yX7_addCards yX7_addCards ∈ lw_g) (lw_b1 5 (by decide +kernel) rfl : Cond.initialized yX7_addCards.cls ∈ lw_g) (lw_b5 218 rfl rfl : Cond.code yX7_addCards cX7_addCards 6 none ∈ lw_g), ⟨by decide, by decide, by decide +kernel⟩, ⟨_, _, rfl⟩⟩
theorem bk_X7_tally_0 : ck_ fX7 none cX7_tally 0 [.aload 0, .aload 1] 2 = true := qck_r (by decide) (by decide +kernel)
theorem bs_X7_tally_0 {P : Zt → Option Zv → Prop} (K : Int → Zl → List Zv → Zt → Prop) : sx_ K P [.aload 0, .aload 1] 2 = x_aload 0 (x_aload 1 (K 2)) := ((xe_aload 0).trans (congrArg (x_aload 0) ((xe_aload 1).trans (congrArg (x_aload 1) xe_nil))))
theorem fr5_X7_50 : fr5_ RX7 50 7 1 := ⟨_, _, _, rfl, by decide, by decide, (lw_b1 212 (by decide +kernel) rfl : Cond.fieldLink RX7 50 _ _ _ ∈ lw_g), rfl, fun a => ⟨.object "SportsHouse$Competition", by decide +kernel, rfl, rfl⟩⟩
theorem bk_X7_tally_5 : ck_ fX7 none cX7_tally 5 [.aload 0, .tableswitch 0 7 2 #[], .iconst 0] 10 = true := qck_r (by decide) (by decide +kernel)
theorem bs_X7_tally_5 {P : Zt → Option Zv → Prop} (K : Int → Zl → List Zv → Zt → Prop) : sx_ K P [.aload 0, .tableswitch 0 7 2 #[], .iconst 0] 10 = x_aload 0 (x_g1 107 542 (x_iconst 0 (K 10))) := ((xe_aload 0).trans (congrArg (x_aload 0) ((xe_g1 (kk := 107) rfl tl_7_2).trans (congrArg (x_g1 107 542) ((xe_iconst 0).trans (congrArg (x_iconst 0) xe_nil))))))
set_option maxRecDepth 100000 in
theorem cl_X7_54 : cs_ RX7 54 yJ7_fill_53178 zJ7_fill_53178 2 := ⟨gi_S (lw_b5 204 (by decide +kernel) rfl : Cond.methodLink RX7 54 yJ7_fill_53178 ∈ lw_g) (lw_b2 26 (by decide +kernel) rfl : Cond.static yJ7_fill_53178 ∈ lw_g) (lw_b1 7 (by decide +kernel) rfl : Cond.initialized yJ7_fill_53178.cls ∈ lw_g) (lw_b2 27 rfl rfl : Cond.code yJ7_fill_53178 cJ7_fill_53178 4 none ∈ lw_g), ⟨by decide, by decide, by decide +kernel⟩⟩
theorem bk_X7_tally_13 : ck_ fX7 none cX7_tally 13 [.aload 0, .tableswitch 0 7 3 #[], .iconst 0] 18 = true := qck_r (by decide) (by decide +kernel)
theorem bs_X7_tally_13 {P : Zt → Option Zv → Prop} (K : Int → Zl → List Zv → Zt → Prop) : sx_ K P [.aload 0, .tableswitch 0 7 3 #[], .iconst 0] 18 = x_aload 0 (x_g1 107 543 (x_iconst 0 (K 18))) := ((xe_aload 0).trans (congrArg (x_aload 0) ((xe_g1 (kk := 107) rfl tl_7_3).trans (congrArg (x_g1 107 543) ((xe_iconst 0).trans (congrArg (x_iconst 0) xe_nil))))))
theorem bk_X7_tally_21 : ck_ fX7 none cX7_tally 21 [.aload 0, .tableswitch 0 7 4 #[], .iconst 0] 26 = true := qck_r (by decide) (by decide +kernel)
theorem bs_X7_tally_21 {P : Zt → Option Zv → Prop} (K : Int → Zl → List Zv → Zt → Prop) : sx_ K P [.aload 0, .tableswitch 0 7 4 #[], .iconst 0] 26 = x_aload 0 (x_g1 107 544 (x_iconst 0 (K 26))) := ((xe_aload 0).trans (congrArg (x_aload 0) ((xe_g1 (kk := 107) rfl tl_7_4).trans (congrArg (x_g1 107 544) ((xe_iconst 0).trans (congrArg (x_iconst 0) xe_nil))))))
theorem bk_X7_tally_29 : ck_ fX7 none cX7_tally 29 [.aload 0, .tableswitch 0 7 5 #[], .iconst 0] 34 = true := qck_r (by decide) (by decide +kernel)
theorem bs_X7_tally_29 {P : Zt → Option Zv → Prop} (K : Int → Zl → List Zv → Zt → Prop) : sx_ K P [.aload 0, .tableswitch 0 7 5 #[], .iconst 0] 34 = x_aload 0 (x_g1 107 545 (x_iconst 0 (K 34))) := ((xe_aload 0).trans (congrArg (x_aload 0) ((xe_g1 (kk := 107) rfl tl_7_5).trans (congrArg (x_g1 107 545) ((xe_iconst 0).trans (congrArg (x_iconst 0) xe_nil))))))
theorem bk_X7_tally_37 : ck_ fX7 none cX7_tally 37 [.aload 0, .tableswitch 0 7 6 #[], .iconst 0] 42 = true := qck_r (by decide) (by decide +kernel)
theorem bs_X7_tally_37 {P : Zt → Option Zv → Prop} (K : Int → Zl → List Zv → Zt → Prop) : sx_ K P [.aload 0, .tableswitch 0 7 6 #[], .iconst 0] 42 = x_aload 0 (x_g1 107 546 (x_iconst 0 (K 42))) := ((xe_aload 0).trans (congrArg (x_aload 0) ((xe_g1 (kk := 107) rfl tl_7_6).trans (congrArg (x_g1 107 546) ((xe_iconst 0).trans (congrArg (x_iconst 0) xe_nil))))))
theorem bk_X7_tally_45 : ck_ fX7 none cX7_tally 45 [.iconst 0, .istore 3] 47 = true := qck_r (by decide) (by decide +kernel)
theorem bs_X7_tally_45 {P : Zt → Option Zv → Prop} (K : Int → Zl → List Zv → Zt → Prop) : sx_ K P [.iconst 0, .istore 3] 47 = x_iconst 0 (x_istore 3 (K 47)) := ((xe_iconst 0).trans (congrArg (x_iconst 0) ((xe_istore 3).trans (congrArg (x_istore 3) xe_nil))))
abbrev po_X7_tally (T : Zt) (c : Int) (d : Int) : Zt → Option Zv → Prop := fun T' r => r = none ∧ fr_ [(107, [1]), (542, []), (543, []), (544, []), (545, []), (546, [])] T T' ∧ (T' 107 0 1 = c + 1)
set_option maxHeartbeats 4000000 in
theorem ct_X7_tally {T : Zt} {c : Int} {d : Int} (hka : KA_ T) (hkc : KC_ T) (hc : 0 ≤ c ∧ c < T 106 0 2) : Ct_ yX7_tally zX7_tally T [vR 107 0, vR 100 c, vI d] (po_X7_tally T c d) := by
  refine ct_of (by decide) rfl rfl (Nat.le_of_ble_eq_true rfl) (fun hT hav => ?_)
  have hr_d : -2147483648 ≤ d ∧ d ≤ 2147483647 := hav (vI d) (by simp)
  have hz : zX7_tally.2.2.2.1 = some .boolean → ∀ (T' : Zt) (x : Int), po_X7_tally T c d T' (some (vI x)) → 0 ≤ x ∧ x ≤ 1 := fun h => by cases h
  have hk2 := hkc c hc.1 hc.2
  have hb_matchCount : 0 ≤ T 106 0 4 ∧ T 106 0 4 ≤ 400 := bd_f hT 106 4 (by decide +kernel : (tf_ 106)[4]? = some (0, 0, 0, 400)) 0
  have hcc : 0 ≤ T 106 0 2 ∧ T 106 0 2 ≤ 4 := bd_f hT 106 2 (by decide +kernel : (tf_ 106)[2]? = some (0, 0, 0, 4)) 0
  have hfm : 0 ≤ T 100 c 7 ∧ T 100 c 7 ≤ 400 := bd_f hT 100 7 (by decide +kernel : (tf_ 100)[7]? = some (0, 0, 0, 400)) c
  have hmc : 0 ≤ T 100 c 8 ∧ T 100 c 8 ≤ 400 := bd_f hT 100 8 (by decide +kernel : (tf_ 100)[8]? = some (0, 0, 0, 400)) c
  have hen : 0 ≤ T 100 c 5 ∧ T 100 c 5 ≤ 12 := bd_f hT 100 5 (by decide +kernel : (tf_ 100)[5]? = some (0, 0, 0, 12)) c
  show J_ zX7_tally T (po_X7_tally T c d) 0 0 0 [some (vR 107 0), some (vR 100 c), some (vI d), none, none] [] T
  have c_126 : ∀ (nn : Nat) (k : Int) (T2 : Zt), ((12 - k).toNat) ≤ nn → (fr_ [(107, [1]), (542, []), (543, []), (544, []), (545, []), (546, [])] T T2) → (0 ≤ k ∧ k ≤ 12) → (T2 107 0 1 = c + 1) → J_ zX7_tally T (po_X7_tally T c d) 0 0 126 [some (vR 107 0), some (vR 100 c), some (vI d), some (vI k), none] [] T2 := by
    intro nn
    induction nn using Nat.strongRecOn with
    | _ nn ih_126 =>
      intro k T2 hm_126 hf_126 i2 i3
      refine j_blx (F := fX7) tb_X7 (by decide) bk_X7_tally_126 bs_X7_tally_126 hz (fun K hK => ?_)
      refine And.intro (fun c1 => ?_) (fun c1 => ?_)
      · exact absurd c1 (by omega)
      · have z2 : T2 107 0 1 - 1 = c := by omega
        rw [z2]
        intro b3 b3b
        have e4 : T2 100 c 5 = T 100 c 5 := hf_126 100 c 5 rfl
        rw [e4] at b3 b3b ⊢
        refine And.intro (fun c5 => ?_) (fun c5 => ?_)
        · refine hK 182 [some (vR 107 0), some (vR 100 c), some (vI d), some (vI k), none] [] T2 ?_
          refine j_blx (F := fX7) tb_X7 (by decide) bk_X7_tally_182 bs_X7_tally_182 hz (fun K hK => ?_)
          refine (show po_X7_tally T c d T2 (none) from ?_)
          exact ⟨rfl, fr_t (fr_0 _ _) (fr_s hf_126 rfl), by omega⟩
        · refine rg_i (by omega) ?_
          refine rg_i (by omega) ?_
          refine ix_i (by omega) ?_
          intro b6 b6b
          refine And.intro (fun c7 => ?_) (fun c7 => ?_)
          · exact absurd c7 (by omega)
          · have z8 : T2 107 0 1 - 1 = c := by omega
            rw [z8]
            intro b9 b9b
            have e10 : T2 100 c 0 = T 100 c 0 := hf_126 100 c 0 rfl
            rw [e10] at b9 b9b ⊢
            refine And.intro (fun c11 => ?_) (fun c11 => ?_)
            · exact absurd c11 (by omega)
            · have z12 : T2 107 0 1 - 1 = c := by omega
              rw [z12]
              refine ix_i (by omega) ?_
              intro b13 b13b
              have e14 : T2 403 c k = T 403 c k := hf_126 403 c k rfl
              rw [e14] at b13 b13b ⊢
              refine hK 171 [some (vR 107 0), some (vR 100 c), some (vI d), some (vI k), none] [vI (T 403 c k), vI (T 100 c 0), vI d, vR 106 0, vI (T2 542 0 ((k * 8) + 6)), vI ((k * 8) + 6), vR 542 0] T2 ?_
              refine j_callV (y := yX6_deductedUpTo) (Yc := zX6_deductedUpTo) (rest := [vI (T2 542 0 ((k * 8) + 6)), vI ((k * 8) + 6), vR 542 0]) [vI d, vI (T 100 c 0), vI (T 403 c k)] (ct_X6_deductedUpTo (T := T2)) cl_X7_105 (qd_c (by decide +kernel)) (by decide) rfl (by decide +kernel) (Nat.le_of_ble_eq_true rfl) (by decide) (by decide) rfl ?_
              rintro _ _ ⟨rfl, x15, rfl, hx15⟩
              show J_ zX7_tally T (po_X7_tally T c d) 0 0 174 [some (vR 107 0), some (vR 100 c), some (vI d), some (vI k), none] [vI x15, vI (T2 542 0 ((k * 8) + 6)), vI ((k * 8) + 6), vR 542 0] T2
              refine j_blx (F := fX7) tb_X7 (by decide) bk_X7_tally_174 bs_X7_tally_174 hz (fun K hK => ?_)
              intro w16 w16b
              refine iy_i (by omega) (by omega) ?_
              refine x_nm (fun U17 hU17 => ?_)
              have e18 := up_f hU17
              refine rg_i (by omega) ?_
              refine hK 126 [some (vR 107 0), some (vR 100 c), some (vI d), some (vI (k + 1)), none] [] U17 ?_
              have e19 : U17 107 0 1 = T2 107 0 1 := up_k hU17 (by decide) 0 1
              refine ih_126 _ ?_ (k + 1) U17 (Nat.le_refl _) ?_ ?_ ?_
              · omega
              · exact fr_u (fr_t (fr_0 _ _) (fr_s hf_126 rfl)) hU17 rfl
              · omega
              · omega
  have c_47 : ∀ (nn : Nat) (k : Int) (T1 : Zt), ((T 100 c 8 - k).toNat) ≤ nn → (fr_ [(107, [1]), (542, []), (543, []), (544, []), (545, []), (546, [])] T T1) → (0 ≤ k ∧ k ≤ T 100 c 8) → (T1 107 0 1 = c + 1) → J_ zX7_tally T (po_X7_tally T c d) 0 0 47 [some (vR 107 0), some (vR 100 c), some (vI d), some (vI k), none] [] T1 := by
    intro nn
    induction nn using Nat.strongRecOn with
    | _ nn ih_47 =>
      intro k T1 hm_47 hf_47 i1 i0
      refine j_blx (F := fX7) tb_X7 (by decide) bk_X7_tally_47 bs_X7_tally_47 hz (fun K hK => ?_)
      refine And.intro (fun c20 => ?_) (fun c20 => ?_)
      · exact absurd c20 (by omega)
      · have z21 : T1 107 0 1 - 1 = c := by omega
        rw [z21]
        intro b22 b22b
        have e23 : T1 100 c 8 = T 100 c 8 := hf_47 100 c 8 rfl
        rw [e23] at b22 b22b ⊢
        refine And.intro (fun c24 => ?_) (fun c24 => ?_)
        · refine hK 124 [some (vR 107 0), some (vR 100 c), some (vI d), some (vI k), none] [] T1 ?_
          refine j_blx (F := fX7) tb_X7 (by decide) bk_X7_tally_124 bs_X7_tally_124 hz (fun K hK => ?_)
          refine hK 126 [some (vR 107 0), some (vR 100 c), some (vI d), some (vI 0), none] [] T1 ?_
          refine c_126 _ 0 T1 (Nat.le_refl _) ?_ ?_ ?_
          · exact fr_t (fr_0 _ _) (fr_s hf_47 rfl)
          · omega
          · omega
        · refine And.intro (fun c25 => ?_) (fun c25 => ?_)
          · exact absurd c25 (by omega)
          · have z26 : T1 107 0 1 - 1 = c := by omega
            rw [z26]
            intro b27 b27b
            have e28 : T1 100 c 7 = T 100 c 7 := hf_47 100 c 7 rfl
            rw [e28] at b27 b27b ⊢
            refine rg_i (by omega) ?_
            refine ix_i (by omega) ?_
            have e30 : T1 523 0 ((T 100 c 7) + k) = T 523 0 ((T 100 c 7) + k) := hf_47 523 0 ((T 100 c 7) + k) rfl
            refine And.intro (fun c29 => ?_) (fun c29 => ?_)
            · exact absurd (show T 523 0 (T 100 c 7 + k) = 0 by omega) (hka.2 _ (by omega) (by omega))
            · intro b31 b31b
              have e32 : T1 102 ((T 100 c 7) + k) 5 = T 102 ((T 100 c 7) + k) 5 := hf_47 102 ((T 100 c 7) + k) 5 rfl
              rw [e32] at b31 b31b ⊢
              refine And.intro (fun c33 => ?_) (fun c33 => ?_)
              · refine hK 118 [some (vR 107 0), some (vR 100 c), some (vI d), some (vI k), some (vR 102 ((T 100 c 7) + k))] [] T1 ?_
                refine j_blx (F := fX7) tb_X7 (by decide) bk_X7_tally_118 bs_X7_tally_118 hz (fun K hK => ?_)
                refine rg_i (by omega) ?_
                refine hK 47 [some (vR 107 0), some (vR 100 c), some (vI d), some (vI (k + 1)), some (vR 102 ((T 100 c 7) + k))] [] T1 ?_
                refine j_drop [some (vR 107 0), some (vR 100 c), some (vI d), some (vI (k + 1)), none] (fun k v hk => ?_) rfl ?_
                · match k, hk with
                  | 0, hk => exact hk
                  | 1, hk => exact hk
                  | 2, hk => exact hk
                  | 3, hk => exact hk
                  | 4, hk => cases hk
                  | k + 5, hk => cases hk
                refine ih_47 _ ?_ (k + 1) T1 (Nat.le_refl _) ?_ ?_ ?_
                · omega
                · exact fr_t (fr_0 _ _) (fr_s hf_47 rfl)
                · omega
                · omega
              · refine hK 88 [some (vR 107 0), some (vR 100 c), some (vI d), some (vI k), some (vR 102 ((T 100 c 7) + k))] [vR 102 ((T 100 c 7) + k)] T1 ?_
                refine j_callV (y := yX2_isDecided) (Yc := zX2_isDecided) (rest := []) [] (ct_X2_isDecided (T := T1)) cl_X7_80 (qd_c (by decide +kernel)) (by decide) rfl (by decide +kernel) (Nat.le_of_ble_eq_true rfl) (by decide) (by decide) rfl ?_
                rintro _ _ ⟨rfl, x34, rfl, hx34⟩
                show J_ zX7_tally T (po_X7_tally T c d) 0 0 91 [some (vR 107 0), some (vR 100 c), some (vI d), some (vI k), some (vR 102 ((T 100 c 7) + k))] [vI x34] T1
                refine j_blx (F := fX7) tb_X7 (by decide) bk_X7_tally_91 bs_X7_tally_91 hz (fun K hK => ?_)
                refine And.intro (fun c35 => ?_) (fun c35 => ?_)
                · refine hK 118 [some (vR 107 0), some (vR 100 c), some (vI d), some (vI k), some (vR 102 ((T 100 c 7) + k))] [] T1 ?_
                  refine j_blx (F := fX7) tb_X7 (by decide) bk_X7_tally_118 bs_X7_tally_118 hz (fun K hK => ?_)
                  refine rg_i (by omega) ?_
                  refine hK 47 [some (vR 107 0), some (vR 100 c), some (vI d), some (vI (k + 1)), some (vR 102 ((T 100 c 7) + k))] [] T1 ?_
                  refine j_drop [some (vR 107 0), some (vR 100 c), some (vI d), some (vI (k + 1)), none] (fun k v hk => ?_) rfl ?_
                  · match k, hk with
                    | 0, hk => exact hk
                    | 1, hk => exact hk
                    | 2, hk => exact hk
                    | 3, hk => exact hk
                    | 4, hk => cases hk
                    | k + 5, hk => cases hk
                  refine ih_47 _ ?_ (k + 1) T1 (Nat.le_refl _) ?_ ?_ ?_
                  · omega
                  · exact fr_t (fr_0 _ _) (fr_s hf_47 rfl)
                  · omega
                  · omega
                · refine hK 100 [some (vR 107 0), some (vR 100 c), some (vI d), some (vI k), some (vR 102 ((T 100 c 7) + k))] [vI 0, vR 102 ((T 100 c 7) + k), vR 102 ((T 100 c 7) + k), vR 107 0] T1 ?_
                  refine j_callV (y := yX2_scoreOf) (Yc := zX2_scoreOf) (rest := [vR 102 ((T 100 c 7) + k), vR 107 0]) [vI 0] (ct_X2_scoreOf (T := T1) (by omega)) cl_X7_84 (qd_c (by decide +kernel)) (by decide) rfl (by decide +kernel) (Nat.le_of_ble_eq_true rfl) (by decide) (by decide) rfl ?_
                  rintro _ _ ⟨rfl, x36, rfl, hx36⟩
                  show J_ zX7_tally T (po_X7_tally T c d) 0 0 103 [some (vR 107 0), some (vR 100 c), some (vI d), some (vI k), some (vR 102 ((T 100 c 7) + k))] [vI x36, vR 102 ((T 100 c 7) + k), vR 107 0] T1
                  refine j_blx (F := fX7) tb_X7 (by decide) bk_X7_tally_103 bs_X7_tally_103 hz (fun K hK => ?_)
                  refine hK 106 [some (vR 107 0), some (vR 100 c), some (vI d), some (vI k), some (vR 102 ((T 100 c 7) + k))] [vI 1, vR 102 ((T 100 c 7) + k), vI x36, vR 102 ((T 100 c 7) + k), vR 107 0] T1 ?_
                  refine j_callV (y := yX2_scoreOf) (Yc := zX2_scoreOf) (rest := [vI x36, vR 102 ((T 100 c 7) + k), vR 107 0]) [vI 1] (ct_X2_scoreOf (T := T1) (by omega)) cl_X7_84 (qd_c (by decide +kernel)) (by decide) rfl (by decide +kernel) (Nat.le_of_ble_eq_true rfl) (by decide) (by decide) rfl ?_
                  rintro _ _ ⟨rfl, x37, rfl, hx37⟩
                  show J_ zX7_tally T (po_X7_tally T c d) 0 0 109 [some (vR 107 0), some (vR 100 c), some (vI d), some (vI k), some (vR 102 ((T 100 c 7) + k))] [vI x37, vI x36, vR 102 ((T 100 c 7) + k), vR 107 0] T1
                  refine j_callV (y := yX7_addResult) (Yc := zX7_addResult) (rest := []) [vR 102 ((T 100 c 7) + k), vI x36, vI x37] (ct_X7_addResult (T := T1) (by omega)) cl_X7_88 (qd_c (by decide +kernel)) (by decide) rfl (by decide +kernel) (Nat.le_of_ble_eq_true rfl) (by decide) (by decide) rfl ?_
                  rintro U38 _ ⟨rfl, fU38, qU38⟩
                  show J_ zX7_tally T (po_X7_tally T c d) 0 0 112 [some (vR 107 0), some (vR 100 c), some (vI d), some (vI k), some (vR 102 ((T 100 c 7) + k))] [] U38
                  refine j_blx (F := fX7) tb_X7 (by decide) bk_X7_tally_112 bs_X7_tally_112 hz (fun K hK => ?_)
                  refine hK 115 [some (vR 107 0), some (vR 100 c), some (vI d), some (vI k), some (vR 102 ((T 100 c 7) + k))] [vR 102 ((T 100 c 7) + k), vR 107 0] U38 ?_
                  have e39 : U38 107 0 1 = T1 107 0 1 := fU38 107 0 1 rfl
                  refine j_callV (y := yX7_addCards) (Yc := zX7_addCards) (rest := []) [vR 102 ((T 100 c 7) + k)] (ct_X7_addCards (T := U38) (by omega)) cl_X7_92 (qd_c (by decide +kernel)) (by decide) rfl (by decide +kernel) (Nat.le_of_ble_eq_true rfl) (by decide) (by decide) rfl ?_
                  rintro U40 _ ⟨rfl, fU40, qU40⟩
                  show J_ zX7_tally T (po_X7_tally T c d) 0 0 118 [some (vR 107 0), some (vR 100 c), some (vI d), some (vI k), some (vR 102 ((T 100 c 7) + k))] [] U40
                  refine j_blx (F := fX7) tb_X7 (by decide) bk_X7_tally_118 bs_X7_tally_118 hz (fun K hK => ?_)
                  refine rg_i (by omega) ?_
                  refine hK 47 [some (vR 107 0), some (vR 100 c), some (vI d), some (vI (k + 1)), some (vR 102 ((T 100 c 7) + k))] [] U40 ?_
                  refine j_drop [some (vR 107 0), some (vR 100 c), some (vI d), some (vI (k + 1)), none] (fun k v hk => ?_) rfl ?_
                  · match k, hk with
                    | 0, hk => exact hk
                    | 1, hk => exact hk
                    | 2, hk => exact hk
                    | 3, hk => exact hk
                    | 4, hk => cases hk
                    | k + 5, hk => cases hk
                  have e41 : U40 107 0 1 = T1 107 0 1 := (fU40 107 0 1 rfl).trans (fU38 107 0 1 rfl)
                  refine ih_47 _ ?_ (k + 1) U40 (Nat.le_refl _) ?_ ?_ ?_
                  · omega
                  · exact fr_t (fr_t (fr_t (fr_0 _ _) (fr_s hf_47 rfl)) (fr_s fU38 rfl)) (fr_s fU40 rfl)
                  · omega
                  · omega
  refine j_blx (F := fX7) tb_X7 (by decide) bk_X7_tally_0 bs_X7_tally_0 hz (fun K hK => ?_)
  refine hK 2 [some (vR 107 0), some (vR 100 c), some (vI d), none, none] [vR 100 c, vR 107 0] T ?_
  refine j_putR (pc := 2) (ci := 7) (j := 1) (by decide) fr5_X7_50 rfl (by decide +kernel) (by omega) (by omega) (by omega) ?_
  refine j_nm (fun U42 hU42 => ?_)
  have e43 := up_f hU42
  show J_ zX7_tally T (po_X7_tally T c d) 0 0 5 [some (vR 107 0), some (vR 100 c), some (vI d), none, none] [] U42
  refine j_blx (F := fX7) tb_X7 (by decide) bk_X7_tally_5 bs_X7_tally_5 hz (fun K hK => ?_)
  refine hK 10 [some (vR 107 0), some (vR 100 c), some (vI d), none, none] [vI 0, vR 542 0] U42 ?_
  refine j_callS (y := yJ7_fill_53178) (Yc := zJ7_fill_53178) (rest := []) [vR 542 0, vI 0] (ct_J7_fill_542 (T := U42) (by omega)) cl_X7_54 (qd_c (by decide +kernel)) (by decide) rfl (by decide +kernel) (Nat.le_of_ble_eq_true rfl) (by decide) (by decide) rfl ?_
  rintro U44 _ ⟨rfl, fU44, qU44o, qU44⟩
  show J_ zX7_tally T (po_X7_tally T c d) 0 0 13 [some (vR 107 0), some (vR 100 c), some (vI d), none, none] [] U44
  refine j_blx (F := fX7) tb_X7 (by decide) bk_X7_tally_13 bs_X7_tally_13 hz (fun K hK => ?_)
  refine hK 18 [some (vR 107 0), some (vR 100 c), some (vI d), none, none] [vI 0, vR 543 0] U44 ?_
  refine j_callS (y := yJ7_fill_53178) (Yc := zJ7_fill_53178) (rest := []) [vR 543 0, vI 0] (ct_J7_fill_543 (T := U44) (by omega)) cl_X7_54 (qd_c (by decide +kernel)) (by decide) rfl (by decide +kernel) (Nat.le_of_ble_eq_true rfl) (by decide) (by decide) rfl ?_
  rintro U45 _ ⟨rfl, fU45, qU45o, qU45⟩
  show J_ zX7_tally T (po_X7_tally T c d) 0 0 21 [some (vR 107 0), some (vR 100 c), some (vI d), none, none] [] U45
  refine j_blx (F := fX7) tb_X7 (by decide) bk_X7_tally_21 bs_X7_tally_21 hz (fun K hK => ?_)
  refine hK 26 [some (vR 107 0), some (vR 100 c), some (vI d), none, none] [vI 0, vR 544 0] U45 ?_
  refine j_callS (y := yJ7_fill_53178) (Yc := zJ7_fill_53178) (rest := []) [vR 544 0, vI 0] (ct_J7_fill_544 (T := U45) (by omega)) cl_X7_54 (qd_c (by decide +kernel)) (by decide) rfl (by decide +kernel) (Nat.le_of_ble_eq_true rfl) (by decide) (by decide) rfl ?_
  rintro U46 _ ⟨rfl, fU46, qU46o, qU46⟩
  show J_ zX7_tally T (po_X7_tally T c d) 0 0 29 [some (vR 107 0), some (vR 100 c), some (vI d), none, none] [] U46
  refine j_blx (F := fX7) tb_X7 (by decide) bk_X7_tally_29 bs_X7_tally_29 hz (fun K hK => ?_)
  refine hK 34 [some (vR 107 0), some (vR 100 c), some (vI d), none, none] [vI 0, vR 545 0] U46 ?_
  refine j_callS (y := yJ7_fill_53178) (Yc := zJ7_fill_53178) (rest := []) [vR 545 0, vI 0] (ct_J7_fill_545 (T := U46) (by omega)) cl_X7_54 (qd_c (by decide +kernel)) (by decide) rfl (by decide +kernel) (Nat.le_of_ble_eq_true rfl) (by decide) (by decide) rfl ?_
  rintro U47 _ ⟨rfl, fU47, qU47o, qU47⟩
  show J_ zX7_tally T (po_X7_tally T c d) 0 0 37 [some (vR 107 0), some (vR 100 c), some (vI d), none, none] [] U47
  refine j_blx (F := fX7) tb_X7 (by decide) bk_X7_tally_37 bs_X7_tally_37 hz (fun K hK => ?_)
  refine hK 42 [some (vR 107 0), some (vR 100 c), some (vI d), none, none] [vI 0, vR 546 0] U47 ?_
  refine j_callS (y := yJ7_fill_53178) (Yc := zJ7_fill_53178) (rest := []) [vR 546 0, vI 0] (ct_J7_fill_546 (T := U47) (by omega)) cl_X7_54 (qd_c (by decide +kernel)) (by decide) rfl (by decide +kernel) (Nat.le_of_ble_eq_true rfl) (by decide) (by decide) rfl ?_
  rintro U48 _ ⟨rfl, fU48, qU48o, qU48⟩
  show J_ zX7_tally T (po_X7_tally T c d) 0 0 45 [some (vR 107 0), some (vR 100 c), some (vI d), none, none] [] U48
  refine j_blx (F := fX7) tb_X7 (by decide) bk_X7_tally_45 bs_X7_tally_45 hz (fun K hK => ?_)
  refine hK 47 [some (vR 107 0), some (vR 100 c), some (vI d), some (vI 0), none] [] U48 ?_
  have e49 : U48 107 0 1 = c + 1 := (fU48 107 0 1 rfl).trans ((fU47 107 0 1 rfl).trans ((fU46 107 0 1 rfl).trans ((fU45 107 0 1 rfl).trans ((fU44 107 0 1 rfl).trans (up_f hU42)))))
  refine c_47 _ 0 U48 (Nat.le_refl _) ?_ ?_ ?_
  · exact fr_t (fr_t (fr_t (fr_t (fr_t (fr_u (fr_0 _ _) hU42 rfl) (fr_s fU44 rfl)) (fr_s fU45 rfl)) (fr_s fU46 rfl)) (fr_s fU47 rfl)) (fr_s fU48 rfl)
  · omega
  · omega

