abbrev cX5_readStatement : ByteArray := prog_7_method_3_code
def yX5_readStatement : MethodName := ⟨RX5, "readStatement", "()Z"⟩
def zX5_readStatement : Zm := (RX5, cX5_readStatement, 3, (some .boolean), { frames := 6, cells := 0, slots := 0, locals := 133 })
theorem ds_X5_readStatement_44 : decode cX5_readStatement 44 = .ok (.tableswitch 65 0 3 #[32, 40, 48, 53], 32) := by decide +kernel
set_option maxRecDepth 100000 in
theorem cl_X5_63 : cv_ RX5 63 yX5_readSport zX5_readSport 5 0 := ⟨gi_V (lw_b3 43 (by decide +kernel) rfl : Cond.methodLink RX5 63 yX5_readSport ∈ lw_g) (lw_b3 45 (by decide +kernel) rfl : Cond.instanceMethod yX5_readSport ∈ lw_g) (lw_sel 115 rfl : Cond.selects yX5_readSport.cls yX5_readSport yX5_readSport ∈ lw_g) (lw_b1 2 (by decide +kernel) rfl : Cond.initialized yX5_readSport.cls ∈ lw_g) (lw_b3 46 rfl rfl : Cond.code yX5_readSport cX5_readSport 2 (some .boolean) ∈ lw_g), ⟨by decide, by decide, by decide +kernel⟩, ⟨_, _, rfl⟩⟩
set_option maxRecDepth 100000 in
theorem cl_X5_66 : cv_ RX5 66 yX5_readPoints zX5_readPoints 5 0 := ⟨gi_V (lw_b3 48 (by decide +kernel) rfl : Cond.methodLink RX5 66 yX5_readPoints ∈ lw_g) (lw_b3 50 (by decide +kernel) rfl : Cond.instanceMethod yX5_readPoints ∈ lw_g) (lw_sel 113 rfl : Cond.selects yX5_readPoints.cls yX5_readPoints yX5_readPoints ∈ lw_g) (lw_b1 2 (by decide +kernel) rfl : Cond.initialized yX5_readPoints.cls ∈ lw_g) (lw_b3 51 rfl rfl : Cond.code yX5_readPoints cX5_readPoints 1 (some .boolean) ∈ lw_g), ⟨by decide, by decide, by decide +kernel⟩, ⟨_, _, rfl⟩⟩
set_option maxRecDepth 100000 in
theorem cl_X5_69 : cv_ RX5 69 yX5_readOrder zX5_readOrder 5 0 := ⟨gi_V (lw_b3 60 (by decide +kernel) rfl : Cond.methodLink RX5 69 yX5_readOrder ∈ lw_g) (lw_b3 62 (by decide +kernel) rfl : Cond.instanceMethod yX5_readOrder ∈ lw_g) (lw_sel 112 rfl : Cond.selects yX5_readOrder.cls yX5_readOrder yX5_readOrder ∈ lw_g) (lw_b1 2 (by decide +kernel) rfl : Cond.initialized yX5_readOrder.cls ∈ lw_g) (lw_b3 63 rfl rfl : Cond.code yX5_readOrder cX5_readOrder 4 (some .boolean) ∈ lw_g), ⟨by decide, by decide, by decide +kernel⟩, ⟨_, _, rfl⟩⟩
abbrev po_J7_fill_505 (T : Zt) (p : Int) (v : Int) : Zt → Option Zv → Prop := fun T' r => r = none ∧ fr_ [(505, [])] T T' ∧ oi_ T T' p ∧ ∀ j, 0 ≤ j → j < 7 → T' 505 p j = v
set_option maxHeartbeats 4000000 in
theorem ct_J7_fill_505 {T : Zt} {p : Int} {v : Int} (h1 : (-1) ≤ v ∧ v ≤ 6) : Ct_ yJ7_fill_53178 zJ7_fill_53178 T [vR 505 p, vI v] (po_J7_fill_505 T p v) := by
  refine ct_of (by decide) rfl rfl (Nat.le_of_ble_eq_true rfl) (fun hT hav => ?_)
  have hr_v : -2147483648 ≤ v ∧ v ≤ 2147483647 := hav (vI v) (by simp)
  have hz : zJ7_fill_53178.2.2.2.1 = some .boolean → ∀ (T' : Zt) (x : Int), po_J7_fill_505 T p v T' (some (vI x)) → 0 ≤ x ∧ x ≤ 1 := fun h => by cases h
  show J_ zJ7_fill_53178 T (po_J7_fill_505 T p v) 0 0 0 [some (vR 505 p), some (vI v), none, none] [] T
  have c_5 : ∀ (nn : Nat) (j : Int) (T1 : Zt), ((7 - j).toNat) ≤ nn → (fr_ [(505, [])] T T1) → (0 ≤ j ∧ j ≤ 7) → (oi_ T T1 p) → (∀ q, 0 ≤ q → q < j → T1 505 p q = v) → J_ zJ7_fill_53178 T (po_J7_fill_505 T p v) 0 0 5 [some (vR 505 p), some (vI v), some (vI j), some (vI 7)] [] T1 := by
    intro nn
    induction nn using Nat.strongRecOn with
    | _ nn ih_5 =>
      intro j T1 hm_5 hf_5 i1 o1 f1
      refine j_blx (F := fJ7) tb_J7 (by decide) bk_J7_fill_53178_5 bs_J7_fill_53178_5 hz (fun K hK => ?_)
      refine And.intro (fun c1 => ?_) (fun c1 => ?_)
      · refine hK 20 [some (vR 505 p), some (vI v), some (vI j), some (vI 7)] [] T1 ?_
        refine j_blx (F := fJ7) tb_J7 (by decide) bk_J7_fill_53178_20 bs_J7_fill_53178_20 hz (fun K hK => ?_)
        refine (show po_J7_fill_505 T p v T1 (none) from ?_)
        exact ⟨rfl, fr_t (fr_0 _ _) (fr_s hf_5 rfl), o1, fun q a b => f1 q a (by omega)⟩
      · refine iy_i (by omega) (by omega) ?_
        refine x_nm (fun U2 hU2 => ?_)
        have e3 := up_f hU2
        refine rg_i (by omega) ?_
        refine hK 5 [some (vR 505 p), some (vI v), some (vI (j + 1)), some (vI 7)] [] U2 ?_
        refine ih_5 _ ?_ (j + 1) U2 (Nat.le_refl _) ?_ ?_ ?_ ?_
        · omega
        · exact fr_u (fr_t (fr_0 _ _) (fr_s hf_5 rfl)) hU2 rfl
        · omega
        · exact oi_u o1 hU2
        · intro q a b
          by_cases z : q = j
          · rw [z]; exact up_f hU2
          · rw [up_g hU2 (fun y => z y.2.2)]; exact f1 q a (by omega)
  refine j_blx (F := fJ7) tb_J7 (by decide) bk_J7_fill_53178_0 bs_J7_fill_53178_0 hz (fun K hK => ?_)
  refine hK 5 [some (vR 505 p), some (vI v), some (vI 0), some (vI 7)] [] T ?_
  refine c_5 _ 0 T (Nat.le_refl _) ?_ ?_ ?_ ?_
  · exact fr_0 _ _
  · omega
  · exact oi_r
  · intro q a b; omega
abbrev cX5_read : ByteArray := prog_7_method_2_code
def yX5_read : MethodName := ⟨RX5, "read", "()Z"⟩
def zX5_read : Zm := (RX5, cX5_read, 2, (some .boolean), { frames := 7, cells := 0, slots := 0, locals := 155 })
set_option maxRecDepth 100000 in
theorem cl_X5_49 : cv_ RX5 49 yX5_readStatement zX5_readStatement 5 0 := ⟨gi_V (lw_b2 218 (by decide +kernel) rfl : Cond.methodLink RX5 49 yX5_readStatement ∈ lw_g) (lw_b2 220 (by decide +kernel) rfl : Cond.instanceMethod yX5_readStatement ∈ lw_g) (lw_sel 116 rfl : Cond.selects yX5_readStatement.cls yX5_readStatement yX5_readStatement ∈ lw_g) (lw_b1 2 (by decide +kernel) rfl : Cond.initialized yX5_readStatement.cls ∈ lw_g) (lw_b2 221 rfl rfl : Cond.code yX5_readStatement cX5_readStatement 3 (some .boolean) ∈ lw_g), ⟨by decide, by decide, by decide +kernel⟩, ⟨_, _, rfl⟩⟩
set_option maxRecDepth 100000 in
theorem cl_X5_37 : cs_ RX5 37 yJ7_fill_53178 zJ7_fill_53178 2 := ⟨gi_S (lw_b2 205 (by decide +kernel) rfl : Cond.methodLink RX5 37 yJ7_fill_53178 ∈ lw_g) (lw_b2 26 (by decide +kernel) rfl : Cond.static yJ7_fill_53178 ∈ lw_g) (lw_b1 7 (by decide +kernel) rfl : Cond.initialized yJ7_fill_53178.cls ∈ lw_g) (lw_b2 27 rfl rfl : Cond.code yJ7_fill_53178 cJ7_fill_53178 4 none ∈ lw_g), ⟨by decide, by decide, by decide +kernel⟩⟩
