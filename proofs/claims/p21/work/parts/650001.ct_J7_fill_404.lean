abbrev po_J7_fill_404 (T : Zt) (p : Int) (v : Int) : Zt → Option Zv → Prop := fun T' r => r = none ∧ fr_ [(404, [])] T T' ∧ oi_ T T' p ∧ ∀ j, 0 ≤ j → j < 12 → T' 404 p j = v
set_option maxHeartbeats 4000000 in
theorem ct_J7_fill_404 {T : Zt} {p : Int} {v : Int} (h1 : (-1) ≤ v ∧ v ≤ 11) : Ct_ yJ7_fill_53178 zJ7_fill_53178 T [vR 404 p, vI v] (po_J7_fill_404 T p v) := by
  refine ct_of (by decide) rfl rfl (Nat.le_of_ble_eq_true rfl) (fun hT hav => ?_)
  have hr_v : -2147483648 ≤ v ∧ v ≤ 2147483647 := hav (vI v) (List.mem_cons_of_mem _ List.mem_cons_self)
  have hz : zJ7_fill_53178.2.2.2.1 = some .boolean → ∀ (T' : Zt) (x : Int), po_J7_fill_404 T p v T' (some (vI x)) → 0 ≤ x ∧ x ≤ 1 := fun h => by cases h
  show J_ zJ7_fill_53178 T (po_J7_fill_404 T p v) 0 0 0 [some (vR 404 p), some (vI v), none, none] [] T
  have c_5 : ∀ (nn : Nat) (j : Int) (T1 : Zt), ((12 - j).toNat) ≤ nn → (fr_ [(404, [])] T T1) → (0 ≤ j ∧ j ≤ 12) → (oi_ T T1 p) → (∀ q, 0 ≤ q → q < j → T1 404 p q = v) → J_ zJ7_fill_53178 T (po_J7_fill_404 T p v) 0 0 5 [some (vR 404 p), some (vI v), some (vI j), some (vI 12)] [] T1 := by
    intro nn
    induction nn using Nat.strongRecOn with
    | _ nn ih_5 =>
      intro j T1 hm_5 hf_5 i1 o1 f1
      replace hm_5 := fun (_ : Unit) => hm_5
      refine j_blx (F := fJ7) tb_J7 (nn_ _) bk_J7_fill_53178_5 bs_J7_fill_53178_5 hz (fun K hK => ?_)
      refine And.intro (fun c1 => ?_) (fun c1 => ?_)
      · refine hK 20 _ [] T1 ?_
        refine j_blx (F := fJ7) tb_J7 (nn_ _) bk_J7_fill_53178_20 bs_J7_fill_53178_20 hz (fun K hK => ?_)
        refine (show po_J7_fill_404 T p v T1 (none) from ?_)
        exact ⟨rfl, fr_t (fr_0 _ _) (fr_s hf_5 rfl), o1, fun q a b => f1 q a (by omega)⟩
      · refine iy_i (by omega) (by omega) ?_
        refine x_nm (fun U2 hU2 => ?_)
        have e3 := up_f hU2
        refine rg_i (by omega) ?_
        refine hK 5 [some (vR 404 p), some (vI v), some (vI (j + 1)), some (vI 12)] [] U2 ?_
        refine ih_5 _ ?_ (j + 1) U2 (Nat.le_refl _) ?_ ?_ ?_ ?_
        · have hm_5 := hm_5 (); omega
        · exact fr_u (fr_t (fr_0 _ _) (fr_s hf_5 rfl)) hU2 rfl
        · omega
        · exact oi_u o1 hU2
        · intro q a b
          by_cases z : q = j
          · rw [z]; exact up_f hU2
          · rw [up_g hU2 (fun y => z y.2.2)]; exact f1 q a (by omega)
  refine j_blx (F := fJ7) tb_J7 (nn_ _) bk_J7_fill_53178_0 bs_J7_fill_53178_0 hz (fun K hK => ?_)
  refine hK 5 [some (vR 404 p), some (vI v), some (vI 0), some (vI 12)] [] T ?_
  refine c_5 _ 0 T (Nat.le_refl _) ?_ ?_ ?_ ?_
  · exact fr_0 _ _
  · omega
  · exact oi_r
  · intro q a b; omega
