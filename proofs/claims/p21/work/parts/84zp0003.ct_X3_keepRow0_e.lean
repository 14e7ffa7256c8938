abbrev po_X3_keepRow0_e (T : Zt) (p : Int) (k s v w : Int) : Zt → Option Zv → Prop := fun T' r => r = none ∧ fr_ [(103, [15]), (190, [])] T T' ∧ (oq_ T T' p ∧ T' 103 p 15 = T 103 p 15 + 1 ∧ (∀ x, x < T 191 0 0 → T' 190 x (-2) = T 190 x (-2)) ∧ (∀ x j, ¬ (x = T 103 p 14 ∧ T 103 p 15 * 4 ≤ j ∧ j < T 103 p 15 * 4 + 4) → T' 190 x j = T 190 x j) ∧ hr9_ T' (T' 103 p 14) (T' 103 p 15).toNat = hr9_ T (T 103 p 14) (T 103 p 15).toNat ++ [(k, s, v, w)])
set_option maxHeartbeats 4000000 in
theorem ct_X3_keepRow0_e {T : Zt} {p : Int} {k s v w : Int} (h1 : 0 ≤ T 103 p 15 ∧ T 103 p 15 < 512 ∧ 4 * T 103 p 15 ≤ T 190 (T 103 p 14) (-2)) (h2 : T 103 p 14 < T 191 0 0 ∧ T 191 0 0 ≤ 2000000000 ∧ -2147483648 ≤ T 103 p 14) (h3 : 4 * T 103 p 15 + 4 ≤ T 190 (T 103 p 14) (-2)) : Ct_ yX3_keepRow zX3_keepRow0 T [vR 103 p, vI k, vI s, vI v, vI w] (po_X3_keepRow0_e T p k s v w) := by
  refine ct_of pn_3 rfl rfl (Nat.le_of_ble_eq_true rfl) (fun hT hav => ?_)
  have hr_k : -2147483648 ≤ k ∧ k ≤ 2147483647 := hav (vI k) (List.mem_cons_of_mem _ List.mem_cons_self)
  have hr_s : -2147483648 ≤ s ∧ s ≤ 2147483647 := hav (vI s) (List.mem_cons_of_mem _ (List.mem_cons_of_mem _ List.mem_cons_self))
  have hr_v : -2147483648 ≤ v ∧ v ≤ 2147483647 := hav (vI v) (List.mem_cons_of_mem _ (List.mem_cons_of_mem _ (List.mem_cons_of_mem _ List.mem_cons_self)))
  have hr_w : -2147483648 ≤ w ∧ w ≤ 2147483647 := hav (vI w) (List.mem_cons_of_mem _ (List.mem_cons_of_mem _ (List.mem_cons_of_mem _ (List.mem_cons_of_mem _ List.mem_cons_self))))
  have hz : zX3_keepRow0.2.2.2.1 = some .boolean → ∀ (T' : Zt) (x : Int), po_X3_keepRow0_e T p k s v w T' (some (vI x)) → 0 ≤ x ∧ x ≤ 1 := fun h => by cases h
  show J_ zX3_keepRow0 T (po_X3_keepRow0_e T p k s v w) 0 0 0 [some (vR 103 p), some (vI k), some (vI s), some (vI v), some (vI w)] [] T
  refine j_blx (F := fX3) tb_X3 (nn_ _) bk_X3_keepRow_e_0 bs_X3_keepRow_e_0 hz (fun K hK => ?_)
  intro b1 b1b
  refine rg_i (by omega) ?_
  refine rg_i (by omega) ?_
  intro b3 b3b
  refine And.intro (fun c4 => ?_) (fun c4 => ?_)
  · refine hK 34 _ [] T ?_
    refine j_blx (F := fX3) tb_X3 (nn_ _) bk_X3_keepRow_e_34 bs_X3_keepRow_e_34 hz (fun K hK => ?_)
    intro b6 b6b
    refine hK 47 _ [vI w, vI v, vI s, vI k, vI (T 103 p 15), vR 190 (T 103 p 14)] T ?_
    refine j_callS (y := yX3_writeRow) (Yc := zX3_writeRow) (rest := []) [vR 190 (T 103 p 14), vI (T 103 p 15), vI k, vI s, vI v, vI w] (ct_X3_writeRow_e (T := T) (by omega)) cl_X3_161 (qd_c (by decide +kernel)) (nn_ _) rfl (rf_of rfl) (Nat.le_of_ble_eq_true rfl) (Nat.le_of_ble_eq_true rfl) (Nat.le_of_ble_eq_true rfl) rfl ?_
    rintro U7 _ ⟨rfl, fU7, lU7, wU7, rU7⟩
    show J_ zX3_keepRow0 T (po_X3_keepRow0_e T p k s v w) 0 0 50 _ [] U7
    refine j_blx (F := fX3) tb_X3 (nn_ _) bk_X3_keepRow_e_50 bs_X3_keepRow_e_50 hz (fun K hK => ?_)
    intro b8 b8b
    have e9 : U7 103 p 15 = T 103 p 15 := fU7 103 p 15 rfl
    rw [e9] at b8 b8b ⊢
    refine rg_i (by omega) ?_
    refine bd_i (by omega) ?_
    refine x_nm (fun U10 hU10 => ?_)
    have e11 := up_f hU10
    refine (show po_X3_keepRow0_e T p k s v w U10 (none) from ?_)
    have e12 : U10 103 p 15 = (T 103 p 15) + 1 := up_f hU10
    have e13 : U10 103 p 14 = T 103 p 14 := (up_j hU10 (by decide) 103 p).trans (fU7 103 p 14 rfl)
    have e14 : U10 103 p 14 = T 103 p 14 := (up_j hU10 (by decide) 103 p).trans (fU7 103 p 14 rfl)
    have e15 : U10 103 p 15 = (T 103 p 15) + 1 := up_f hU10
    have d1 : U10 103 p 14 = T 103 p 14 := by omega
    have b1 : ra9_ U10 (U10 103 p 14) (T 103 p 15) = (k, s, v, w) := by
      rw [d1, ra_k (T := U7) (fun _ => up_k hU10 (by exact Nat.ne_of_beq_eq_false rfl) _ _)]
      exact rU7
    have b2 : hr9_ U10 (U10 103 p 14) (U10 103 p 15).toNat = hr9_ T (T 103 p 14) (T 103 p 15).toNat ++ [(k, s, v, w)] := hrw_k (by omega) (by omega) (fun j j0 j1 => by
      rw [d1]
      exact (up_k hU10 (by exact Nat.ne_of_beq_eq_false rfl) _ _).trans (wU7 _ _ (fun z => by omega))) b1
    exact ⟨rfl, fr_u (fr_t (fr_0 _ _) (fr_s fU7 rfl)) hU10 rfl, oq_u (oq_1 (oq_r) fU7) hU10, by omega, fun x hx => (up_k hU10 (by exact Nat.ne_of_beq_eq_false rfl) _ (-2)).trans (lU7 _), fun x j hx => (up_k hU10 (by exact Nat.ne_of_beq_eq_false rfl) _ _).trans (wU7 _ _ (fun z => hx (by omega))), b2⟩
  · exact absurd c4 (by omega)
