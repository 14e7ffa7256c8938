def qx_eligible (N : Int) (T : Zt) (q9 m9 d9 : Int) (T' : Zt) (r : Option Zv) : Prop := ∃ x : Int, r = some (vI x) ∧ IC_ (N + 1) T' ∧ IR_ T' ∧ fr_ [(533, [])] T T' ∧ (((x = -2 ∧ ¬ ((0 ≤ q9 ∧ q9 < T 108 0 3) ∧ 0 ≤ m9 ∧ m9 < T 106 0 4)) ∨ (((0 ≤ q9 ∧ q9 < T 108 0 3) ∧ 0 ≤ m9 ∧ m9 < T 106 0 4) ∧ ((x = -3 ∧ ¬ (0 ≤ d9 ∧ d9 ≤ 1)) ∨ ((0 ≤ d9 ∧ d9 ≤ 1) ∧ x = wyH_ T q9 m9 d9)))))
set_option maxRecDepth 100000 in
theorem cx_eligible {N : Int} {T : Zt} {q9 m9 d9 : Int} (hT : ok_T T) (ha : al_ T 109 0) (hI : IC_ N T) (hN : 0 ≤ N ∧ N ≤ 511) (hR : IR_ T) (hE : RE_ T) : Cw_ yX10_eligible zX10_eligible T [vR 110 0, vI q9, vI m9, vI d9] (qx_eligible N T q9 m9 d9) := by
  refine ⟨_, ct_X10_eligible_f hI.1.1 hI.1.2.1 hI.1.2.2.1 hE.2.2.1, fun T1 r q => ?_⟩
  obtain ⟨x, rfl, f, h⟩ := q
  have g := (ic_eligible hI (show po_X10_eligible T q9 m9 d9 T1 (some (vI x)) from ⟨x, rfl, f, rfl⟩))
  exact ⟨x, rfl, g, ir_g hR (fr_s f (by decide +kernel)), f, h⟩
def qx_lineUp (N : Int) (T : Zt) (q9 b9 s9 : Int) (T' : Zt) (r : Option Zv) : Prop := ∃ x : Int, r = some (vI x) ∧ IC_ (N + 1) T' ∧ IR_ T' ∧ fr_ [(448, []), (449, []), (533, [])] T T' ∧ (((x = -2 ∧ ¬ ((0 ≤ q9 ∧ q9 < T 108 0 3) ∧ 0 ≤ b9 ∧ b9 < T 106 0 4) ∧ SHN_ T T') ∨ (((0 ≤ q9 ∧ q9 < T 108 0 3) ∧ 0 ≤ b9 ∧ b9 < T 106 0 4) ∧ ((x = -3 ∧ ¬ (0 ≤ s9 ∧ s9 ≤ 1) ∧ SHN_ T T') ∨ ((0 ≤ s9 ∧ s9 ≤ 1) ∧ ((x = -4 ∧ ¬ (T 102 b9 6 = -1 ∧ T 102 b9 10 = 0) ∧ SHN_ T T') ∨ ((T 102 b9 6 = -1 ∧ T 102 b9 10 = 0) ∧ ((x = -5 ∧ T 401 (T 102 b9 0) 9 + 4 ≤ T 449 b9 s9 ∧ SHN_ T T') ∨ (T 449 b9 s9 < T 401 (T 102 b9 0) 9 + 4 ∧ ((wyH_ T q9 b9 s9 ≠ 0 ∧ x = -10 - wyH_ T q9 b9 s9 ∧ SHN_ T T') ∨ (wyH_ T q9 b9 s9 = 0 ∧ x = T 449 b9 s9 + 1 ∧ SHH_ T T' b9 s9 q9)))))))))))
set_option maxRecDepth 100000 in
theorem cx_lineUp {N : Int} {T : Zt} {q9 b9 s9 : Int} (hT : ok_T T) (ha : al_ T 109 0) (hI : IC_ N T) (hN : 0 ≤ N ∧ N ≤ 511) (hR : IR_ T) (hE : RE_ T) : Cw_ yX10_lineUp zX10_lineUp T [vR 110 0, vI q9, vI b9, vI s9] (qx_lineUp N T q9 b9 s9) := by
  refine ⟨_, ct_X10_lineUp_f hI.1.1 hI.1.2.1 hI.1.2.2.1 hI.1.2.2.2.1 hE.2.2.1, fun T1 r q => ?_⟩
  obtain ⟨x, rfl, f, h⟩ := q
  have g := (ic_lineUp hI (show po_X10_lineUp T q9 b9 s9 T1 (some (vI x)) from ⟨x, rfl, f, rfl⟩))
  exact ⟨x, rfl, g, ir_g hR (fr_s f (by decide +kernel)), f, h⟩
def qx_start (N : Int) (T : Zt) (m9 : Int) (T' : Zt) (r : Option Zv) : Prop := ∃ x : Int, r = some (vI x) ∧ IC_ (N + 1) T' ∧ IR_ T' ∧ fr_ [(153, []), (103, []), (102, [10]), (466, []), (467, []), (468, []), (469, []), (470, []), (471, []), (472, []), (473, []), (190, []), (191, [0])] T T' ∧ ((LP_ N T' ∧ lh_ T T' ∧ T' 191 0 0 ≤ T 191 0 0 + 600 ∧ NA_ T' ∧ ∀ k i j, i ≠ m9 → k ≠ 190 → k ≠ 191 → T' k i j = T k i j) ∧ ((x = -2 ∧ ¬ (0 ≤ m9 ∧ m9 < T 106 0 4) ∧ T = T') ∨ ((0 ≤ m9 ∧ m9 < T 106 0 4) ∧ ((x = -4 ∧ ¬ ((T 102 m9 6 = -1 ∧ T 102 m9 10 = 0) ∧ T 102 m9 5 = T 108 0 13 ∧ T 401 (T 102 m9 0) 9 ≤ T 449 m9 0 ∧ T 401 (T 102 m9 0) 9 ≤ T 449 m9 1) ∧ T = T') ∨ (x = 1 ∧ ((T 102 m9 6 = -1 ∧ T 102 m9 10 = 0) ∧ T 102 m9 5 = T 108 0 13 ∧ T 401 (T 102 m9 0) 9 ≤ T 449 m9 0 ∧ T 401 (T 102 m9 0) 9 ≤ T 449 m9 1) ∧ T' 102 m9 10 ≠ 0 ∧ T' 103 m9 0 = T 102 m9 0 ∧ (∃ z : Sg_, (∀ (k : Nat) (j : Int), k = 448 ∨ k = 449 → z k j = rs9_ T m9 k j) ∧ rs9_ T' m9 = bb9_ (rlm_ (fun w => T 401 (T 102 m9 0) w)) z) ∧ T' 103 m9 14 = T 191 0 0 ∧ T' 103 m9 16 = T 191 0 0 + 1 ∧ T' 103 m9 15 = 0 ∧ T' 103 m9 17 = 0 ∧ (∀ x j, x < T 191 0 0 → T' 190 x j = T 190 x j) ∧ ∀ k i j, i ≠ m9 → k ≠ 190 → k ≠ 191 → T' k i j = T k i j)))))
set_option maxRecDepth 100000 in
theorem cx_start {N : Int} {T : Zt} {m9 : Int} (hT : ok_T T) (ha : al_ T 109 0) (hI : IC_ N T) (hN : 0 ≤ N ∧ N ≤ 511) (hR : IR_ T) (hE : RE_ T) : Cw_ yX10_start zX10_start T [vR 110 0, vI m9] (qx_start N T m9) := by
  have h9 : 0 ≤ T 191 0 0 ∧ T 191 0 0 ≤ 900000000 := ⟨hI.2.2.2.2.2.1, by have := hI.2.2.2.2.2.2; omega⟩
  refine ⟨_, ct_X10_start_e hI.1.1 hI.1.2.1 hI.1.2.2.2.1 hI.2.2.2.1 hN h9 hI.2.2.1 rlm_s, fun T1 r q => ?_⟩
  obtain ⟨x, rfl, f, h⟩ := q
  have g := (ic_start hT ha hI (show po_X10_start T N m9 T1 (some (vI x)) from ⟨x, rfl, f, h.1⟩))
  exact ⟨x, rfl, g, ir_g hR (fr_s f (by decide +kernel)), f, h⟩
def qx_walkOver (N : Int) (T : Zt) (m9 d9 : Int) (T' : Zt) (r : Option Zv) : Prop := ∃ x : Int, r = some (vI x) ∧ IC_ (N + 1) T' ∧ IR_ T' ∧ fr_ [(102, [6])] T T' ∧ (((x = -2 ∧ ¬ (0 ≤ m9 ∧ m9 < T 106 0 4) ∧ T = T') ∨ ((0 ≤ m9 ∧ m9 < T 106 0 4) ∧ ((x = -3 ∧ ¬ (0 ≤ d9 ∧ d9 ≤ 1) ∧ T = T') ∨ ((0 ≤ d9 ∧ d9 ≤ 1) ∧ ((x = -4 ∧ ¬ ((T 102 m9 6 = -1 ∧ T 102 m9 10 = 0) ∧ T 102 m9 5 ≤ T 108 0 13) ∧ T = T') ∨ (x = 1 ∧ ((T 102 m9 6 = -1 ∧ T 102 m9 10 = 0) ∧ T 102 m9 5 ≤ T 108 0 13) ∧ T' = up_ T 102 m9 6 d9)))))))
set_option maxRecDepth 100000 in
theorem cx_walkOver {N : Int} {T : Zt} {m9 d9 : Int} (hT : ok_T T) (ha : al_ T 109 0) (hI : IC_ N T) (hN : 0 ≤ N ∧ N ≤ 511) (hR : IR_ T) (hE : RE_ T) : Cw_ yX10_walkOver zX10_walkOver T [vR 110 0, vI m9, vI d9] (qx_walkOver N T m9 d9) := by
  refine ⟨_, ct_X10_walkOver_e hI.1.1, fun T1 r q => ?_⟩
  obtain ⟨x, rfl, f, h⟩ := q
  have g := (ic_walkOver hI (show po_X10_walkOver_k T m9 d9 T1 (some (vI x)) from ⟨x, rfl, f, wo_k h⟩))
  exact ⟨x, rfl, g, ir_g hR (fr_s f (by decide +kernel)), f, h⟩
def qx_event (N : Int) (T : Zt) (m9 k9 s9 a9 b9 : Int) (T' : Zt) (r : Option Zv) : Prop := ∃ x : Int, r = some (vI x) ∧ IC_ (N + 1) T' ∧ IR_ T' ∧ fr_ [(106, [5]), (103, [3, 4, 5, 14, 15]), (466, []), (467, []), (468, []), (472, []), (471, []), (469, []), (470, []), (473, []), (190, []), (191, [0])] T T' ∧ ((LP_ (N + 1) T' ∧ lh_ T T' ∧ T' 191 0 0 ≤ T 191 0 0 + 600) ∧ ((x = -2 ∧ ¬ (0 ≤ m9 ∧ m9 < T 106 0 4) ∧ T = T') ∨ ((0 ≤ m9 ∧ m9 < T 106 0 4) ∧ ((T 102 m9 10 = 0 ∧ x = -11 ∧ T = T') ∨ (¬ (T 102 m9 10 = 0) ∧ ((lw9_ (rlm_ (fun w => T 401 (T 103 m9 0) w)) (rs9_ T m9) k9 s9 a9 b9 ≠ 0 ∧ x = -10 - lw9_ (rlm_ (fun w => T 401 (T 103 m9 0) w)) (rs9_ T m9) k9 s9 a9 b9 ∧ T = T') ∨ (lw9_ (rlm_ (fun w => T 401 (T 103 m9 0) w)) (rs9_ T m9) k9 s9 a9 b9 = 0 ∧ 3000 ≤ T 106 0 5 ∧ x = -5 ∧ T = T') ∨ (lw9_ (rlm_ (fun w => T 401 (T 103 m9 0) w)) (rs9_ T m9) k9 s9 a9 b9 = 0 ∧ T 106 0 5 < 3000 ∧ T' 106 0 5 = T 106 0 5 + 1 ∧ rs9_ T' m9 = ca9_ (rlm_ (fun w => T 401 (T 103 m9 0) w)) (rs9_ T m9) k9 s9 a9 b9 ∧ hr9_ T' (T' 103 m9 14) (T' 103 m9 15).toNat = hr9_ T (T 103 m9 14) (T 103 m9 15).toNat ++ [(k9, s9, a9, b9)] ∧ x = T' 103 m9 15 ∧ T' 103 m9 15 = T 103 m9 15 + 1 ∧ T' 103 m9 17 = T 103 m9 17 ∧ OMH_ T T' m9)))))))
set_option maxRecDepth 100000 in
theorem cx_event {N : Int} {T : Zt} {m9 k9 s9 a9 b9 : Int} (hT : ok_T T) (ha : al_ T 109 0) (hI : IC_ N T) (hN : 0 ≤ N ∧ N ≤ 511) (hR : IR_ T) (hE : RE_ T) : Cw_ yX10_event zX10_event T [vR 110 0, vI m9, vI k9, vI s9, vI a9, vI b9] (qx_event N T m9 k9 s9 a9 b9) := by
  have h9 : 0 ≤ T 191 0 0 ∧ T 191 0 0 ≤ 900000000 := ⟨hI.2.2.2.2.2.1, by have := hI.2.2.2.2.2.2; omega⟩
  refine ⟨_, ct_X10_event_e hI.1.1 hI.1.2.1 hI.1.2.2.2.1 hI.2.2.2.1 hN h9 rlm_p, fun T1 r q => ?_⟩
  obtain ⟨x, rfl, f, h⟩ := q
  have g := (ic_event hT ha hI (show po_X10_event T N m9 k9 s9 a9 b9 T1 (some (vI x)) from ⟨x, rfl, f, h.1⟩))
  exact ⟨x, rfl, g, ir_g hR (fr_s f (by decide +kernel)), f, h⟩
def qx_review (N : Int) (T : Zt) (m9 i9 k9 s9 a9 b9 : Int) (T' : Zt) (r : Option Zv) : Prop := ∃ x : Int, r = some (vI x) ∧ IC_ (N + 1) T' ∧ IR_ T' ∧ fr_ [(103, [3, 4, 5, 15, 16, 17]), (466, []), (467, []), (468, []), (469, []), (472, []), (473, []), (470, []), (471, []), (190, []), (191, [0])] T T' ∧ ((LP_ (N + 1) T' ∧ lh_ T T' ∧ T' 191 0 0 ≤ T 191 0 0 + 600) ∧ ((x = -2 ∧ ¬ ((0 ≤ m9 ∧ m9 < T 106 0 4) ∧ ¬ (T 102 m9 10 = 0) ∧ 0 ≤ i9 ∧ i9 < T 103 m9 15) ∧ T = T') ∨ (((0 ≤ m9 ∧ m9 < T 106 0 4) ∧ ¬ (T 102 m9 10 = 0) ∧ 0 ≤ i9 ∧ i9 < T 103 m9 15) ∧ OMH_ T T' m9 ∧ ((k9 = -1 ∧ RNH_ (rlm_ (fun w => T 401 (T 103 m9 0) w)) m9 x T T' ((hr9_ T (T 103 m9 14) (T 103 m9 15).toNat).eraseIdx i9.toNat)) ∨ (k9 ≠ -1 ∧ ((¬ ((k9 = 0 ∨ (0 ≤ s9 ∧ s9 ≤ 1)) ∧ (((rlm_ (fun w => T 401 (T 103 m9 0) w)) 0 = 0 ∧ 0 ≤ k9 ∧ k9 ≤ 5) ∨ ((rlm_ (fun w => T 401 (T 103 m9 0) w)) 0 = 1 ∧ (k9 = 1 ∨ k9 = 5)) ∨ ((rlm_ (fun w => T 401 (T 103 m9 0) w)) 0 = 2 ∧ (k9 = 1 ∨ k9 = 6)) ∨ (¬ (rlm_ (fun w => T 401 (T 103 m9 0) w)) 0 = 0 ∧ ¬ (rlm_ (fun w => T 401 (T 103 m9 0) w)) 0 = 1 ∧ ¬ (rlm_ (fun w => T 401 (T 103 m9 0) w)) 0 = 2 ∧ 1 ≤ k9 ∧ k9 ≤ 4))) ∧ x = -12 ∧ T = T') ∨ (((k9 = 0 ∨ (0 ≤ s9 ∧ s9 ≤ 1)) ∧ (((rlm_ (fun w => T 401 (T 103 m9 0) w)) 0 = 0 ∧ 0 ≤ k9 ∧ k9 ≤ 5) ∨ ((rlm_ (fun w => T 401 (T 103 m9 0) w)) 0 = 1 ∧ (k9 = 1 ∨ k9 = 5)) ∨ ((rlm_ (fun w => T 401 (T 103 m9 0) w)) 0 = 2 ∧ (k9 = 1 ∨ k9 = 6)) ∨ (¬ (rlm_ (fun w => T 401 (T 103 m9 0) w)) 0 = 0 ∧ ¬ (rlm_ (fun w => T 401 (T 103 m9 0) w)) 0 = 1 ∧ ¬ (rlm_ (fun w => T 401 (T 103 m9 0) w)) 0 = 2 ∧ 1 ≤ k9 ∧ k9 ≤ 4))) ∧ ¬ ((rlm_ (fun w => T 401 (T 103 m9 0) w)) 0 ≠ 3 ∨ k9 ≠ 1 ∨ (1 ≤ b9 ∧ b9 ≤ 4)) ∧ x = -17 ∧ T = T') ∨ (((k9 = 0 ∨ (0 ≤ s9 ∧ s9 ≤ 1)) ∧ (((rlm_ (fun w => T 401 (T 103 m9 0) w)) 0 = 0 ∧ 0 ≤ k9 ∧ k9 ≤ 5) ∨ ((rlm_ (fun w => T 401 (T 103 m9 0) w)) 0 = 1 ∧ (k9 = 1 ∨ k9 = 5)) ∨ ((rlm_ (fun w => T 401 (T 103 m9 0) w)) 0 = 2 ∧ (k9 = 1 ∨ k9 = 6)) ∨ (¬ (rlm_ (fun w => T 401 (T 103 m9 0) w)) 0 = 0 ∧ ¬ (rlm_ (fun w => T 401 (T 103 m9 0) w)) 0 = 1 ∧ ¬ (rlm_ (fun w => T 401 (T 103 m9 0) w)) 0 = 2 ∧ 1 ≤ k9 ∧ k9 ≤ 4))) ∧ ((rlm_ (fun w => T 401 (T 103 m9 0) w)) 0 ≠ 3 ∨ k9 ≠ 1 ∨ (1 ≤ b9 ∧ b9 ≤ 4)) ∧ (hr9_ T (T 103 m9 14) (T 103 m9 15).toNat)[i9.toNat]? = some (k9, s9, a9, b9) ∧ x = -20 ∧ T = T') ∨ (((k9 = 0 ∨ (0 ≤ s9 ∧ s9 ≤ 1)) ∧ (((rlm_ (fun w => T 401 (T 103 m9 0) w)) 0 = 0 ∧ 0 ≤ k9 ∧ k9 ≤ 5) ∨ ((rlm_ (fun w => T 401 (T 103 m9 0) w)) 0 = 1 ∧ (k9 = 1 ∨ k9 = 5)) ∨ ((rlm_ (fun w => T 401 (T 103 m9 0) w)) 0 = 2 ∧ (k9 = 1 ∨ k9 = 6)) ∨ (¬ (rlm_ (fun w => T 401 (T 103 m9 0) w)) 0 = 0 ∧ ¬ (rlm_ (fun w => T 401 (T 103 m9 0) w)) 0 = 1 ∧ ¬ (rlm_ (fun w => T 401 (T 103 m9 0) w)) 0 = 2 ∧ 1 ≤ k9 ∧ k9 ≤ 4))) ∧ ((rlm_ (fun w => T 401 (T 103 m9 0) w)) 0 ≠ 3 ∨ k9 ≠ 1 ∨ (1 ≤ b9 ∧ b9 ≤ 4)) ∧ ¬ ((hr9_ T (T 103 m9 14) (T 103 m9 15).toNat)[i9.toNat]? = some (k9, s9, a9, b9)) ∧ RNH_ (rlm_ (fun w => T 401 (T 103 m9 0) w)) m9 x T T' ((hr9_ T (T 103 m9 14) (T 103 m9 15).toNat).set i9.toNat (k9, s9, a9, b9)))))))))
set_option maxRecDepth 100000 in
theorem cx_review {N : Int} {T : Zt} {m9 i9 k9 s9 a9 b9 : Int} (hT : ok_T T) (ha : al_ T 109 0) (hI : IC_ N T) (hN : 0 ≤ N ∧ N ≤ 511) (hR : IR_ T) (hE : RE_ T) : Cw_ yX10_review zX10_review T [vR 110 0, vI m9, vI i9, vI k9, vI s9, vI a9, vI b9] (qx_review N T m9 i9 k9 s9 a9 b9) := by
  have h9 : 0 ≤ T 191 0 0 ∧ T 191 0 0 ≤ 900000000 := ⟨hI.2.2.2.2.2.1, by have := hI.2.2.2.2.2.2; omega⟩
  refine ⟨_, ct_X10_review_e hI.1.1 hI.1.2.1 hI.1.2.2.2.1 hI.2.2.2.1 hN h9 rlm_p (fun a b c => (hE.2.2.2.2.2.2.2.2.2.1.2 _ a b c).1.1), fun T1 r q => ?_⟩
  obtain ⟨x, rfl, f, h⟩ := q
  have g := (ic_review hT ha hI (show po_X10_review T N m9 i9 k9 s9 a9 b9 T1 (some (vI x)) from ⟨x, rfl, f, h.1⟩))
  exact ⟨x, rfl, g, ir_g hR (fr_s f (by decide +kernel)), f, h⟩
def qx_rows (N : Int) (T : Zt) (m9 w9 : Int) (T' : Zt) (r : Option Zv) : Prop := ∃ x : Int, r = some (vI x) ∧ IC_ (N + 1) T' ∧ IR_ T' ∧ fr_ [] T T' ∧ ((x = -2 ∧ ¬ (0 ≤ m9 ∧ m9 < T 106 0 4)) ∨ ((0 ≤ m9 ∧ m9 < T 106 0 4) ∧ ((¬ (0 ≤ w9 ∧ w9 ≤ 1) ∧ x = -3) ∨ ((0 ≤ w9 ∧ w9 ≤ 1) ∧ ((T 102 m9 10 = 0 ∧ x = 0) ∨ (T 102 m9 10 ≠ 0 ∧ ((w9 = 0 ∧ x = T 103 m9 15) ∨ (w9 = 1 ∧ x = T 103 m9 17))))))))
set_option maxRecDepth 100000 in
theorem cx_rows {N : Int} {T : Zt} {m9 w9 : Int} (hT : ok_T T) (ha : al_ T 109 0) (hI : IC_ N T) (hN : 0 ≤ N ∧ N ≤ 511) (hR : IR_ T) (hE : RE_ T) : Cw_ yX10_rows zX10_rows T [vR 110 0, vI m9, vI w9] (qx_rows N T m9 w9) := by
  refine ⟨_, ct_X10_rows_e hI.1.1, fun T1 r q => ?_⟩
  obtain ⟨e, x, rfl, h⟩ := q
  subst e
  exact ⟨x, rfl, ic_e hI, hR, fr_0 _ _, h⟩
def qx_row (N : Int) (T : Zt) (m9 i9 w9 : Int) (T' : Zt) (r : Option Zv) : Prop := ∃ x : Int, r = some (vI x) ∧ IC_ (N + 1) T' ∧ IR_ T' ∧ fr_ [] T T' ∧ (True)
set_option maxRecDepth 100000 in
theorem cx_row {N : Int} {T : Zt} {m9 i9 w9 : Int} (hT : ok_T T) (ha : al_ T 109 0) (hI : IC_ N T) (hN : 0 ≤ N ∧ N ≤ 511) (hR : IR_ T) (hE : RE_ T) : Cw_ yX10_row zX10_row T [vR 110 0, vI m9, vI i9, vI w9] (qx_row N T m9 i9 w9) := by
  have h9 : 0 ≤ T 191 0 0 ∧ T 191 0 0 ≤ 900000000 := ⟨hI.2.2.2.2.2.1, by have := hI.2.2.2.2.2.2; omega⟩
  refine ⟨_, ct_X10_row hI.1.1 hI.1.2.1 hI.1.2.2.2.1 hI.2.2.2.1 hN h9, fun T1 r q => ?_⟩
  obtain ⟨e, x, rfl, h⟩ := q
  subst e
  exact ⟨x, rfl, ic_e hI, hR, fr_0 _ _, trivial⟩
def qx_state (N : Int) (T : Zt) (m9 w9 : Int) (T' : Zt) (r : Option Zv) : Prop := ∃ x : Int, r = some (vI x) ∧ IC_ (N + 1) T' ∧ IR_ T' ∧ fr_ [] T T' ∧ ((x = -2 ∧ ¬ (0 ≤ m9 ∧ m9 < T 106 0 4)) ∨ ((0 ≤ m9 ∧ m9 < T 106 0 4) ∧ ((¬ (0 ≤ w9 ∧ w9 ≤ 7) ∧ x = -3) ∨ ((0 ≤ w9 ∧ w9 ≤ 7) ∧ ((T 102 m9 10 = 0 ∧ x = -4) ∨ (T 102 m9 10 ≠ 0 ∧ ((w9 = 0 ∧ x = T 103 m9 4) ∨ ((w9 = 1 ∨ w9 = 2) ∧ x = T 466 m9 (w9 - 1)) ∨ ((w9 = 3 ∨ w9 = 4) ∧ x = T 467 m9 (w9 - 3)) ∨ (w9 = 5 ∧ x = T 103 m9 5) ∨ ((w9 = 6 ∨ w9 = 7) ∧ x = T 469 m9 (w9 - 6)))))))))
set_option maxRecDepth 100000 in
theorem cx_state {N : Int} {T : Zt} {m9 w9 : Int} (hT : ok_T T) (ha : al_ T 109 0) (hI : IC_ N T) (hN : 0 ≤ N ∧ N ≤ 511) (hR : IR_ T) (hE : RE_ T) : Cw_ yX10_state zX10_state T [vR 110 0, vI m9, vI w9] (qx_state N T m9 w9) := by
  refine ⟨_, ct_X10_state_e hI.1.1, fun T1 r q => ?_⟩
  obtain ⟨e, x, rfl, h⟩ := q
  subst e
  exact ⟨x, rfl, ic_e hI, hR, fr_0 _ _, h⟩
def qx_onField (N : Int) (T : Zt) (m9 d9 k9 : Int) (T' : Zt) (r : Option Zv) : Prop := ∃ x : Int, r = some (vI x) ∧ IC_ (N + 1) T' ∧ IR_ T' ∧ fr_ [] T T' ∧ ((x = -2 ∧ ¬ (0 ≤ m9 ∧ m9 < T 106 0 4)) ∨ ((0 ≤ m9 ∧ m9 < T 106 0 4) ∧ ((¬ (0 ≤ d9 ∧ d9 ≤ 1) ∧ x = -3) ∨ ((0 ≤ d9 ∧ d9 ≤ 1) ∧ ((¬ (T 102 m9 10 ≠ 0 ∧ 0 ≤ k9 ∧ k9 < T 470 m9 d9) ∧ x = -1) ∨ (T 102 m9 10 ≠ 0 ∧ (0 ≤ k9 ∧ k9 < T 470 m9 d9) ∧ x = T 448 m9 (T 471 m9 (d9 * 6 + k9))))))))
set_option maxRecDepth 100000 in
theorem cx_onField {N : Int} {T : Zt} {m9 d9 k9 : Int} (hT : ok_T T) (ha : al_ T 109 0) (hI : IC_ N T) (hN : 0 ≤ N ∧ N ≤ 511) (hR : IR_ T) (hE : RE_ T) : Cw_ yX10_onField zX10_onField T [vR 110 0, vI m9, vI d9, vI k9] (qx_onField N T m9 d9 k9) := by
  refine ⟨_, ct_X10_onField_e hI.1.1, fun T1 r q => ?_⟩
  obtain ⟨e, x, rfl, h⟩ := q
  subst e
  exact ⟨x, rfl, ic_e hI, hR, fr_0 _ _, h⟩
def qx_table (N : Int) (T : Zt) (c9 d9 b9 w9 : Int) (T' : Zt) (r : Option Zv) : Prop := ∃ x : Int, r = some (vI x) ∧ IC_ (N + 1) T' ∧ IR_ T' ∧ fr_ [(107, [1, 13]), (542, []), (543, []), (544, []), (545, []), (546, []), (547, []), (548, []), (549, []), (550, []), (551, []), (552, [])] T T' ∧ (((x = -2 ∧ ¬ ((0 ≤ c9 ∧ c9 < T 106 0 2) ∧ (0 ≤ b9 ∧ b9 < T 108 0 2))) ∨ (x = -3 ∧ ((0 ≤ c9 ∧ c9 < T 106 0 2) ∧ (0 ≤ b9 ∧ b9 < T 108 0 2)) ∧ ¬ ((0 ≤ d9 ∧ d9 ≤ 999) ∧ (0 ≤ w9 ∧ w9 ≤ 7))) ∨ (x = -4 ∧ ((0 ≤ c9 ∧ c9 < T 106 0 2) ∧ (0 ≤ b9 ∧ b9 < T 108 0 2)) ∧ ((0 ≤ d9 ∧ d9 ≤ 999) ∧ (0 ≤ w9 ∧ w9 ≤ 7)) ∧ T 404 c9 b9 = -1) ∨ (((0 ≤ c9 ∧ c9 < T 106 0 2) ∧ (0 ≤ b9 ∧ b9 < T 108 0 2)) ∧ ((0 ≤ d9 ∧ d9 ≤ 999) ∧ (0 ≤ w9 ∧ w9 ≤ 7)) ∧ T 404 c9 b9 ≠ -1 ∧ TO_ T T' c9 d9 (WWp_ T c9 d9) ∧ x = T' 542 0 (T 404 c9 b9 * 8 + w9) ∧ (-2147483648 ≤ x ∧ x ≤ 2147483647))))
set_option maxRecDepth 100000 in
theorem cx_table {N : Int} {T : Zt} {c9 d9 b9 w9 : Int} (hT : ok_T T) (ha : al_ T 109 0) (hI : IC_ N T) (hN : 0 ≤ N ∧ N ≤ 511) (hR : IR_ T) (hE : RE_ T) : Cw_ yX10_table zX10_table T [vR 110 0, vI c9, vI d9, vI b9, vI w9] (qx_table N T c9 d9 b9 w9) := by
  have hr4 : ∀ m, 0 ≤ m → m < 400 → T 254 0 m ≤ 3000 := fun m a _ => (bd_a hT 254 (by decide +kernel : ta_ 254 = some (1, some 400, 0, 3000)) 0 a).2
  refine ⟨_, ct_X10_table_e (WW := fun c => WWp_ T c d9) hI.1.1 hI.1.2.1 hI.1.2.2.1 hI.1.2.2.2.2.2.1 hI.1.2.2.2.2.1 (fun c a b => ⟨hI.1.2.2.2.2.2.2.1 c a b, (hE.2.2.2.2.1.1 c a b).2.2.2.2.2⟩) hE.2.2.2.2.2.2.2.2.2.2.2.2.2.1 (fun c a b U fU hU hf => tbl_w (tq_i hT hE.2.2.2.1 hR.2.1 hE.2.2.2.2.1 hE.2.2.2.2.2.1 hE.2.2.2.2.2.2.1 hE.2.2.2.2.2.2.2.2.2.2.2.1 hE.2.2.2.2.2.2.2.2.1 hE.2.2.2.2.2.2.2.2.2.2.2.2.2.2.2.1 hE.2.2.2.2.2.2.2.2.2.2.2.2.2.2.2.2 hR.2.2.2.2.2.2.2.2.2.2.2 hR.2.2.2.2.2.2.2.2.1 (yb_g hR.2.2.2.2.2.2.2.2.2.2.2 hr4) hI.1.2.2.2.2.1 hI.1.2.2.2.2.2.2.1 hI.1.2.2.1 ⟨a, b⟩) hT fU hU hf), fun T1 r q => ?_⟩
  obtain ⟨x, rfl, f, h⟩ := q
  have g := (ic_table hI (show po_X10_table T c9 d9 b9 w9 T1 (some (vI x)) from ⟨x, rfl, fr_s f (by decide +kernel), rfl⟩))
  exact ⟨x, rfl, g, ir_g hR (fr_s f (by decide +kernel)), f, h⟩
def qx_standing (N : Int) (T : Zt) (c9 d9 k9 : Int) (T' : Zt) (r : Option Zv) : Prop := ∃ x : Int, r = some (vI x) ∧ IC_ (N + 1) T' ∧ IR_ T' ∧ fr_ [(107, [1, 13]), (542, []), (543, []), (544, []), (545, []), (546, []), (547, []), (548, []), (549, []), (550, []), (551, []), (552, [])] T T' ∧ (((x = -2 ∧ ¬ (0 ≤ c9 ∧ c9 < T 106 0 2)) ∨ (x = -3 ∧ (0 ≤ c9 ∧ c9 < T 106 0 2) ∧ ¬ (0 ≤ d9 ∧ d9 ≤ 999)) ∨ ((0 ≤ c9 ∧ c9 < T 106 0 2) ∧ (0 ≤ d9 ∧ d9 ≤ 999) ∧ ((0 ≤ k9 ∧ k9 < T 100 c9 5) → TO_ T T' c9 d9 (WWp_ T c9 d9) ∧ x = T 403 c9 (T' 547 0 k9)) ∧ (¬ (0 ≤ k9 ∧ k9 < T 100 c9 5) → x = -1))))
set_option maxRecDepth 100000 in
theorem cx_standing {N : Int} {T : Zt} {c9 d9 k9 : Int} (hT : ok_T T) (ha : al_ T 109 0) (hI : IC_ N T) (hN : 0 ≤ N ∧ N ≤ 511) (hR : IR_ T) (hE : RE_ T) : Cw_ yX10_standing zX10_standing T [vR 110 0, vI c9, vI d9, vI k9] (qx_standing N T c9 d9 k9) := by
  have hr4 : ∀ m, 0 ≤ m → m < 400 → T 254 0 m ≤ 3000 := fun m a _ => (bd_a hT 254 (by decide +kernel : ta_ 254 = some (1, some 400, 0, 3000)) 0 a).2
  refine ⟨_, ct_X10_standing_e (WW := fun c => WWp_ T c d9) hI.1.1 hI.1.2.1 hI.1.2.2.1 hI.1.2.2.2.2.2.1 hI.1.2.2.2.2.1 (fun c a b => ⟨hI.1.2.2.2.2.2.2.1 c a b, (hE.2.2.2.2.1.1 c a b).2.2.2.2.2⟩) hE.2.2.2.2.2.2.2.2.2.2.2.2.2.1 (fun c a b U fU hU hf => tbl_w (tq_i hT hE.2.2.2.1 hR.2.1 hE.2.2.2.2.1 hE.2.2.2.2.2.1 hE.2.2.2.2.2.2.1 hE.2.2.2.2.2.2.2.2.2.2.2.1 hE.2.2.2.2.2.2.2.2.1 hE.2.2.2.2.2.2.2.2.2.2.2.2.2.2.2.1 hE.2.2.2.2.2.2.2.2.2.2.2.2.2.2.2.2 hR.2.2.2.2.2.2.2.2.2.2.2 hR.2.2.2.2.2.2.2.2.1 (yb_g hR.2.2.2.2.2.2.2.2.2.2.2 hr4) hI.1.2.2.2.2.1 hI.1.2.2.2.2.2.2.1 hI.1.2.2.1 ⟨a, b⟩) hT fU hU hf), fun T1 r q => ?_⟩
  obtain ⟨x, rfl, f, h⟩ := q
  have g := (ic_standing hI (show po_X10_standing T c9 d9 k9 T1 (some (vI x)) from ⟨x, rfl, fr_s f (by decide +kernel), rfl⟩))
  exact ⟨x, rfl, g, ir_g hR (fr_s f (by decide +kernel)), f, h⟩
def qx_parted (N : Int) (T : Zt) (c9 d9 k9 : Int) (T' : Zt) (r : Option Zv) : Prop := ∃ x : Int, r = some (vI x) ∧ IC_ (N + 1) T' ∧ IR_ T' ∧ fr_ [(107, [1, 13]), (542, []), (543, []), (544, []), (545, []), (546, []), (547, []), (548, []), (549, []), (550, []), (551, []), (552, [])] T T' ∧ (((x = -2 ∧ ¬ (0 ≤ c9 ∧ c9 < T 106 0 2)) ∨ (x = -3 ∧ (0 ≤ c9 ∧ c9 < T 106 0 2) ∧ ¬ (0 ≤ d9 ∧ d9 ≤ 999)) ∨ ((0 ≤ c9 ∧ c9 < T 106 0 2) ∧ (0 ≤ d9 ∧ d9 ≤ 999) ∧ ((0 ≤ k9 ∧ k9 < T 100 c9 5 - 1) → TO_ T T' c9 d9 (WWp_ T c9 d9) ∧ x = T' 548 0 k9) ∧ (¬ (0 ≤ k9 ∧ k9 < T 100 c9 5 - 1) → x = -1))))
set_option maxRecDepth 100000 in
theorem cx_parted {N : Int} {T : Zt} {c9 d9 k9 : Int} (hT : ok_T T) (ha : al_ T 109 0) (hI : IC_ N T) (hN : 0 ≤ N ∧ N ≤ 511) (hR : IR_ T) (hE : RE_ T) : Cw_ yX10_parted zX10_parted T [vR 110 0, vI c9, vI d9, vI k9] (qx_parted N T c9 d9 k9) := by
  have hr4 : ∀ m, 0 ≤ m → m < 400 → T 254 0 m ≤ 3000 := fun m a _ => (bd_a hT 254 (by decide +kernel : ta_ 254 = some (1, some 400, 0, 3000)) 0 a).2
  refine ⟨_, ct_X10_parted_e (WW := fun c => WWp_ T c d9) hI.1.1 hI.1.2.1 hI.1.2.2.1 hI.1.2.2.2.2.2.1 hI.1.2.2.2.2.1 (fun c a b => ⟨hI.1.2.2.2.2.2.2.1 c a b, (hE.2.2.2.2.1.1 c a b).2.2.2.2.2⟩) hE.2.2.2.2.2.2.2.2.2.2.2.2.2.1 (fun c a b U fU hU hf => tbl_w (tq_i hT hE.2.2.2.1 hR.2.1 hE.2.2.2.2.1 hE.2.2.2.2.2.1 hE.2.2.2.2.2.2.1 hE.2.2.2.2.2.2.2.2.2.2.2.1 hE.2.2.2.2.2.2.2.2.1 hE.2.2.2.2.2.2.2.2.2.2.2.2.2.2.2.1 hE.2.2.2.2.2.2.2.2.2.2.2.2.2.2.2.2 hR.2.2.2.2.2.2.2.2.2.2.2 hR.2.2.2.2.2.2.2.2.1 (yb_g hR.2.2.2.2.2.2.2.2.2.2.2 hr4) hI.1.2.2.2.2.1 hI.1.2.2.2.2.2.2.1 hI.1.2.2.1 ⟨a, b⟩) hT fU hU hf), fun T1 r q => ?_⟩
  obtain ⟨x, rfl, f, h⟩ := q
  have g := (ic_parted hI (show po_X10_parted T c9 d9 k9 T1 (some (vI x)) from ⟨x, rfl, fr_s f (by decide +kernel), rfl⟩))
  exact ⟨x, rfl, g, ir_g hR (fr_s f (by decide +kernel)), f, h⟩
def qx_can (N : Int) (T : Zt) (c9 b9 : Int) (T' : Zt) (r : Option Zv) : Prop := ∃ x : Int, r = some (vI x) ∧ IC_ (N + 1) T' ∧ IR_ T' ∧ fr_ [(109, [5, 3, 9, 6, 2, 15]), (584, []), (588, []), (587, []), (591, []), (592, []), (590, []), (593, []), (594, []), (107, [1]), (542, []), (543, []), (544, []), (545, []), (546, []), (190, []), (191, [0])] T T' ∧ ((T' 109 0 15 ≠ 0 → T' 190 (T' 109 0 15 - 1) (-2) = 4096 ∧ 1 ≤ T' 109 0 15) ∧ KPT_ T T' ∧ lh_ T T' ∧ T' 191 0 0 ≤ T 191 0 0 + 1)
set_option maxRecDepth 100000 in
theorem cx_can {N : Int} {T : Zt} {c9 b9 : Int} (hT : ok_T T) (ha : al_ T 109 0) (hI : IC_ N T) (hN : 0 ≤ N ∧ N ≤ 511) (hR : IR_ T) (hE : RE_ T) : Cw_ yX10_can zX10_can T [vR 110 0, vI c9, vI b9] (qx_can N T c9 b9) := by
  have h9 : 0 ≤ T 191 0 0 ∧ T 191 0 0 ≤ 900000000 := ⟨hI.2.2.2.2.2.1, by have := hI.2.2.2.2.2.2; omega⟩
  refine ⟨_, ct_X10_can_e hI.1.1 hI.1.2.1 hI.1.2.2.1 hI.1.2.2.2.2.1 hI.1.2.2.2.2.2.2.1 hI.1.2.2.2.2.2.2.2.2.2 hI.2.2.2.2.1 h9, fun T1 r q => ?_⟩
  obtain ⟨x, rfl, f, h⟩ := q
  have g := (ic_can hT ha hI (show po_X10_can T c9 b9 T1 (some (vI x)) from ⟨x, rfl, f, h.1, h.2.2⟩))
  exact ⟨x, rfl, g, ir_g hR (fr_s f (by decide +kernel)), f, h⟩
def qx_witness (N : Int) (T : Zt) (m9 : Int) (T' : Zt) (r : Option Zv) : Prop := ∃ x : Int, r = some (vI x) ∧ IC_ (N + 1) T' ∧ IR_ T' ∧ fr_ [] T T' ∧ (True)
set_option maxRecDepth 100000 in
theorem cx_witness {N : Int} {T : Zt} {m9 : Int} (hT : ok_T T) (ha : al_ T 109 0) (hI : IC_ N T) (hN : 0 ≤ N ∧ N ≤ 511) (hR : IR_ T) (hE : RE_ T) : Cw_ yX10_witness zX10_witness T [vR 110 0, vI m9] (qx_witness N T m9) := by
  refine ⟨_, ct_X10_witness , fun T1 r q => ?_⟩
  obtain ⟨e, x, rfl, h⟩ := q
  subst e
  exact ⟨x, rfl, ic_e hI, hR, fr_0 _ _, trivial⟩
def qx_cut (N : Int) (T : Zt) (T' : Zt) (r : Option Zv) : Prop := ∃ x : Int, r = some (vI x) ∧ IC_ (N + 1) T' ∧ IR_ T' ∧ fr_ [] T T' ∧ (True)
set_option maxRecDepth 100000 in
theorem cx_cut {N : Int} {T : Zt} (hT : ok_T T) (ha : al_ T 109 0) (hI : IC_ N T) (hN : 0 ≤ N ∧ N ≤ 511) (hR : IR_ T) (hE : RE_ T) : Cw_ yX10_cut zX10_cut T [vR 110 0] (qx_cut N T) := by
  refine ⟨_, ct_X10_cut , fun T1 r q => ?_⟩
  obtain ⟨e, x, rfl, h⟩ := q
  subst e
  exact ⟨x, rfl, ic_e hI, hR, fr_0 _ _, trivial⟩
def qx_firsts (N : Int) (T : Zt) (c9 b9 : Int) (T' : Zt) (r : Option Zv) : Prop := ∃ x : Int, r = some (vI x) ∧ IC_ (N + 1) T' ∧ IR_ T' ∧ fr_ [(109, [5]), (588, []), (107, [1, 13]), (542, []), (543, []), (544, []), (545, []), (546, []), (550, []), (551, []), (552, []), (549, []), (547, []), (548, [])] T T' ∧ (True)
set_option maxRecDepth 100000 in
theorem cx_firsts {N : Int} {T : Zt} {c9 b9 : Int} (hT : ok_T T) (ha : al_ T 109 0) (hI : IC_ N T) (hN : 0 ≤ N ∧ N ≤ 511) (hR : IR_ T) (hE : RE_ T) : Cw_ yX10_firsts zX10_firsts T [vR 110 0, vI c9, vI b9] (qx_firsts N T c9 b9) := by
  refine ⟨_, ct_X10_firsts hI.1.1 hI.1.2.1 hI.1.2.2.1 hI.1.2.2.2.2.2.1, fun T1 r q => ?_⟩
  have g := (ic_firsts hI q)
  obtain ⟨x, rfl, f, h⟩ := q
  exact ⟨x, rfl, g, ir_g hR (fr_s f (by decide +kernel)), f, trivial⟩
def qx_drawing (N : Int) (T : Zt) (g9 l9 : Int) (T' : Zt) (r : Option Zv) : Prop := ∃ x : Int, r = some (vI x) ∧ IC_ (N + 1) T' ∧ IR_ T' ∧ fr_ [(101, [1, 2, 3, 4, 7]), (428, []), (429, []), (430, [])] T T' ∧ ((((x = -3 ∧ ¬ (1 ≤ g9 ∧ g9 ≤ 4 ∧ 1 ≤ l9 ∧ l9 ≤ 3)) ∨ (x = 1 ∧ 1 ≤ g9 ∧ g9 ≤ 4 ∧ 1 ≤ l9 ∧ l9 ≤ 3)) ∧ NDH_ T T' g9 l9 x))
set_option maxRecDepth 100000 in
theorem cx_drawing {N : Int} {T : Zt} {g9 l9 : Int} (hT : ok_T T) (ha : al_ T 109 0) (hI : IC_ N T) (hN : 0 ≤ N ∧ N ≤ 511) (hR : IR_ T) (hE : RE_ T) : Cw_ yX10_drawing zX10_drawing T [vR 110 0, vI g9, vI l9] (qx_drawing N T g9 l9) := by
  refine ⟨_, ct_X10_drawing_e , fun T1 r q => ?_⟩
  obtain ⟨x, rfl, f, h⟩ := q
  have g := (ic_drawing hI (show po_X10_drawing T g9 l9 T1 (some (vI x)) from ⟨x, rfl, f, h.1⟩))
  exact ⟨x, rfl, g, ir_g hR (fr_s f (by decide +kernel)), f, h⟩
def qx_pot (N : Int) (T : Zt) (c9 k9 : Int) (T' : Zt) (r : Option Zv) : Prop := ∃ x : Int, r = some (vI x) ∧ IC_ (N + 1) T' ∧ IR_ T' ∧ fr_ [(428, []), (430, []), (101, [3, 7])] T T' ∧ ((x = x ∧ PTH_ T T' c9 k9 x))
set_option maxRecDepth 100000 in
theorem cx_pot {N : Int} {T : Zt} {c9 k9 : Int} (hT : ok_T T) (ha : al_ T 109 0) (hI : IC_ N T) (hN : 0 ≤ N ∧ N ≤ 511) (hR : IR_ T) (hE : RE_ T) : Cw_ yX10_pot zX10_pot T [vR 110 0, vI c9, vI k9] (qx_pot N T c9 k9) := by
  refine ⟨_, ct_X10_pot_e hE.2.2.2.2.2.2.2.1, fun T1 r q => ?_⟩
  obtain ⟨x, rfl, f, h⟩ := q
  have g := (ic_pot hI (show po_X10_pot T c9 k9 T1 (some (vI x)) from ⟨x, rfl, f, rfl⟩))
  exact ⟨x, rfl, g, ir_g hR (fr_s f (by decide +kernel)), f, h⟩
def qx_ways (N : Int) (T : Zt) (T' : Zt) (r : Option Zv) : Prop := ∃ x : Int, r = some (vI x) ∧ IC_ (N + 1) T' ∧ IR_ T' ∧ fr_ [(101, [13, 6, 7]), (434, []), (435, []), (431, []), (432, [])] T T' ∧ ((x = x ∧ WYH_ T T' x))
set_option maxRecDepth 100000 in
theorem cx_ways {N : Int} {T : Zt} (hT : ok_T T) (ha : al_ T 109 0) (hI : IC_ N T) (hN : 0 ≤ N ∧ N ≤ 511) (hR : IR_ T) (hE : RE_ T) : Cw_ yX10_ways zX10_ways T [vR 110 0] (qx_ways N T) := by
  refine ⟨_, ct_X10_ways_e , fun T1 r q => ?_⟩
  obtain ⟨x, rfl, f, h⟩ := q
  have g := (ic_ways hI (show po_X10_ways T  T1 (some (vI x)) from ⟨x, rfl, f, rfl⟩))
  exact ⟨x, rfl, g, ir_g hR (fr_s f (by decide +kernel)), f, h⟩
def qx_chance (N : Int) (T : Zt) (c9 g9 : Int) (T' : Zt) (r : Option Zv) : Prop := ∃ x : Int, r = some (vI x) ∧ IC_ (N + 1) T' ∧ IR_ T' ∧ fr_ [(101, [13, 6, 7]), (434, []), (435, []), (431, []), (432, [])] T T' ∧ ((x = x ∧ CHH_ T T' c9 g9 x))
set_option maxRecDepth 100000 in
theorem cx_chance {N : Int} {T : Zt} {c9 g9 : Int} (hT : ok_T T) (ha : al_ T 109 0) (hI : IC_ N T) (hN : 0 ≤ N ∧ N ≤ 511) (hR : IR_ T) (hE : RE_ T) : Cw_ yX10_chance zX10_chance T [vR 110 0, vI c9, vI g9] (qx_chance N T c9 g9) := by
  refine ⟨_, ct_X10_chance_e , fun T1 r q => ?_⟩
  obtain ⟨x, rfl, f, h⟩ := q
  have g := (ic_chance hI (show po_X10_chance T c9 g9 T1 (some (vI x)) from ⟨x, rfl, f, rfl⟩))
  exact ⟨x, rfl, g, ir_g hR (fr_s f (by decide +kernel)), f, h⟩
def qx_ball (N : Int) (T : Zt) (s9 b9 : Int) (T' : Zt) (r : Option Zv) : Prop := ∃ x : Int, r = some (vI x) ∧ IC_ (N + 1) T' ∧ IR_ T' ∧ fr_ [(101, [13, 6, 7, 5, 4]), (434, []), (435, []), (431, []), (432, []), (429, [])] T T' ∧ ((x = x ∧ BLH_ T T' s9 b9 x))
set_option maxRecDepth 100000 in
theorem cx_ball {N : Int} {T : Zt} {s9 b9 : Int} (hT : ok_T T) (ha : al_ T 109 0) (hI : IC_ N T) (hN : 0 ≤ N ∧ N ≤ 511) (hR : IR_ T) (hE : RE_ T) : Cw_ yX10_ball zX10_ball T [vR 110 0, vI s9, vI b9] (qx_ball N T s9 b9) := by
  refine ⟨_, ct_X10_ball_e hE.2.2.2.2.2.2.2.1, fun T1 r q => ?_⟩
  obtain ⟨x, rfl, f, h⟩ := q
  have g := (ic_ball hI (show po_X10_ball T s9 b9 T1 (some (vI x)) from ⟨x, rfl, f, rfl⟩))
  exact ⟨x, rfl, g, ir_g hR (fr_s f (by decide +kernel)), f, h⟩
def qx_drawn (N : Int) (T : Zt) (c9 : Int) (T' : Zt) (r : Option Zv) : Prop := ∃ x : Int, r = some (vI x) ∧ IC_ (N + 1) T' ∧ IR_ T' ∧ fr_ [] T T' ∧ (DWH_ T c9 x)
set_option maxRecDepth 100000 in
theorem cx_drawn {N : Int} {T : Zt} {c9 : Int} (hT : ok_T T) (ha : al_ T 109 0) (hI : IC_ N T) (hN : 0 ≤ N ∧ N ≤ 511) (hR : IR_ T) (hE : RE_ T) : Cw_ yX10_drawn zX10_drawn T [vR 110 0, vI c9] (qx_drawn N T c9) := by
  refine ⟨_, ct_X10_drawn_e , fun T1 r q => ?_⟩
  obtain ⟨e, x, rfl, h⟩ := q
  subst e
  exact ⟨x, rfl, ic_e hI, hR, fr_0 _ _, h⟩
def qx_assign (N : Int) (T : Zt) (d9 : Int) (T' : Zt) (r : Option Zv) : Prop := ∃ x : Int, r = some (vI x) ∧ IC_ (N + 1) T' ∧ IR_ T' ∧ fr_ [(104, [3, 4]), (482, []), (102, [7]), (190, []), (191, [0])] T T' ∧ (KPA_ T T' ∧ lh_ T T' ∧ T' 191 0 0 ≤ T 191 0 0 + 1)
set_option maxRecDepth 100000 in
theorem cx_assign {N : Int} {T : Zt} {d9 : Int} (hT : ok_T T) (ha : al_ T 109 0) (hI : IC_ N T) (hN : 0 ≤ N ∧ N ≤ 511) (hR : IR_ T) (hE : RE_ T) : Cw_ yX10_assign zX10_assign T [vR 110 0, vI d9] (qx_assign N T d9) := by
  have h9 : 0 ≤ T 191 0 0 ∧ T 191 0 0 ≤ 900000000 := ⟨hI.2.2.2.2.2.1, by have := hI.2.2.2.2.2.2; omega⟩
  refine ⟨_, ct_X10_assign_e hI.1.1 hI.1.2.1 hI.2.1 h9, fun T1 r q => ?_⟩
  obtain ⟨x, rfl, f, h⟩ := q
  have g := (ic_assign hT ha hI (show po_X10_assign T d9 T1 (some (vI x)) from ⟨x, rfl, f, h.2⟩))
  exact ⟨x, rfl, g, ir_g hR (fr_s f (by decide +kernel)), f, h⟩
def qx_officialOf (N : Int) (T : Zt) (m9 : Int) (T' : Zt) (r : Option Zv) : Prop := ∃ x : Int, r = some (vI x) ∧ IC_ (N + 1) T' ∧ IR_ T' ∧ fr_ [] T T' ∧ (True)
set_option maxRecDepth 100000 in
theorem cx_officialOf {N : Int} {T : Zt} {m9 : Int} (hT : ok_T T) (ha : al_ T 109 0) (hI : IC_ N T) (hN : 0 ≤ N ∧ N ≤ 511) (hR : IR_ T) (hE : RE_ T) : Cw_ yX10_officialOf zX10_officialOf T [vR 110 0, vI m9] (qx_officialOf N T m9) := by
  refine ⟨_, ct_X10_officialOf hI.1.1, fun T1 r q => ?_⟩
  obtain ⟨e, x, rfl, h⟩ := q
  subst e
  exact ⟨x, rfl, ic_e hI, hR, fr_0 _ _, trivial⟩
def qx_count (N : Int) (T : Zt) (w9 : Int) (T' : Zt) (r : Option Zv) : Prop := ∃ x : Int, r = some (vI x) ∧ IC_ (N + 1) T' ∧ IR_ T' ∧ fr_ [] T T' ∧ ((w9 = 0 ∧ x = T 108 0 2) ∨ (w9 = 1 ∧ x = T 108 0 3) ∨ (w9 = 2 ∧ x = T 108 0 5) ∨ (w9 = 3 ∧ x = T 108 0 12) ∨ (w9 = 4 ∧ x = T 106 0 2) ∨ (w9 = 5 ∧ x = T 106 0 4) ∨ (w9 = 6 ∧ x = T 106 0 5) ∨ (w9 = 7 ∧ x = T 108 0 13) ∨ (¬ (0 ≤ w9 ∧ w9 ≤ 7) ∧ x = -3))
set_option maxRecDepth 100000 in
theorem cx_count {N : Int} {T : Zt} {w9 : Int} (hT : ok_T T) (ha : al_ T 109 0) (hI : IC_ N T) (hN : 0 ≤ N ∧ N ≤ 511) (hR : IR_ T) (hE : RE_ T) : Cw_ yX10_count zX10_count T [vR 110 0, vI w9] (qx_count N T w9) := by
  refine ⟨_, ct_X10_count_e , fun T1 r q => ?_⟩
  obtain ⟨e, x, rfl, h⟩ := q
  subst e
  exact ⟨x, rfl, ic_e hI, hR, fr_0 _ _, h⟩
def qm_sign (N : Int) (T : Zt) (c9 : Int) (T' : Zt) (r : Option Zv) : Prop := ∃ x : Int, r = some (vI x) ∧ IC_ N T' ∧ IR_ T' ∧ fr_ [(111, [1]), (200, [])] T T' ∧ (((x = -3 ∧ T' 111 0 1 = T 111 0 1 ∧ ¬ (c9 = 10 ∨ 32 ≤ c9 ∧ c9 ≤ 126) ∧ RS9_ 200 T T') ∨ ((c9 = 10 ∨ 32 ≤ c9 ∧ c9 ≤ 126) ∧ T 111 0 1 = 400 ∧ x = -5 ∧ T' 111 0 1 = 400 ∧ RS9_ 200 T T') ∨ ((c9 = 10 ∨ 32 ≤ c9 ∧ c9 ≤ 126) ∧ T 111 0 1 < 400 ∧ x = T 111 0 1 + 1 ∧ T' 111 0 1 = x ∧ SG9_ 200 T T' (T 111 0 1) c9)))
set_option maxRecDepth 100000 in
theorem cm_sign {N : Int} {T : Zt} {c9 : Int} (hT : ok_T T) (hI : IC_ N T) (hR : IR_ T) : Cw_ yX11_sign zX11_sign T [vR 111 0, vI c9] (qm_sign N T c9) := by
  refine ⟨_, ct_X11_sign_e , fun T1 r q => ?_⟩
  obtain ⟨x, rfl, f, h⟩ := q
  have g := (ir_sign hR (show po_X11_sign T c9 T1 (some (vI x)) from ⟨x, rfl, f, by omega⟩))
  exact ⟨x, rfl, ic_g hI (fr_s f (by decide +kernel)), g, f, h⟩
