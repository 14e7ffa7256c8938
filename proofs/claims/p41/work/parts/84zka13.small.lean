/-- the club of a person on a day: of the latest span that holds the day -/
noncomputable def cnn_ (T : Zt) (p d : Int) : Nat → Int
  | 0 => -1
  | n + 1 => cz_ (T 217 0 (n : Int) = p ∧ T 219 0 (n : Int) ≤ d ∧ d ≤ T 220 0 (n : Int)) (T 218 0 (n : Int)) (cnn_ T p d n)
noncomputable def co9_c (T : Zt) (p d : Int) : Int := cnn_ T p d (T 111 0 16).toNat
theorem cnn_t {T : Zt} {p d : Int} {n : Nat} (h : T 217 0 (n : Int) = p ∧ T 219 0 (n : Int) ≤ d ∧ d ≤ T 220 0 (n : Int)) : cnn_ T p d (n + 1) = T 218 0 (n : Int) := sorry
theorem cnn_f {T : Zt} {p d : Int} {n : Nat} (h : ¬ (T 217 0 (n : Int) = p ∧ T 219 0 (n : Int) ≤ d ∧ d ≤ T 220 0 (n : Int))) : cnn_ T p d (n + 1) = cnn_ T p d n := sorry
theorem cnn_v {T : Zt} {p d v : Int} (h0 : 0 ≤ v) (hv : T 217 0 v = p ∧ T 219 0 v ≤ d ∧ d ≤ T 220 0 v) : ∀ n : Nat, v < (n : Int) → (∀ j, v < j → j < (n : Int) → ¬ (T 217 0 j = p ∧ T 219 0 j ≤ d ∧ d ≤ T 220 0 j)) → cnn_ T p d n = T 218 0 v := sorry
theorem cnn_0 {T : Zt} {p d : Int} : ∀ n : Nat, (∀ j, 0 ≤ j → j < (n : Int) → ¬ (T 217 0 j = p ∧ T 219 0 j ≤ d ∧ d ≤ T 220 0 j)) → cnn_ T p d n = -1 := sorry
theorem cnn_b {T : Zt} (hT : ok_T T) {p d : Int} : ∀ n : Nat, -1 ≤ cnn_ T p d n ∧ cnn_ T p d n ≤ 11 := sorry
theorem fs_n {T : Zt} {p d m : Int} (h : SPR_ T) (hf : FSP_ T p d d m) (hm : 0 ≤ m) : ∀ j, m ≤ j → j < T 111 0 16 → ¬ (T 217 0 j = p ∧ T 219 0 j ≤ d ∧ d ≤ T 220 0 j) := sorry
theorem co_t {T : Zt} {p d m v : Int} (hs : SPR_ T) (h : lpz_ T p m v) (hf : FSP_ T p d d m) (hv : v ≠ -1) (hm : m ≤ T 108 0 5) (h1 : T 567 0 v ≤ d) (h2 : d ≤ T 568 0 v) : T 566 0 v = co9_c T p d := sorry
theorem co_f {T : Zt} {p d : Int} (hs : SPR_ T) (hf : FSP_ T p d d 0) : co9_c T p d = -1 := sorry
abbrev po_X2_scoreOf_e (T : Zt) (p : Int) (s : Int) : Zt → Option Zv → Prop := fun T' r => T = T' ∧ ∃ x : Int, r = some (vI x) ∧ ((T 102 p 6 ≠ -1 ∧ ((s = T 102 p 6 ∧ x = 0) ∨ (s ≠ T 102 p 6 ∧ x = T 401 (T 102 p 0) 12))) ∨ (T 102 p 6 = -1 ∧ ((T 102 p 10 = 0 ∧ x = 0) ∨ (T 102 p 10 ≠ 0 ∧ x = T 468 p s))))
set_option maxHeartbeats 4000000 in
theorem ct_X2_scoreOf_e {T : Zt} {p : Int} {s : Int} (h1 : 0 ≤ s ∧ s ≤ 1) : Ct_ yX2_scoreOf zX2_scoreOf T [vR 102 p, vI s] (po_X2_scoreOf_e T p s) := sorry
abbrev po_X2_isDecided_e (T : Zt) (p : Int) : Zt → Option Zv → Prop := fun T' r => T = T' ∧ ∃ x : Int, r = some (vI x) ∧ ((x = 1 ∧ (T 102 p 6 ≠ -1 ∨ (T 102 p 10 ≠ 0 ∧ T 103 p 3 ≠ 0))) ∨ (x = 0 ∧ ¬ (T 102 p 6 ≠ -1 ∨ (T 102 p 10 ≠ 0 ∧ T 103 p 3 ≠ 0))))
set_option maxHeartbeats 4000000 in
theorem ct_X2_isDecided_e {T : Zt} {p : Int} : Ct_ yX2_isDecided zX2_isDecided T [vR 102 p] (po_X2_isDecided_e T p) := sorry
abbrev po_X10_match_e (T : Zt) (m w : Int) : Zt → Option Zv → Prop := fun T' r => T = T' ∧ ∃ x : Int, r = some (vI x) ∧ ((x = -2 ∧ ¬ (0 ≤ m ∧ m < T 106 0 4)) ∨ ((0 ≤ m ∧ m < T 106 0 4) ∧ ((w = 0 ∧ x = T 100 (T 102 m 0) 0) ∨ (w = 1 ∧ x = T 102 m 2) ∨ (w = 2 ∧ x = T 102 m 3) ∨ (w = 3 ∧ x = T 102 m 4) ∨ (w = 4 ∧ x = T 102 m 5) ∨ (w = 5 ∧ ((T 102 m 6 ≠ -1 ∧ x = 3) ∨ (T 102 m 6 = -1 ∧ ((T 102 m 10 = 0 ∧ x = 0) ∨ (T 102 m 10 ≠ 0 ∧ ((T 103 m 3 = 0 ∧ x = 1) ∨ (T 103 m 3 ≠ 0 ∧ x = 2))))))) ∨ (w = 6 ∧ ((T 102 m 6 ≠ -1 ∧ ((0 = T 102 m 6 ∧ x = 0) ∨ (0 ≠ T 102 m 6 ∧ x = T 401 (T 102 m 0) 12))) ∨ (T 102 m 6 = -1 ∧ ((T 102 m 10 = 0 ∧ x = 0) ∨ (T 102 m 10 ≠ 0 ∧ x = T 468 m 0))))) ∨ (w = 7 ∧ ((T 102 m 6 ≠ -1 ∧ ((1 = T 102 m 6 ∧ x = 0) ∨ (1 ≠ T 102 m 6 ∧ x = T 401 (T 102 m 0) 12))) ∨ (T 102 m 6 = -1 ∧ ((T 102 m 10 = 0 ∧ x = 0) ∨ (T 102 m 10 ≠ 0 ∧ x = T 468 m 1))))) ∨ (¬ (0 ≤ w ∧ w ≤ 7) ∧ x = -3))))
set_option maxHeartbeats 4000000 in
theorem ct_X10_match_e {T : Zt} {m w : Int} (hka : KA_ T) : Ct_ yX10_match zX10_match T [vR 110 0, vI m, vI w] (po_X10_match_e T m w) := sorry
abbrev po_X10_rows_e (T : Zt) (m w : Int) : Zt → Option Zv → Prop := fun T' r => T = T' ∧ ∃ x : Int, r = some (vI x) ∧ ((x = -2 ∧ ¬ (0 ≤ m ∧ m < T 106 0 4)) ∨ ((0 ≤ m ∧ m < T 106 0 4) ∧ ((¬ (0 ≤ w ∧ w ≤ 1) ∧ x = -3) ∨ ((0 ≤ w ∧ w ≤ 1) ∧ ((T 102 m 10 = 0 ∧ x = 0) ∨ (T 102 m 10 ≠ 0 ∧ ((w = 0 ∧ x = T 103 m 15) ∨ (w = 1 ∧ x = T 103 m 17))))))))
set_option maxHeartbeats 4000000 in
theorem ct_X10_rows_e {T : Zt} {m w : Int} (hka : KA_ T) : Ct_ yX10_rows zX10_rows T [vR 110 0, vI m, vI w] (po_X10_rows_e T m w) := sorry
abbrev po_X10_state_e (T : Zt) (m w : Int) : Zt → Option Zv → Prop := fun T' r => T = T' ∧ ∃ x : Int, r = some (vI x) ∧ ((x = -2 ∧ ¬ (0 ≤ m ∧ m < T 106 0 4)) ∨ ((0 ≤ m ∧ m < T 106 0 4) ∧ ((¬ (0 ≤ w ∧ w ≤ 7) ∧ x = -3) ∨ ((0 ≤ w ∧ w ≤ 7) ∧ ((T 102 m 10 = 0 ∧ x = -4) ∨ (T 102 m 10 ≠ 0 ∧ ((w = 0 ∧ x = T 103 m 4) ∨ ((w = 1 ∨ w = 2) ∧ x = T 466 m (w - 1)) ∨ ((w = 3 ∨ w = 4) ∧ x = T 467 m (w - 3)) ∨ (w = 5 ∧ x = T 103 m 5) ∨ ((w = 6 ∨ w = 7) ∧ x = T 469 m (w - 6)))))))))
set_option maxHeartbeats 4000000 in
theorem ct_X10_state_e {T : Zt} {m w : Int} (hka : KA_ T) : Ct_ yX10_state zX10_state T [vR 110 0, vI m, vI w] (po_X10_state_e T m w) := sorry
abbrev po_X10_onField_e (T : Zt) (m d k : Int) : Zt → Option Zv → Prop := fun T' r => T = T' ∧ ∃ x : Int, r = some (vI x) ∧ ((x = -2 ∧ ¬ (0 ≤ m ∧ m < T 106 0 4)) ∨ ((0 ≤ m ∧ m < T 106 0 4) ∧ ((¬ (0 ≤ d ∧ d ≤ 1) ∧ x = -3) ∨ ((0 ≤ d ∧ d ≤ 1) ∧ ((¬ (T 102 m 10 ≠ 0 ∧ 0 ≤ k ∧ k < T 470 m d) ∧ x = -1) ∨ (T 102 m 10 ≠ 0 ∧ (0 ≤ k ∧ k < T 470 m d) ∧ x = T 448 m (T 471 m (d * 6 + k))))))))
set_option maxHeartbeats 4000000 in
theorem ct_X10_onField_e {T : Zt} {m d k : Int} (hka : KA_ T) : Ct_ yX10_onField zX10_onField T [vR 110 0, vI m, vI d, vI k] (po_X10_onField_e T m d k) := sorry
abbrev po_X10_count_e (T : Zt) (w : Int) : Zt → Option Zv → Prop := fun T' r => T = T' ∧ ∃ x : Int, r = some (vI x) ∧ ((w = 0 ∧ x = T 108 0 2) ∨ (w = 1 ∧ x = T 108 0 3) ∨ (w = 2 ∧ x = T 108 0 5) ∨ (w = 3 ∧ x = T 108 0 12) ∨ (w = 4 ∧ x = T 106 0 2) ∨ (w = 5 ∧ x = T 106 0 4) ∨ (w = 6 ∧ x = T 106 0 5) ∨ (w = 7 ∧ x = T 108 0 13) ∨ (¬ (0 ≤ w ∧ w ≤ 7) ∧ x = -3))
set_option maxHeartbeats 4000000 in
theorem ct_X10_count_e {T : Zt} {w : Int} : Ct_ yX10_count zX10_count T [vR 110 0, vI w] (po_X10_count_e T w) := sorry
abbrev po_X10_moved_e (T : Zt) (k : Int) : Zt → Option Zv → Prop := fun T' r => T = T' ∧ ∃ x : Int, r = some (vI x) ∧ ((0 ≤ k ∧ k < T 106 0 12 ∧ x = T 531 0 k) ∨ (¬ (0 ≤ k ∧ k < T 106 0 12) ∧ x = -1))
set_option maxHeartbeats 4000000 in
theorem ct_X10_moved_e {T : Zt} {k : Int} : Ct_ yX10_moved zX10_moved T [vR 110 0, vI k] (po_X10_moved_e T k) := sorry
abbrev po_X10_walkOver_e (T : Zt) (m d : Int) : Zt → Option Zv → Prop := fun T' r => ∃ x : Int, r = some (vI x) ∧ fr_ [(102, [6])] T T' ∧ ((x = -2 ∧ ¬ (0 ≤ m ∧ m < T 106 0 4) ∧ T = T') ∨ ((0 ≤ m ∧ m < T 106 0 4) ∧ ((x = -3 ∧ ¬ (0 ≤ d ∧ d ≤ 1) ∧ T = T') ∨ ((0 ≤ d ∧ d ≤ 1) ∧ ((x = -4 ∧ ¬ ((T 102 m 6 = -1 ∧ T 102 m 10 = 0) ∧ T 102 m 5 ≤ T 108 0 13) ∧ T = T') ∨ (x = 1 ∧ ((T 102 m 6 = -1 ∧ T 102 m 10 = 0) ∧ T 102 m 5 ≤ T 108 0 13) ∧ T' = up_ T 102 m 6 d))))))
set_option maxHeartbeats 4000000 in
theorem ct_X10_walkOver_e {T : Zt} {m d : Int} (hka : KA_ T) : Ct_ yX10_walkOver zX10_walkOver T [vR 110 0, vI m, vI d] (po_X10_walkOver_e T m d) := sorry
abbrev po_X2_placeOf_e (T : Zt) (p : Int) (q : Int) : Zt → Option Zv → Prop := fun T' r => T = T' ∧ ∃ x : Int, r = some (vI x) ∧ ((x = -1 ∧ ∀ t j, 0 ≤ t → t < 2 → 0 ≤ j → j < T 449 p t → T 448 p (t * 10 + j) ≠ q) ∨ ((0 ≤ x ∧ x ≤ 19) ∧ x % 10 < T 449 p (x / 10) ∧ T 448 p x = q))
set_option maxHeartbeats 4000000 in
theorem ct_X2_placeOf_e {T : Zt} {p : Int} {q : Int} : Ct_ yX2_placeOf zX2_placeOf T [vR 102 p, vI q] (po_X2_placeOf_e T p q) := sorry
abbrev po_X8_clubOn_e (T : Zt) (p d : Int) : Zt → Option Zv → Prop := fun T' r => T = T' ∧ ∃ x : Int, r = some (vI x) ∧ (x = co9_c T p d)
set_option maxHeartbeats 4000000 in
theorem ct_X8_clubOn_e {T : Zt} {p d : Int} (h1 : 0 ≤ p ∧ p < 200) (h2 : p < T 108 0 3) (hsp : SPR_ T) : Ct_ yX8_clubOn zX8_clubOn T [vR 108 0, vI p, vI d] (po_X8_clubOn_e T p d) := sorry
abbrev po_X11_match_e (T : Zt) (m w : Int) : Zt → Option Zv → Prop := fun T' r => T = T' ∧ ∃ x : Int, r = some (vI x) ∧ ((x = -2 ∧ ¬ (0 ≤ m ∧ m < T 111 0 29)) ∨ ((0 ≤ m ∧ m < T 111 0 29) ∧ ((w = 0 ∧ x = T 230 0 m) ∨ (w = 1 ∧ x = T 231 0 m) ∨ (w = 2 ∧ x = T 232 0 m) ∨ (w = 3 ∧ x = T 233 0 m) ∨ (w = 4 ∧ x = T 234 0 m) ∨ (w = 5 ∧ x = T 235 0 m) ∨ (w = 6 ∧ x = T 236 0 m) ∨ (w = 7 ∧ x = T 237 0 m) ∨ (¬ (0 ≤ w ∧ w ≤ 7) ∧ x = -3))))
set_option maxHeartbeats 4000000 in
theorem ct_X11_match_e {T : Zt} {m w : Int} : Ct_ yX11_match zX11_match T [vR 111 0, vI m, vI w] (po_X11_match_e T m w) := sorry
abbrev po_X11_rows_e (T : Zt) (m w : Int) : Zt → Option Zv → Prop := fun T' r => T = T' ∧ ∃ x : Int, r = some (vI x) ∧ ((x = -2 ∧ ¬ (0 ≤ m ∧ m < T 111 0 29)) ∨ ((0 ≤ m ∧ m < T 111 0 29) ∧ ((¬ (0 ≤ w ∧ w ≤ 1) ∧ x = -3) ∨ (w = 0 ∧ x = T 254 0 m) ∨ (w = 1 ∧ x = T 256 0 m))))
set_option maxHeartbeats 4000000 in
theorem ct_X11_rows_e {T : Zt} {m w : Int} : Ct_ yX11_rows zX11_rows T [vR 111 0, vI m, vI w] (po_X11_rows_e T m w) := sorry
abbrev po_X11_state_e (T : Zt) (m w : Int) : Zt → Option Zv → Prop := fun T' r => T = T' ∧ ∃ x : Int, r = some (vI x) ∧ ((x = -2 ∧ ¬ (0 ≤ m ∧ m < T 111 0 29)) ∨ ((0 ≤ m ∧ m < T 111 0 29) ∧ ((¬ (0 ≤ w ∧ w ≤ 7) ∧ x = -3) ∨ ((0 ≤ w ∧ w ≤ 7) ∧ ((¬ (T 235 0 m = 1 ∨ T 235 0 m = 2) ∧ x = -4) ∨ ((T 235 0 m = 1 ∨ T 235 0 m = 2) ∧ x = T 246 0 (8 * m + w)))))))
set_option maxHeartbeats 4000000 in
theorem ct_X11_state_e {T : Zt} {m w : Int} : Ct_ yX11_state zX11_state T [vR 111 0, vI m, vI w] (po_X11_state_e T m w) := sorry
abbrev po_X11_onField_e (T : Zt) (m s i : Int) : Zt → Option Zv → Prop := fun T' r => T = T' ∧ ∃ x : Int, r = some (vI x) ∧ ((x = -2 ∧ ¬ (0 ≤ m ∧ m < T 111 0 29)) ∨ ((0 ≤ m ∧ m < T 111 0 29) ∧ ((¬ (0 ≤ s ∧ s ≤ 1) ∧ x = -3) ∨ ((0 ≤ s ∧ s ≤ 1) ∧ ((¬ ((T 235 0 m = 1 ∨ T 235 0 m = 2) ∧ 0 ≤ i ∧ i < T 244 0 (2 * m + s)) ∧ x = -1) ∨ ((T 235 0 m = 1 ∨ T 235 0 m = 2) ∧ (0 ≤ i ∧ i < T 244 0 (2 * m + s)) ∧ x = T 240 0 (T 245 0 (6 * (2 * m + s) + i))))))))
set_option maxHeartbeats 4000000 in
theorem ct_X11_onField_e {T : Zt} {m s i : Int} : Ct_ yX11_onField zX11_onField T [vR 111 0, vI m, vI s, vI i] (po_X11_onField_e T m s i) := sorry
abbrev po_X11_count_e (T : Zt) (w : Int) : Zt → Option Zv → Prop := fun T' r => T = T' ∧ ∃ x : Int, r = some (vI x) ∧ ((w = 0 ∧ x = T 111 0 12) ∨ (w = 1 ∧ x = T 111 0 15) ∨ (w = 2 ∧ x = T 111 0 16) ∨ (w = 3 ∧ x = T 111 0 21) ∨ (w = 4 ∧ x = T 111 0 6) ∨ (w = 5 ∧ x = T 111 0 29) ∨ (w = 6 ∧ x = T 111 0 47) ∨ (w = 7 ∧ x = T 111 0 3) ∨ (¬ (0 ≤ w ∧ w ≤ 7) ∧ x = -3))
set_option maxHeartbeats 4000000 in
theorem ct_X11_count_e {T : Zt} {w : Int} : Ct_ yX11_count zX11_count T [vR 111 0, vI w] (po_X11_count_e T w) := sorry
abbrev po_X11_moved_e (T : Zt) (k : Int) : Zt → Option Zv → Prop := fun T' r => T = T' ∧ ∃ x : Int, r = some (vI x) ∧ ((0 ≤ k ∧ k < T 111 0 75 ∧ x = T 274 0 k) ∨ (¬ (0 ≤ k ∧ k < T 111 0 75) ∧ x = -1))
set_option maxHeartbeats 4000000 in
theorem ct_X11_moved_e {T : Zt} {k : Int} : Ct_ yX11_moved zX11_moved T [vR 111 0, vI k] (po_X11_moved_e T k) := sorry
abbrev po_X11_clubOf_e (T : Zt) (p d : Int) : Zt → Option Zv → Prop := fun T' r => T = T' ∧ ∃ x : Int, r = some (vI x) ∧ (x = co9_c T p d)
set_option maxHeartbeats 4000000 in
theorem ct_X11_clubOf_e {T : Zt} {p d : Int} : Ct_ yX11_clubOf zX11_clubOf T [vR 111 0, vI p, vI d] (po_X11_clubOf_e T p d) := sorry
