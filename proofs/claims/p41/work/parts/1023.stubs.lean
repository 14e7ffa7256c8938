-- readOrder of the house
/-- what was read stands in the house's rows -/
def HO9_ (r : Qr9_ (Int × (Int → Int))) (T : Zt) : Prop := ∃ v, r = Sum.inr (T 105 0 9, v) ∧ VH9_ T v
abbrev po_X5_readOrder_e (T : Zt) (v : Int → Int) : Zt → Option Zv → Prop := fun T' r => ∃ x : Int, r = some (vI x) ∧ fr_ [(105, [7, 8, 9, 2, 3]), (504, []), (505, [])] T T' ∧ ((x = 0 ∧ orf9_ 9 (cl9_ (T 105 0 1) (fun j => T 500 0 j)) (T 105 0 1) (T 105 0 9) (fun _ => 0) 0 (ov9_ v) = Sum.inl (T' 105 0 2, T' 105 0 3)) ∨ (x = 1 ∧ HO9_ (orf9_ 9 (cl9_ (T 105 0 1) (fun j => T 500 0 j)) (T 105 0 1) (T 105 0 9) (fun _ => 0) 0 (ov9_ v)) T' ∧ T' 105 0 2 = T 105 0 2 ∧ T' 105 0 3 = T 105 0 3 ∧ T 105 0 9 ≤ T' 105 0 9 ∧ T' 105 0 9 ≤ T 105 0 1))
set_option maxHeartbeats 4000000 in
theorem ct_X5_readOrder_e {T : Zt} {v : Int → Int} (h9 : T 105 0 9 ≤ T 105 0 1) (hv : VH9_ T v) : Ct_ yX5_readOrder zX5_readOrder T [vR 105 0] (po_X5_readOrder_e T v) := sorry
-- readStatement and read of the house
def HS9_ (r : Qr9_ (Int × (Int → Int) × (Int → Int))) (T : Zt) : Prop := ∃ t v, r = Sum.inr (T 105 0 9, t, v) ∧ BT9_ (T 105 0 6) t ∧ VH9_ T v
def HV9_ (r : Qr9_ (Int → Int)) (T : Zt) : Prop := ∃ v, r = Sum.inr v ∧ VH9_ T v
theorem dv9_i {j : Int} (g : j < 16) : dv9_ j = (sa_ 0).getD j.toNat 0 := sorry
theorem dv9_4 : dv9_ 4 = 2 := sorry
theorem dv9_16 : dv9_ (16 + 0) = 0 := sorry
theorem dv9_17 : dv9_ (16 + 1) = 1 := sorry
theorem VH9_p {T T' : Zt} {v : Int → Int} (h : VH9_ T v) (ho : ∀ j, j ≠ 1 → j ≠ 2 → j ≠ 3 → T' 504 0 j = T 504 0 j) (hk : ∀ j, T' 505 0 j = T 505 0 j) : VH9_ T' (u9_ (u9_ (u9_ v 1 (T' 504 0 1)) 2 (T' 504 0 2)) 3 (T' 504 0 3)) := sorry
abbrev po_X5_readStatement_e (T : Zt) (a : Int) (t : Int → Int) (v : Int → Int) : Zt → Option Zv → Prop := fun T' r => ∃ x : Int, r = some (vI x) ∧ fr_ [(105, [7, 8, 9, 2, 3, 6]), (504, []), (505, [])] T T' ∧ ((x = 0 ∧ stf9_ (cl9_ (T 105 0 1) (fun j => T 500 0 j)) (T 105 0 1) a t v = Sum.inl (T' 105 0 2, T' 105 0 3)) ∨ (x = 1 ∧ HS9_ (stf9_ (cl9_ (T 105 0 1) (fun j => T 500 0 j)) (T 105 0 1) a t v) T' ∧ T' 105 0 2 = T 105 0 2 ∧ T' 105 0 3 = T 105 0 3 ∧ T 105 0 9 ≤ T' 105 0 9 ∧ T' 105 0 9 ≤ T 105 0 1))
set_option maxHeartbeats 4000000 in
theorem ct_X5_readStatement_e {T : Zt} {a : Int} {t : Int → Int} {v : Int → Int} (h0 : 0 ≤ a) (ht : TK9_ (fun j => T 500 0 j) (T 105 0 1) a (T 105 0 8) (T 105 0 9) (T 105 0 7)) (hb : BT9_ (T 105 0 6) t) (hv : VH9_ T v) : Ct_ yX5_readStatement zX5_readStatement T [vR 105 0] (po_X5_readStatement_e T a t v) := sorry
abbrev po_X5_read_e (T : Zt) : Zt → Option Zv → Prop := fun T' r => ∃ x : Int, r = some (vI x) ∧ fr_ [(105, [7, 8, 9, 2, 3, 6]), (504, []), (505, [])] T T' ∧ ((x = 0 ∧ rdf9_ 402 (cl9_ (T 105 0 1) (fun j => T 500 0 j)) (T 105 0 1) 0 (fun _ => 0) dv9_ = Sum.inl (T' 105 0 2, T' 105 0 3)) ∨ (x = 1 ∧ HV9_ (rdf9_ 402 (cl9_ (T 105 0 1) (fun j => T 500 0 j)) (T 105 0 1) 0 (fun _ => 0) dv9_) T' ∧ T' 105 0 3 = -1))
set_option maxHeartbeats 4000000 in
theorem ct_X5_read_e {T : Zt} : Ct_ yX5_read zX5_read T [vR 105 0] (po_X5_read_e T) := sorry
-- wantNumber and readSport of the reference
abbrev po_X11_wantNumber_e (T : Zt) (least most rule : Int) : Zt → Option Zv → Prop := fun T' r => r = none ∧ fr_ [(111, [57, 58, 59, 60, 61, 62, 63]), (204, [])] T T' ∧ (((T 111 0 62 ≠ 0 ∧ T' 111 0 62 = T 111 0 62 ∧ T' 111 0 63 = T 111 0 63) ∨ (T 111 0 62 = 0 ∧ T' 111 0 62 ≠ 0 ∧ nrf9_ (cl9_ (T 111 0 1) (fun j => T 200 0 j)) (T 111 0 1) (T 111 0 57) least most = Sum.inl (T' 111 0 62, T' 111 0 63)) ∨ (T 111 0 62 = 0 ∧ T' 111 0 62 = 0 ∧ nrf9_ (cl9_ (T 111 0 1) (fun j => T 200 0 j)) (T 111 0 1) (T 111 0 57) least most = Sum.inr (T' 111 0 57, T' 204 0 rule) ∧ T' 111 0 63 = T 111 0 63 ∧ T 111 0 57 ≤ T' 111 0 57 ∧ T' 111 0 57 ≤ T 111 0 1)) ∧ ∀ j, j ≠ rule → T' 204 0 j = T 204 0 j)
set_option maxHeartbeats 4000000 in
theorem ct_X11_wantNumber_e {T : Zt} {least most rule : Int} (h1 : T 111 0 62 = 0 → T 111 0 57 ≤ T 111 0 1) (h2 : 0 ≤ rule ∧ rule < 23) (h3 : 0 ≤ least ∧ most ≤ 999) : Ct_ yX11_wantNumber zX11_wantNumber T [vR 111 0, vI least, vI most, vI rule] (po_X11_wantNumber_e T least most rule) := sorry
abbrev po_X11_readSport_e (T : Zt) : Zt → Option Zv → Prop := fun T' r => r = none ∧ fr_ [(111, [57, 58, 59, 60, 61, 62, 63]), (204, [])] T T' ∧ (((T' 111 0 62 ≠ 0 ∧ wof9_ wl_265 wt_265 (cl9_ (T 111 0 1) (fun j => T 200 0 j)) (T 111 0 1) (T 111 0 57) = Sum.inl (T' 111 0 62, T' 111 0 63)) ∨ (T' 111 0 62 = 0 ∧ wof9_ wl_265 wt_265 (cl9_ (T 111 0 1) (fun j => T 200 0 j)) (T 111 0 1) (T 111 0 57) = Sum.inr (T' 111 0 57, T' 204 0 0) ∧ T' 111 0 63 = T 111 0 63 ∧ T 111 0 57 ≤ T' 111 0 57 ∧ T' 111 0 57 ≤ T 111 0 1)) ∧ ∀ j, j ≠ 0 → T' 204 0 j = T 204 0 j)
set_option maxHeartbeats 4000000 in
theorem ct_X11_readSport_e {T : Zt} (h1 : T 111 0 57 ≤ T 111 0 1) (h62 : T 111 0 62 = 0) (hC : CW_ T) : Ct_ yX11_readSport zX11_readSport T [vR 111 0] (po_X11_readSport_e T) := sorry
-- readOrder of the reference
def MO9_ (r : Qr9_ (Int × (Int → Int))) (T : Zt) : Prop := ∃ v, r = Sum.inr (T 111 0 57, v) ∧ VR9_ T v
/-- the keys told so far, as the row has them -/
def KT9_ (T : Zt) (t : Int → Int) : Prop := ∀ j, 0 ≤ j → j < 7 → T 270 0 j = t j
/-- the fresh rules while k of the keys are wiped -/
def VW9_ (T : Zt) (v : Int → Int) (k : Int) : Prop := ∀ j, 0 ≤ j → j < 23 → (16 ≤ j ∧ j < 16 + k → T 204 0 j = -1) ∧ (¬ (16 ≤ j ∧ j < 16 + k) → T 204 0 j = v j)
theorem vw9_0 {T : Zt} {v : Int → Int} (h : VR9_ T v) : VW9_ T v 0 := sorry
theorem vw9_s {T T' : Zt} {v : Int → Int} {k : Int} (h : VW9_ T v k) (h0 : 0 ≤ k) (ho : ∀ j, j ≠ 16 + k → T' 204 0 j = T 204 0 j) (hx : T' 204 0 (16 + k) = -1) : VW9_ T' v (k + 1) := sorry
theorem vw9_e {T T' : Zt} {v : Int → Int} (h : VW9_ T v 7) (ho : ∀ j, j ≠ 4 → T' 204 0 j = T 204 0 j) (hx : T' 204 0 4 = 0) : VR9_ T' (ov9_ v) := sorry
theorem kt9_s {T T' : Zt} {t : Int → Int} {x : Int} (h : KT9_ T t) (ho : ∀ j, j ≠ x → T' 270 0 j = T 270 0 j) (hx : T' 270 0 x = 1) : KT9_ T' (u9_ t x 1) := sorry
abbrev po_X11_readOrder_e (T : Zt) (v : Int → Int) : Zt → Option Zv → Prop := fun T' r => r = none ∧ fr_ [(111, [57, 58, 59, 60, 61, 62, 63]), (204, []), (270, [])] T T' ∧ ((T' 111 0 62 ≠ 0 ∧ orf9_ 9 (cl9_ (T 111 0 1) (fun j => T 200 0 j)) (T 111 0 1) (T 111 0 57) (fun _ => 0) 0 (ov9_ v) = Sum.inl (T' 111 0 62, T' 111 0 63)) ∨ (T' 111 0 62 = 0 ∧ MO9_ (orf9_ 9 (cl9_ (T 111 0 1) (fun j => T 200 0 j)) (T 111 0 1) (T 111 0 57) (fun _ => 0) 0 (ov9_ v)) T' ∧ T' 111 0 63 = T 111 0 63 ∧ T 111 0 57 ≤ T' 111 0 57 ∧ T' 111 0 57 ≤ T 111 0 1))
set_option maxHeartbeats 4000000 in
theorem ct_X11_readOrder_e {T : Zt} {v : Int → Int} (h1 : T 111 0 57 ≤ T 111 0 1) (h62 : T 111 0 62 = 0) (hC : CW_ T) (hv : VR9_ T v) : Ct_ yX11_readOrder zX11_readOrder T [vR 111 0] (po_X11_readOrder_e T v) := sorry
-- layDefaults and readStatement of the reference
def TA9_ (T : Zt) (t : Int → Int) : Prop := ∀ j, 0 ≤ j → j < 14 → T 269 0 j = t j
theorem ta9_s {T T' : Zt} {t : Int → Int} {x : Int} (h : TA9_ T t) (ho : ∀ j, j ≠ x → T' 269 0 j = T 269 0 j) (hx : T' 269 0 x = 1) : TA9_ T' (u9_ t x 1) := sorry
theorem TA9_f {ws : List (Nat × List Int)} {T T' : Zt} {t : Int → Int} (h : TA9_ T t) (f : fr_ ws T T') (w : ∀ j, fw_ ws 269 j = false) : TA9_ T' t := sorry
def MS9_ (r : Qr9_ (Int × (Int → Int) × (Int → Int))) (T : Zt) : Prop := ∃ t v, r = Sum.inr (T 111 0 57, t, v) ∧ TA9_ T t ∧ VR9_ T v
/-- three numbers, one behind the other -/
theorem pnf9_h {b : Int → Int} {n a A0 B0 A1 B1 p1 v1 A2 B2 p2 v2 A3 B3 p3 v3 : Int} (h0 : A0 = 0)
  (q1 : (A0 ≠ 0 ∧ A1 = A0 ∧ B1 = B0) ∨ (A0 = 0 ∧ A1 ≠ 0 ∧ nrf9_ b n a 0 9 = Sum.inl (A1, B1)) ∨ (A0 = 0 ∧ A1 = 0 ∧ nrf9_ b n a 0 9 = Sum.inr (p1, v1) ∧ B1 = B0 ∧ a ≤ p1 ∧ p1 ≤ n))
  (q2 : (A1 ≠ 0 ∧ A2 = A1 ∧ B2 = B1) ∨ (A1 = 0 ∧ A2 ≠ 0 ∧ nrf9_ b n p1 0 v1 = Sum.inl (A2, B2)) ∨ (A1 = 0 ∧ A2 = 0 ∧ nrf9_ b n p1 0 v1 = Sum.inr (p2, v2) ∧ B2 = B1 ∧ p1 ≤ p2 ∧ p2 ≤ n))
  (q3 : (A2 ≠ 0 ∧ A3 = A2 ∧ B3 = B2) ∨ (A2 = 0 ∧ A3 ≠ 0 ∧ nrf9_ b n p2 0 v2 = Sum.inl (A3, B3)) ∨ (A2 = 0 ∧ A3 = 0 ∧ nrf9_ b n p2 0 v2 = Sum.inr (p3, v3) ∧ B3 = B2 ∧ p2 ≤ p3 ∧ p3 ≤ n)) :
  (A3 ≠ 0 ∧ pnf9_ b n a = Sum.inl (A3, B3)) ∨ (A3 = 0 ∧ pnf9_ b n a = Sum.inr (p3, v1, v2, v3) ∧ B3 = B0 ∧ a ≤ p3 ∧ p3 ≤ n) := sorry
def sb9_c (k : Nat) : Bool := wl_267.getD k 0 == (sa_ 1).getD (k + 6) 0 && wl_268.getD k 0 == (sa_ 2).getD (k + 6) 0
theorem sb9_a : ∀ k, k < 10 → sb9_c k = true := sorry
theorem sb9_q {x : Int} (h0 : 4 ≤ x) (h1 : x < 14) : wl_267.getD (x - 4).toNat 0 = (sa_ 1).getD (x + 2).toNat 0 ∧ wl_268.getD (x - 4).toNat 0 = (sa_ 2).getD (x + 2).toNat 0 := sorry
abbrev po_X11_layDefaults_e (T : Zt) : Zt → Option Zv → Prop := fun T' r => r = none ∧ fr_ [(204, []), (269, [])] T T' ∧ (VR9_ T' dv9_ ∧ TA9_ T' (fun _ => 0))
set_option maxHeartbeats 4000000 in
theorem ct_X11_layDefaults_e {T : Zt} : Ct_ yX11_layDefaults zX11_layDefaults T [vR 111 0] (po_X11_layDefaults_e T) := sorry
abbrev po_X11_readStatement_e (T : Zt) (a : Int) (t : Int → Int) (v : Int → Int) : Zt → Option Zv → Prop := fun T' r => r = none ∧ fr_ [(111, [57, 58, 59, 60, 61, 62, 63]), (204, []), (269, []), (270, [])] T T' ∧ ((T' 111 0 62 ≠ 0 ∧ stf9_ (cl9_ (T 111 0 1) (fun j => T 200 0 j)) (T 111 0 1) a t v = Sum.inl (T' 111 0 62, T' 111 0 63)) ∨ (T' 111 0 62 = 0 ∧ MS9_ (stf9_ (cl9_ (T 111 0 1) (fun j => T 200 0 j)) (T 111 0 1) a t v) T' ∧ T' 111 0 63 = T 111 0 63 ∧ T 111 0 60 ≤ T' 111 0 57 ∧ T' 111 0 57 ≤ T 111 0 1))
set_option maxHeartbeats 4000000 in
theorem ct_X11_readStatement_e {T : Zt} {a : Int} {t : Int → Int} {v : Int → Int} (h0 : 0 ≤ a) (hk : TK9_ (fun j => T 200 0 j) (T 111 0 1) a (T 111 0 59) (T 111 0 60) (T 111 0 58)) (h57 : T 111 0 57 = T 111 0 60) (h62 : T 111 0 62 = 0) (hC : CW_ T) (ht : TA9_ T t) (hv : VR9_ T v) : Ct_ yX11_readStatement zX11_readStatement T [vR 111 0] (po_X11_readStatement_e T a t v) := sorry
-- what is read keeps the bounds of the rules
def GV9_ (v : Int → Int) : Prop := (∀ w : Int, 0 ≤ w → w < 23 → (rb_ w).1 ≤ v w ∧ v w ≤ (rb_ w).2) ∧ v 2 ≤ v 1 ∧ v 3 ≤ v 2
theorem gb9_u {v : Int → Int} {w x : Int} (h : GV9_ v) (hx : (rb_ w).1 ≤ x ∧ x ≤ (rb_ w).2) (h1 : w ≠ 1) (h2 : w ≠ 2) (h3 : w ≠ 3) : GV9_ (u9_ v w x) := sorry
theorem rb9_0 : (rb_ 0) = (0, 3) ∧ (rb_ 1) = (0, 9) ∧ (rb_ 2) = (0, 9) ∧ (rb_ 3) = (0, 9) ∧ (rb_ 4) = (0, 7) ∧ (rb_ 5) = (0, 1) := sorry
theorem rb9_n : ∀ k : Nat, k < 16 → (rb_ (k : Int)).1 = (sa_ 1).getD k 0 ∧ (rb_ (k : Int)).2 = (sa_ 2).getD k 0 := sorry
theorem rb9_i {w : Int} (h0 : 0 ≤ w) (h1 : w < 16) : (rb_ w).1 = (sa_ 1).getD w.toNat 0 ∧ (rb_ w).2 = (sa_ 2).getD w.toNat 0 := sorry
theorem rb9_m : ∀ k : Nat, k < 7 → rb_ ((16 + k : Nat) : Int) = (-1, 6) := sorry
theorem rb9_k {w : Int} (h0 : 16 ≤ w) (h1 : w < 23) : rb_ w = (-1, 6) := sorry
theorem gb9_p {v : Int → Int} {x y z : Int} (h : GV9_ v) (hx : 0 ≤ x ∧ x ≤ 9) (hy : 0 ≤ y ∧ y ≤ x) (hz : 0 ≤ z ∧ z ≤ y) : GV9_ (u9_ (u9_ (u9_ v 1 x) 2 y) 3 z) := sorry
theorem gb9_o {v : Int → Int} (h : GV9_ v) : GV9_ (ov9_ v) := sorry
theorem gb9_n : ∀ k : Nat, k < 23 → (rb_ (k : Int)).1 ≤ dv9_ (k : Int) ∧ dv9_ (k : Int) ≤ (rb_ (k : Int)).2 := sorry
theorem gb9_d : GV9_ dv9_ := sorry
theorem wd9_x (w : List Int) (ts : List (Int × Int × Int)) (b : Int → Int) (s e : Int) : WD9_ w ts b s e (wdf9_ w ts b s e) := sorry
theorem wof9_g {w : List Int} {ts : List (Int × Int × Int)} {c b : Int → Int} {L nW n a : Int} {q : Int × Int} (ht : TB9_ w ts c L nW) (h : wof9_ w ts b n a = Sum.inr q) : 0 ≤ q.2 ∧ q.2 < nW := sorry
theorem nrf9_g {b : Int → Int} {n a lo mo : Int} {q : Int × Int} (h : nrf9_ b n a lo mo = Sum.inr q) : lo ≤ q.2 ∧ q.2 ≤ mo := sorry
theorem bn9_i {α β : Type} {r : Qr9_ α} {f : α → Qr9_ β} {y : β} (h : bn9_ r f = Sum.inr y) : ∃ q, r = Sum.inr q ∧ f q = Sum.inr y := sorry
theorem pnf9_g {b : Int → Int} {n a : Int} {q : Int × Int × Int × Int} (h : pnf9_ b n a = Sum.inr q) : (0 ≤ q.2.1 ∧ q.2.1 ≤ 9) ∧ (0 ≤ q.2.2.1 ∧ q.2.2.1 ≤ q.2.1) ∧ (0 ≤ q.2.2.2 ∧ q.2.2.2 ≤ q.2.2.1) := sorry
theorem orf9_g {b : Int → Int} {n : Int} : ∀ (f : Nat) {a c : Int} {t v : Int → Int} {p : Int × (Int → Int)}, KS9_ t c → GV9_ v → orf9_ f b n a t c v = Sum.inr p → GV9_ p.2 := sorry
theorem bdf9_g {b v : Int → Int} {n a x : Int} {p : Int × (Int → Int)} (hv : GV9_ v) (hx : 0 ≤ x ∧ x < 14) (h2 : x ≠ 2) (h : bdf9_ b n a x v = Sum.inr p) : GV9_ p.2 := sorry
theorem stf9_g {b t v : Int → Int} {n a : Int} {y : Int × (Int → Int) × (Int → Int)} (hv : GV9_ v) (h : stf9_ b n a t v = Sum.inr y) : GV9_ y.2.2 := sorry
theorem rdf9_g {b : Int → Int} {n : Int} : ∀ (f : Nat) {a : Int} {t v v' : Int → Int}, GV9_ v → rdf9_ f b n a t v = Sum.inr v' → GV9_ v' := sorry
/-- behind the last key there is none -/
def KV9_ (v : Int → Int) : Prop := ∀ k, 0 ≤ k → k < 7 → ¬ k < v 4 → v (16 + k) = -1
theorem kv9_u {v : Int → Int} {w x : Int} (h : KV9_ v) (h4 : w ≠ 4) (h16 : w < 16) : KV9_ (u9_ v w x) := sorry
theorem kv9_o {v : Int → Int} : KV9_ (ov9_ v) := sorry
theorem kv9_s {v : Int → Int} {c x : Int} (h : KV9_ v) (h4 : v 4 = c) : KV9_ (u9_ (u9_ v (16 + c) x) 4 (c + 1)) := sorry
theorem kv9_d : KV9_ dv9_ := sorry
theorem orf9_v {b : Int → Int} {n : Int} : ∀ (f : Nat) {a c : Int} {t v : Int → Int} {p : Int × (Int → Int)}, v 4 = c → KV9_ v → orf9_ f b n a t c v = Sum.inr p → KV9_ p.2 := sorry
theorem bdf9_v {b v : Int → Int} {n a x : Int} {p : Int × (Int → Int)} (hv : KV9_ v) (hx : 0 ≤ x ∧ x < 14) (h2 : x ≠ 2) (h : bdf9_ b n a x v = Sum.inr p) : KV9_ p.2 := sorry
theorem stf9_v {b t v : Int → Int} {n a : Int} {y : Int × (Int → Int) × (Int → Int)} (hv : KV9_ v) (h : stf9_ b n a t v = Sum.inr y) : KV9_ y.2.2 := sorry
theorem rdf9_v {b : Int → Int} {n : Int} : ∀ (f : Nat) {a : Int} {t v v' : Int → Int}, KV9_ v → rdf9_ f b n a t v = Sum.inr v' → KV9_ v' := sorry
-- competition of the reference
/-- what a competition's call does to the reference -/
def CR9_ (T T' : Zt) (x : Int) : Prop := (T 111 0 6 = 4 ∧ x = -5 ∧ T' 111 0 2 = -1 ∧ T' 111 0 1 = T 111 0 1 ∧ T' 111 0 6 = T 111 0 6) ∨ (T 111 0 6 < 4 ∧ T' 111 0 1 = 0 ∧ ((T' 111 0 6 = T 111 0 6 ∧ ∃ k, k ≠ 0 ∧ x = -10 - k ∧ rdf9_ 402 (cl9_ (T 111 0 1) (fun j => T 200 0 j)) (T 111 0 1) 0 (fun _ => 0) dv9_ = Sum.inl (k, T' 111 0 2)) ∨ (x = T 111 0 6 ∧ T' 111 0 6 = T 111 0 6 + 1 ∧ T' 111 0 2 = -1 ∧ ∃ v, rdf9_ 402 (cl9_ (T 111 0 1) (fun j => T 200 0 j)) (T 111 0 1) 0 (fun _ => 0) dv9_ = Sum.inr v ∧ ∀ j, 0 ≤ j → j < 23 → T' 205 0 (23 * T 111 0 6 + j) = v j)))
abbrev po_X11_competition_e (T : Zt) : Zt → Option Zv → Prop := fun T' r => ∃ x : Int, r = some (vI x) ∧ fr_ [(111, [1, 2, 6, 57, 58, 59, 60, 61, 62, 63]), (204, []), (269, []), (270, []), (205, [])] T T' ∧ ((x < 0 ∧ T' 111 0 6 = T 111 0 6 ∨ x = T 111 0 6 ∧ T' 111 0 6 = x + 1) ∧ RI_ T' ∧ RW_ T' ∧ (∀ j, j < 23 * T 111 0 6 → T' 205 0 j = T 205 0 j) ∧ CR9_ T T' x)
set_option maxHeartbeats 4000000 in
theorem ct_X11_competition_e {T : Zt} (hC : CW_ T) (hRI : RI_ T) (hRW : RW_ T) : Ct_ yX11_competition zX11_competition T [vR 111 0] (po_X11_competition_e T) := sorry
-- competition of the house
/-- what a competition's call does to the house -/
def CH9_ (T T' : Zt) (x : Int) : Prop := (4 ≤ T 106 0 2 ∧ x = -5 ∧ T' 105 0 3 = -1 ∧ T' 105 0 1 = T 105 0 1 ∧ T' 106 0 2 = T 106 0 2) ∨ (T 106 0 2 < 4 ∧ T' 105 0 1 = 0 ∧ ((T' 106 0 2 = T 106 0 2 ∧ ∃ k, x = -10 - k ∧ rdf9_ 402 (cl9_ (T 105 0 1) (fun j => T 500 0 j)) (T 105 0 1) 0 (fun _ => 0) dv9_ = Sum.inl (k, T' 105 0 3)) ∨ (x = T 106 0 2 ∧ T' 106 0 2 = T 106 0 2 + 1 ∧ T' 105 0 3 = -1 ∧ (∀ i j, i ≠ T 106 0 2 → T' 402 i j = T 402 i j) ∧ (∀ j, 0 ≤ j → j < 12 → T' 404 (T 106 0 2) j = -1) ∧ ∃ v, rdf9_ 402 (cl9_ (T 105 0 1) (fun j => T 500 0 j)) (T 105 0 1) 0 (fun _ => 0) dv9_ = Sum.inr v ∧ (∀ j, 0 ≤ j → j < 16 → T' 401 (T 106 0 2) j = v j) ∧ ∀ k, 0 ≤ k → k < v 4 → T' 402 (T 106 0 2) k = v (16 + k))))
abbrev po_X10_competition_e (T : Zt) : Zt → Option Zv → Prop := fun T' r => ∃ x : Int, r = some (vI x) ∧ (fr_ [(105, [7, 8, 9, 2, 3, 6, 1]), (504, []), (505, [])] T T' ∨ nc_ T T') ∧ CH9_ T T' x
set_option maxHeartbeats 4000000 in
theorem ct_X10_competition_e {T : Zt} (hna : NA_ T) : Ct_ yX10_competition zX10_competition T [vR 110 0] (po_X10_competition_e T) := sorry
-- sign, fault, rule of both sides
/-- a sign is put at the text's end -/
def SG9_ (k : Nat) (T T' : Zt) (n c : Int) : Prop := T' k 0 n = c ∧ ∀ j, j ≠ n → T' k 0 j = T k 0 j
/-- a row stays -/
def RS9_ (k : Nat) (T T' : Zt) : Prop := ∀ j, T' k 0 j = T k 0 j
abbrev po_X10_sign_e (T : Zt) (c : Int) : Zt → Option Zv → Prop := fun T' r => ∃ x : Int, r = some (vI x) ∧ fr_ [(105, [1]), (500, [])] T T' ∧ ((x = -3 ∧ T' 105 0 1 = T 105 0 1 ∧ ¬ (c = 10 ∨ 32 ≤ c ∧ c ≤ 126) ∧ RS9_ 500 T T') ∨ ((c = 10 ∨ 32 ≤ c ∧ c ≤ 126) ∧ T 105 0 1 = 400 ∧ x = -5 ∧ T' 105 0 1 = 400 ∧ RS9_ 500 T T') ∨ ((c = 10 ∨ 32 ≤ c ∧ c ≤ 126) ∧ T 105 0 1 < 400 ∧ x = T 105 0 1 + 1 ∧ T' 105 0 1 = x ∧ SG9_ 500 T T' (T 105 0 1) c))
set_option maxHeartbeats 4000000 in
theorem ct_X10_sign_e {T : Zt} {c : Int} : Ct_ yX10_sign zX10_sign T [vR 110 0, vI c] (po_X10_sign_e T c) := sorry
abbrev po_X11_sign_e (T : Zt) (c : Int) : Zt → Option Zv → Prop := fun T' r => ∃ x : Int, r = some (vI x) ∧ fr_ [(111, [1]), (200, [])] T T' ∧ ((x = -3 ∧ T' 111 0 1 = T 111 0 1 ∧ ¬ (c = 10 ∨ 32 ≤ c ∧ c ≤ 126) ∧ RS9_ 200 T T') ∨ ((c = 10 ∨ 32 ≤ c ∧ c ≤ 126) ∧ T 111 0 1 = 400 ∧ x = -5 ∧ T' 111 0 1 = 400 ∧ RS9_ 200 T T') ∨ ((c = 10 ∨ 32 ≤ c ∧ c ≤ 126) ∧ T 111 0 1 < 400 ∧ x = T 111 0 1 + 1 ∧ T' 111 0 1 = x ∧ SG9_ 200 T T' (T 111 0 1) c))
set_option maxHeartbeats 4000000 in
theorem ct_X11_sign_e {T : Zt} {c : Int} : Ct_ yX11_sign zX11_sign T [vR 111 0, vI c] (po_X11_sign_e T c) := sorry
abbrev po_X10_fault_e (T : Zt) : Zt → Option Zv → Prop := fun T' r => T = T' ∧ ∃ x : Int, r = some (vI x) ∧ (x = T 105 0 3)
set_option maxHeartbeats 4000000 in
theorem ct_X10_fault_e {T : Zt} : Ct_ yX10_fault zX10_fault T [vR 110 0] (po_X10_fault_e T) := sorry
abbrev po_X11_fault_e (T : Zt) : Zt → Option Zv → Prop := fun T' r => T = T' ∧ ∃ x : Int, r = some (vI x) ∧ (x = T 111 0 2)
set_option maxHeartbeats 4000000 in
theorem ct_X11_fault_e {T : Zt} : Ct_ yX11_fault zX11_fault T [vR 111 0] (po_X11_fault_e T) := sorry
abbrev po_X10_rule_e (T : Zt) (c w : Int) : Zt → Option Zv → Prop := fun T' r => T = T' ∧ ∃ x : Int, r = some (vI x) ∧ ((x = -2 ∧ ¬ (0 ≤ c ∧ c < T 106 0 2)) ∨ ((0 ≤ c ∧ c < T 106 0 2) ∧ x = -3 ∧ ¬ (0 ≤ w ∧ w < 23)) ∨ ((0 ≤ c ∧ c < T 106 0 2) ∧ (0 ≤ w ∧ w < 16) ∧ x = T 401 c w) ∨ ((0 ≤ c ∧ c < T 106 0 2) ∧ (16 ≤ w ∧ w < 23) ∧ w - 16 < T 401 c 4 ∧ x = T 402 c (w - 16)) ∨ ((0 ≤ c ∧ c < T 106 0 2) ∧ (16 ≤ w ∧ w < 23) ∧ ¬ w - 16 < T 401 c 4 ∧ x = -1))
set_option maxHeartbeats 4000000 in
theorem ct_X10_rule_e {T : Zt} {c w : Int} (hka : KA_ T) : Ct_ yX10_rule zX10_rule T [vR 110 0, vI c, vI w] (po_X10_rule_e T c w) := sorry
abbrev po_X11_rule_e (T : Zt) (c w : Int) : Zt → Option Zv → Prop := fun T' r => T = T' ∧ ∃ x : Int, r = some (vI x) ∧ ((x = -2 ∧ ¬ (0 ≤ c ∧ c < T 111 0 6)) ∨ ((0 ≤ c ∧ c < T 111 0 6) ∧ x = -3 ∧ ¬ (0 ≤ w ∧ w < 23)) ∨ ((0 ≤ c ∧ c < T 111 0 6) ∧ (0 ≤ w ∧ w < 23) ∧ x = T 205 0 (23 * c + w)))
set_option maxHeartbeats 4000000 in
theorem ct_X11_rule_e {T : Zt} {c w : Int} : Ct_ yX11_rule zX11_rule T [vR 111 0, vI c, vI w] (po_X11_rule_e T c w) := sorry
-- texts, competitions, rules: alike on both sides
def TXR_ (T : Zt) : Prop := T 105 0 1 = T 111 0 1 ∧ T 105 0 3 = T 111 0 2 ∧ T 106 0 2 = T 111 0 6 ∧ (∀ j, 0 ≤ j → j < 400 → T 500 0 j = T 200 0 j) ∧ ∀ c, 0 ≤ c → c < T 106 0 2 → (∀ w, 0 ≤ w → w < 16 → T 401 c w = T 205 0 (23 * c + w)) ∧ ∀ k, 0 ≤ k → k < 7 → (k < T 401 c 4 → T 402 c k = T 205 0 (23 * c + (16 + k))) ∧ (¬ k < T 401 c 4 → T 205 0 (23 * c + (16 + k)) = -1)
/-- the house's side of it stays -/
def kth_ (T T' : Zt) : Prop := T' 105 0 1 = T 105 0 1 ∧ T' 105 0 3 = T 105 0 3 ∧ T' 106 0 2 = T 106 0 2 ∧ (∀ j, T' 500 0 j = T 500 0 j) ∧ (∀ c j, T' 401 c j = T 401 c j) ∧ ∀ c j, T' 402 c j = T 402 c j
/-- the reference's side of it stays -/
def ktr_ (T T' : Zt) : Prop := T' 111 0 1 = T 111 0 1 ∧ T' 111 0 2 = T 111 0 2 ∧ T' 111 0 6 = T 111 0 6 ∧ (∀ j, T' 200 0 j = T 200 0 j) ∧ ∀ j, T' 205 0 j = T 205 0 j
theorem txr_k {T T' : Zt} (h : TXR_ T) (k : kth_ T T') (r : ktr_ T T') : TXR_ T' := sorry
/-- a sign on both sides -/
theorem txr_s {T T1 T2 : Zt} {c x1 x2 : Int} (h : TXR_ T) (hl : 0 ≤ T 105 0 1) (ho : T1 105 0 3 = T 105 0 3 ∧ T1 106 0 2 = T 106 0 2 ∧ (∀ c j, T1 401 c j = T 401 c j) ∧ ∀ c j, T1 402 c j = T 402 c j) (d1 : (x1 = -3 ∧ T1 105 0 1 = T 105 0 1 ∧ ¬ (c = 10 ∨ 32 ≤ c ∧ c ≤ 126) ∧ RS9_ 500 T T1) ∨ ((c = 10 ∨ 32 ≤ c ∧ c ≤ 126) ∧ T 105 0 1 = 400 ∧ x1 = -5 ∧ T1 105 0 1 = 400 ∧ RS9_ 500 T T1) ∨ ((c = 10 ∨ 32 ≤ c ∧ c ≤ 126) ∧ T 105 0 1 < 400 ∧ x1 = T 105 0 1 + 1 ∧ T1 105 0 1 = x1 ∧ SG9_ 500 T T1 (T 105 0 1) c)) (r : ktr_ T T1)
  (hp : T2 111 0 2 = T1 111 0 2 ∧ T2 111 0 6 = T1 111 0 6 ∧ ∀ j, T2 205 0 j = T1 205 0 j) (d2 : (x2 = -3 ∧ T2 111 0 1 = T1 111 0 1 ∧ ¬ (c = 10 ∨ 32 ≤ c ∧ c ≤ 126) ∧ RS9_ 200 T1 T2) ∨ ((c = 10 ∨ 32 ≤ c ∧ c ≤ 126) ∧ T1 111 0 1 = 400 ∧ x2 = -5 ∧ T2 111 0 1 = 400 ∧ RS9_ 200 T1 T2) ∨ ((c = 10 ∨ 32 ≤ c ∧ c ≤ 126) ∧ T1 111 0 1 < 400 ∧ x2 = T1 111 0 1 + 1 ∧ T2 111 0 1 = x2 ∧ SG9_ 200 T1 T2 (T1 111 0 1) c)) (k : kth_ T1 T2) : x1 = x2 ∧ TXR_ T2 := sorry
/-- a wiped text on both sides -/
theorem txr_w {T T1 T2 : Zt} {x1 x2 : Int} (h : TXR_ T) (ho : T1 105 0 3 = T 105 0 3 ∧ T1 106 0 2 = T 106 0 2 ∧ (∀ j, T1 500 0 j = T 500 0 j) ∧ (∀ c j, T1 401 c j = T 401 c j) ∧ ∀ c j, T1 402 c j = T 402 c j) (d1 : T1 105 0 1 = 0 ∧ x1 = T 105 0 1) (r : ktr_ T T1) (hp : T2 111 0 2 = T1 111 0 2 ∧ T2 111 0 6 = T1 111 0 6 ∧ (∀ j, T2 200 0 j = T1 200 0 j) ∧ ∀ j, T2 205 0 j = T1 205 0 j) (d2 : T2 111 0 1 = 0 ∧ x2 = T1 111 0 1) (k : kth_ T1 T2) : x1 = x2 ∧ TXR_ T2 := sorry
/-- a rule is told alike -/
theorem txr_r {T : Zt} {c w x1 x2 : Int} (h : TXR_ T) (d1 : (x1 = -2 ∧ ¬ (0 ≤ c ∧ c < T 106 0 2)) ∨ ((0 ≤ c ∧ c < T 106 0 2) ∧ x1 = -3 ∧ ¬ (0 ≤ w ∧ w < 23)) ∨ ((0 ≤ c ∧ c < T 106 0 2) ∧ (0 ≤ w ∧ w < 16) ∧ x1 = T 401 c w) ∨ ((0 ≤ c ∧ c < T 106 0 2) ∧ (16 ≤ w ∧ w < 23) ∧ w - 16 < T 401 c 4 ∧ x1 = T 402 c (w - 16)) ∨ ((0 ≤ c ∧ c < T 106 0 2) ∧ (16 ≤ w ∧ w < 23) ∧ ¬ w - 16 < T 401 c 4 ∧ x1 = -1)) (d2 : (x2 = -2 ∧ ¬ (0 ≤ c ∧ c < T 111 0 6)) ∨ ((0 ≤ c ∧ c < T 111 0 6) ∧ x2 = -3 ∧ ¬ (0 ≤ w ∧ w < 23)) ∨ ((0 ≤ c ∧ c < T 111 0 6) ∧ (0 ≤ w ∧ w < 23) ∧ x2 = T 205 0 (23 * c + w))) : x1 = x2 := sorry
/-- a competition on both sides -/
theorem txr_c {T T1 T2 : Zt} {x1 x2 : Int} (h : TXR_ T) (hl : T 105 0 1 ≤ 400) (hn : 0 ≤ T 106 0 2) (ho : (∀ j, T1 500 0 j = T 500 0 j) ∧ (∀ i j, i ≠ T 106 0 2 → T1 401 i j = T 401 i j) ∧ (T1 106 0 2 = T 106 0 2 → ∀ i j, T1 402 i j = T 402 i j)) (d1 : CH9_ T T1 x1) (r : ktr_ T T1) (hp : (∀ j, T2 200 0 j = T1 200 0 j) ∧ ∀ j, j < 23 * T1 111 0 6 → T2 205 0 j = T1 205 0 j) (d2 : CR9_ T1 T2 x2) (k : kth_ T1 T2) : x1 = x2 ∧ TXR_ T2 := sorry
-- enter and deduct of both sides
def EA9_ (T T' : Zt) (c b : Int) : Prop := T' 100 c 5 = T 100 c 5 + 1 ∧ (∀ d, d ≠ c → T' 100 d 5 = T 100 d 5) ∧ (∀ d z, ¬ (d = c ∧ z = T 100 c 5) → T' 403 d z = T 403 d z) ∧ (∀ d z, ¬ (d = c ∧ z = b) → T' 404 d z = T 404 d z) ∧ T' 403 c (T 100 c 5) = b ∧ T' 404 c b = T 100 c 5
/-- what enter does to the house -/
def EH9_ (T T' : Zt) (c b x : Int) : Prop := (T' = T ∧ ((x = -2 ∧ ¬ ((0 ≤ c ∧ c < T 106 0 2) ∧ 0 ≤ b ∧ b < T 108 0 2)) ∨ (((0 ≤ c ∧ c < T 106 0 2) ∧ 0 ≤ b ∧ b < T 108 0 2) ∧ x = -4 ∧ (T 100 c 6 ≠ 0 ∨ T 404 c b ≠ -1)))) ∨ (((0 ≤ c ∧ c < T 106 0 2) ∧ 0 ≤ b ∧ b < T 108 0 2) ∧ T 100 c 6 = 0 ∧ T 404 c b = -1 ∧ T 100 c 5 ≤ 11 ∧ x = T 100 c 5 + 1 ∧ EA9_ T T' c b)
def EB9_ (T T' : Zt) (c b : Int) : Prop := T' 208 0 c = T 208 0 c + 1 ∧ (∀ z, z ≠ c → T' 208 0 z = T 208 0 z) ∧ (∀ z, z ≠ 12 * c + T 208 0 c → T' 207 0 z = T 207 0 z) ∧ T' 207 0 (12 * c + T 208 0 c) = b
/-- what enter does to the reference -/
def ER9_ (T T' : Zt) (c b x : Int) : Prop := (T' = T ∧ ((x = -2 ∧ ¬ ((0 ≤ c ∧ c < T 111 0 6) ∧ 0 ≤ b ∧ b < T 111 0 12)) ∨ (((0 ≤ c ∧ c < T 111 0 6) ∧ 0 ≤ b ∧ b < T 111 0 12) ∧ x = -4 ∧ (T 209 0 c ≠ 0 ∨ HE_ T c b)))) ∨ (((0 ≤ c ∧ c < T 111 0 6) ∧ 0 ≤ b ∧ b < T 111 0 12) ∧ T 209 0 c = 0 ∧ ¬ HE_ T c b ∧ x = T 208 0 c + 1 ∧ EB9_ T T' c b)
/-- a deduction is put down: in, from, points, day -/
def DP9_ (k1 k2 k3 k4 : Nat) (T T' : Zt) (n c b p d : Int) : Prop := SG9_ k1 T T' n c ∧ SG9_ k2 T T' n b ∧ SG9_ k3 T T' n p ∧ SG9_ k4 T T' n d
def DH9_ (T T' : Zt) (c b p x : Int) : Prop := (T' = T ∧ ((x = -2 ∧ ¬ ((0 ≤ c ∧ c < T 106 0 2) ∧ 0 ≤ b ∧ b < T 108 0 2)) ∨ (((0 ≤ c ∧ c < T 106 0 2) ∧ 0 ≤ b ∧ b < T 108 0 2) ∧ ((x = -3 ∧ ¬ (1 ≤ p ∧ p ≤ 99)) ∨ ((1 ≤ p ∧ p ≤ 99) ∧ ((x = -4 ∧ T 404 c b = -1) ∨ (T 404 c b ≠ -1 ∧ x = -5 ∧ 50 ≤ T 106 0 6))))))) ∨ (((0 ≤ c ∧ c < T 106 0 2) ∧ 0 ≤ b ∧ b < T 108 0 2) ∧ (1 ≤ p ∧ p ≤ 99) ∧ T 404 c b ≠ -1 ∧ T 106 0 6 < 50 ∧ x = T 106 0 6 + 1 ∧ T' 106 0 6 = x ∧ DP9_ 527 528 529 530 T T' (T 106 0 6) c b p (T 108 0 13))
def DR9_ (T T' : Zt) (c b p x : Int) : Prop := (T' = T ∧ ((x = -2 ∧ ¬ ((0 ≤ c ∧ c < T 111 0 6) ∧ 0 ≤ b ∧ b < T 111 0 12)) ∨ (((0 ≤ c ∧ c < T 111 0 6) ∧ 0 ≤ b ∧ b < T 111 0 12) ∧ ((x = -3 ∧ ¬ (1 ≤ p ∧ p ≤ 99)) ∨ ((1 ≤ p ∧ p ≤ 99) ∧ ((x = -4 ∧ ¬ HE_ T c b) ∨ (HE_ T c b ∧ x = -5 ∧ T 111 0 24 = 50))))))) ∨ (((0 ≤ c ∧ c < T 111 0 6) ∧ 0 ≤ b ∧ b < T 111 0 12) ∧ (1 ≤ p ∧ p ≤ 99) ∧ HE_ T c b ∧ T 111 0 24 < 50 ∧ x = T 111 0 24 + 1 ∧ T' 111 0 24 = x ∧ DP9_ 225 226 227 228 T T' (T 111 0 24) c b p (T 111 0 3))
abbrev po_X10_enter_e (T : Zt) (c b : Int) : Zt → Option Zv → Prop := fun T' r => ∃ x : Int, r = some (vI x) ∧ fr_ [(404, []), (403, []), (100, [5])] T T' ∧ (KE_ T' ∧ (∀ d z, 0 ≤ T 404 d z → 0 ≤ T' 404 d z) ∧ EH9_ T T' c b x)
set_option maxHeartbeats 4000000 in
theorem ct_X10_enter_e {T : Zt} {c b : Int} (hka : KA_ T) (hke : KE_ T) : Ct_ yX10_enter zX10_enter T [vR 110 0, vI c, vI b] (po_X10_enter_e T c b) := sorry
abbrev po_X11_enter_e (T : Zt) (c cl : Int) : Zt → Option Zv → Prop := fun T' r => ∃ x : Int, r = some (vI x) ∧ fr_ [(207, []), (208, [])] T T' ∧ (EN_ T' ∧ ER9_ T T' c cl x)
set_option maxHeartbeats 4000000 in
theorem ct_X11_enter_e {T : Zt} {c cl : Int} (hEN : EN_ T) : Ct_ yX11_enter zX11_enter T [vR 111 0, vI c, vI cl] (po_X11_enter_e T c cl) := sorry
abbrev po_X6_addDeduction_e (T : Zt) (c cl p : Int) : Zt → Option Zv → Prop := fun T' r => r = none ∧ fr_ [(106, [6]), (527, []), (528, []), (529, []), (530, [])] T T' ∧ (T' 106 0 6 = T 106 0 6 + 1 ∧ DP9_ 527 528 529 530 T T' (T 106 0 6) c cl p (T 108 0 13))
set_option maxHeartbeats 4000000 in
theorem ct_X6_addDeduction_e {T : Zt} {c cl p : Int} (h1 : 0 ≤ c ∧ c < 4) (h2 : 0 ≤ cl ∧ cl < 12) (h3 : 0 ≤ p ∧ p ≤ 99) (h4 : T 106 0 6 < 50) : Ct_ yX6_addDeduction zX6_addDeduction T [vR 106 0, vI c, vI cl, vI p] (po_X6_addDeduction_e T c cl p) := sorry
abbrev po_X10_deduct_e (T : Zt) (c cl p : Int) : Zt → Option Zv → Prop := fun T' r => ∃ x : Int, r = some (vI x) ∧ fr_ [(106, [6]), (527, []), (528, []), (529, []), (530, [])] T T' ∧ (DH9_ T T' c cl p x)
set_option maxHeartbeats 4000000 in
theorem ct_X10_deduct_e {T : Zt} {c cl p : Int} (hka : KA_ T) : Ct_ yX10_deduct zX10_deduct T [vR 110 0, vI c, vI cl, vI p] (po_X10_deduct_e T c cl p) := sorry
abbrev po_X11_deduct_e (T : Zt) (c cl p : Int) : Zt → Option Zv → Prop := fun T' r => ∃ x : Int, r = some (vI x) ∧ fr_ [(225, []), (226, []), (227, []), (228, []), (111, [24])] T T' ∧ (DR9_ T T' c cl p x)
set_option maxHeartbeats 4000000 in
theorem ct_X11_deduct_e {T : Zt} {c cl p : Int} : Ct_ yX11_deduct zX11_deduct T [vR 111 0, vI c, vI cl, vI p] (po_X11_deduct_e T c cl p) := sorry
-- the fixtures of a plan, as a list: round, home's seat, away's seat, date
abbrev Fx9_ : Type := Int × Int × Int × Int
def pa9_ (L r i : Int) : Int := if i = 0 then L else (r + i) % L
def pb9_ (L r i : Int) : Int := if i = 0 then r else (r - i + L) % L
def pq9_ (r i : Int) : Int := if i = 0 then r % 2 else i % 2
def hm9_ (L r u i : Int) : Int := if pq9_ r i = u then pb9_ L r i else pa9_ L r i
def aw9_ (L r u i : Int) : Int := if pq9_ r i = u then pa9_ L r i else pb9_ L r i
theorem hm9_b {L r u i : Int} (h : pq9_ r i = u) : hm9_ L r u i = pb9_ L r i ∧ aw9_ L r u i = pa9_ L r i := sorry
theorem hm9_a {L r u i : Int} (h : pq9_ r i ≠ u) : hm9_ L r u i = pa9_ L r i ∧ aw9_ L r u i = pb9_ L r i := sorry
theorem pq9_0 {r : Int} : pq9_ r 0 = r % 2 := sorry
theorem pq9_i {r i : Int} (h : i ≠ 0) : pq9_ r i = i % 2 := sorry
theorem pa9_0 {L r : Int} : pa9_ L r 0 = L := sorry
theorem pb9_0 {L r : Int} : pb9_ L r 0 = r := sorry
theorem pa9_i {L r i : Int} (h : i ≠ 0) : pa9_ L r i = (r + i) % L := sorry
theorem pb9_i {L r i : Int} (h : i ≠ 0) : pb9_ L r i = (r - i + L) % L := sorry
noncomputable def fa9_ (e rd dt h a : Int) (l : List Fx9_) : List Fx9_ := @ite _ (h < e ∧ a < e) (Classical.propDecidable _) (l ++ [(rd, h, a, dt)]) l
theorem fa9_y {e rd dt h a : Int} {l : List Fx9_} (g : h < e ∧ a < e) : fa9_ e rd dt h a l = l ++ [(rd, h, a, dt)] := sorry
theorem fa9_n {e rd dt h a : Int} {l : List Fx9_} (g : ¬ (h < e ∧ a < e)) : fa9_ e rd dt h a l = l := sorry
noncomputable def rl9_ (e L r u rd dt : Int) : Nat → List Fx9_ → List Fx9_
  | 0, l => l
  | i + 1, l => fa9_ e rd dt (hm9_ L r u i) (aw9_ L r u i) (rl9_ e L r u rd dt i l)
noncomputable def ll9_ (e L g f E : Int) : Nat → List Fx9_ → List Fx9_
  | 0, l => l
  | r + 1, l => rl9_ e L r (g % 2) (g * L + r) (f + (g * L + r) * E) ((L + 1) / 2).toNat (ll9_ e L g f E r l)
noncomputable def pl9_ (e L f E : Int) : Nat → List Fx9_
  | 0 => []
  | g + 1 => ll9_ e L g f E L.toNat (pl9_ e L f E g)
theorem fa9_a {e rd dt h a : Int} {l m : List Fx9_} : fa9_ e rd dt h a (l ++ m) = l ++ fa9_ e rd dt h a m := sorry
theorem rl9_a {e L r u rd dt : Int} {l : List Fx9_} : ∀ i : Nat, rl9_ e L r u rd dt i l = l ++ rl9_ e L r u rd dt i [] := sorry
theorem fa9_l {e rd dt h a : Int} {l : List Fx9_} : (fa9_ e rd dt h a l).length ≤ l.length + 1 := sorry
/-- what stands in a round at most: q is 1 where a place is none -/
theorem rl9_l {e L r u rd dt : Int} {q : Nat} {l : List Fx9_} (hq : q = 0 ∨ (q = 1 ∧ e ≤ L)) : ∀ i : Nat, (rl9_ e L r u rd dt (i + 1) l).length + q ≤ l.length + (i + 1) := sorry
theorem ll9_l {e L g f E : Int} {P : Nat} {l : List Fx9_} (h : ∀ (r u rd dt : Int) (l : List Fx9_), (rl9_ e L r u rd dt ((L + 1) / 2).toNat l).length ≤ l.length + P) : ∀ r : Nat, (ll9_ e L g f E r l).length ≤ l.length + r * P := sorry
theorem pl9_l {e L f E : Int} {P : Nat} (h : ∀ (r u rd dt : Int) (l : List Fx9_), (rl9_ e L r u rd dt ((L + 1) / 2).toNat l).length ≤ l.length + P) : ∀ g : Nat, (pl9_ e L f E g).length ≤ g * (L.toNat * P) := sorry
theorem an9_m {x : Int} (h : 0 ≤ x ∧ x ≤ 2147483647) : an_ x 1 = x % 2 := sorry
/-- the house has laid these matches -/
def AP9_ (T T' : Zt) (c : Int) (l : List Fx9_) : Prop := T' 106 0 4 = T 106 0 4 + l.length ∧ ∀ (k : Nat) (q : Fx9_), l[k]? = some q → T' 102 (T 106 0 4 + k) 0 = c ∧ T' 102 (T 106 0 4 + k) 2 = q.1 ∧ T' 102 (T 106 0 4 + k) 3 = T 403 c q.2.1 ∧ T' 102 (T 106 0 4 + k) 4 = T 403 c q.2.2.1 ∧ T' 102 (T 106 0 4 + k) 5 = q.2.2.2 ∧ T' 102 (T 106 0 4 + k) 6 = -1 ∧ T' 102 (T 106 0 4 + k) 7 = -1 ∧ T' 102 (T 106 0 4 + k) 10 = 0
theorem ap9_0 {T T' : Zt} {c : Int} (h : T' 106 0 4 = T 106 0 4) : AP9_ T T' c [] := sorry
theorem ap9_t {T T1 T2 : Zt} {c : Int} {l m : List Fx9_} (h : AP9_ T T1 c l) (g : AP9_ T1 T2 c m) (h0 : 0 ≤ T 106 0 4) (ho : ∀ i j, i < T1 106 0 4 → T2 102 i j = T1 102 i j) (h4 : ∀ j, T1 403 c j = T 403 c j) : AP9_ T T2 c (l ++ m) := sorry
/-- the reference has laid these matches -/
def AR9_ (T T' : Zt) (c : Int) (l : List Fx9_) : Prop := T' 111 0 29 = T 111 0 29 + l.length ∧ ∀ (k : Nat) (q : Fx9_), l[k]? = some q → T' 230 0 (T 111 0 29 + k) = c ∧ T' 231 0 (T 111 0 29 + k) = q.1 ∧ T' 232 0 (T 111 0 29 + k) = T 207 0 (12 * c + q.2.1) ∧ T' 233 0 (T 111 0 29 + k) = T 207 0 (12 * c + q.2.2.1) ∧ T' 234 0 (T 111 0 29 + k) = q.2.2.2 ∧ T' 235 0 (T 111 0 29 + k) = 0 ∧ T' 238 0 (T 111 0 29 + k) = -1 ∧ T' 253 0 (T 111 0 29 + k) = -1 ∧ T' 255 0 (T 111 0 29 + k) = -1
theorem ar9_0 {T T' : Zt} {c : Int} (h : T' 111 0 29 = T 111 0 29) : AR9_ T T' c [] := sorry
/-- one match more -/
theorem ar9_s {T T1 T2 : Zt} {c rd h a d : Int} {l : List Fx9_} (g : AR9_ T T1 c l) (h0 : T2 111 0 29 = T1 111 0 29 + 1) (ho : ∀ j, j ≠ T1 111 0 29 → T2 230 0 j = T1 230 0 j ∧ T2 231 0 j = T1 231 0 j ∧ T2 232 0 j = T1 232 0 j ∧ T2 233 0 j = T1 233 0 j ∧ T2 234 0 j = T1 234 0 j ∧ T2 235 0 j = T1 235 0 j ∧ T2 238 0 j = T1 238 0 j ∧ T2 253 0 j = T1 253 0 j ∧ T2 255 0 j = T1 255 0 j) (hv : T2 230 0 (T1 111 0 29) = c ∧ T2 231 0 (T1 111 0 29) = rd ∧ T2 232 0 (T1 111 0 29) = T 207 0 (12 * c + h) ∧ T2 233 0 (T1 111 0 29) = T 207 0 (12 * c + a) ∧ T2 234 0 (T1 111 0 29) = d ∧ T2 235 0 (T1 111 0 29) = 0 ∧ T2 238 0 (T1 111 0 29) = -1 ∧ T2 253 0 (T1 111 0 29) = -1 ∧ T2 255 0 (T1 111 0 29) = -1) : AR9_ T T2 c (l ++ [(rd, h, a, d)]) := sorry
/-- a fixture is laid, or its place is none -/
theorem ap9_f {T T1 T2 : Zt} {c e u h a d : Int} {l : List Fx9_} (g : AP9_ T T1 c l) (h0 : 0 ≤ T 106 0 4) (hl : T1 106 0 4 < 400) (he : T1 100 c 5 = e) (h4 : ∀ j, T1 403 c j = T 403 c j) (hx : (T2 = T1 ∧ (T1 100 c 5 ≤ h ∨ T1 100 c 5 ≤ a ∨ 400 ≤ T1 106 0 4)) ∨ (nm_ T1 T2 c h a d ∧ T2 102 (T1 106 0 4) 2 = u ∧ T2 102 (T1 106 0 4) 6 = -1 ∧ T2 102 (T1 106 0 4) 7 = -1)) : AP9_ T T2 c (fa9_ e u d h a l) := sorry
theorem fx9_o {T1 T2 : Zt} {c u h a d : Int} (hx : (T2 = T1 ∧ (T1 100 c 5 ≤ h ∨ T1 100 c 5 ≤ a ∨ 400 ≤ T1 106 0 4)) ∨ (nm_ T1 T2 c h a d ∧ T2 102 (T1 106 0 4) 2 = u ∧ T2 102 (T1 106 0 4) 6 = -1 ∧ T2 102 (T1 106 0 4) 7 = -1)) (i j : Int) (hi : i < T1 106 0 4) : T2 102 i j = T1 102 i j := sorry
theorem pe9_1 {e L : Int} (he : 2 ≤ e ∧ e ≤ 12) (hL : L = e + e % 2 - 1) : L * (L / 2 + 1 - e % 2) = e * (e - 1) / 2 := sorry
theorem pe9_r {e L : Int} (he : 2 ≤ e ∧ e ≤ 12) (hL : L = e + e % 2 - 1) (r u rd dt : Int) (l : List Fx9_) : (rl9_ e L r u rd dt ((L + 1) / 2).toNat l).length ≤ l.length + (L / 2 + 1 - e % 2).toNat := sorry
/-- there is room for one round more -/
theorem rm9_b {e L f E M lg l q : Int} (he : 2 ≤ e ∧ e ≤ 12) (hL : L = e + e % 2 - 1) (hfx : M + e * (e - 1) / 2 * lg ≤ 400) (hl : 0 ≤ l ∧ l < lg) (hq : 0 ≤ q ∧ q < L) : M + ((ll9_ e L l f E q.toNat (pl9_ e L f E l.toNat)).length : Int) + (L / 2 + 1 - e % 2) ≤ 400 := sorry
theorem ar9_k {T T1 T2 : Zt} {c : Int} {l : List Fx9_} (h : AR9_ T T1 c l) (e : ∀ (k : Nat) (j : Int), k ≠ 211 → T2 k 0 j = T1 k 0 j) : AR9_ T T2 c l := sorry
-- addFixture and addRound of the house
abbrev po_X6_addFixture_e (T : Zt) (c : Int) (u h a d : Int) : Zt → Option Zv → Prop := fun T' r => r = none ∧ fr_ [(106, [4]), (523, []), (152, []), (102, []), (448, []), (449, [])] T T' ∧ ((T' = T ∧ (T 100 c 5 ≤ h ∨ T 100 c 5 ≤ a ∨ 400 ≤ T 106 0 4)) ∨ (nm_ T T' c h a d ∧ T' 102 (T 106 0 4) 2 = u ∧ T' 102 (T 106 0 4) 6 = -1 ∧ T' 102 (T 106 0 4) 7 = -1))
set_option maxHeartbeats 4000000 in
theorem ct_X6_addFixture_e {T : Zt} {c : Int} {u h a d : Int} (hc : 0 ≤ c ∧ c ≤ 3) (hh : 0 ≤ h ∧ 0 ≤ a ∧ 0 ≤ d ∧ d ≤ 999) (hna : NA_ T) : Ct_ yX6_addFixture zX6_addFixture T [vR 106 0, vR 100 c, vI u, vI h, vI a, vI d] (po_X6_addFixture_e T c u h a d) := sorry
abbrev po_X6_addRound_e (T : Zt) (c : Int) (f : Int) (u q w d : Int) : Zt → Option Zv → Prop := fun T' r => r = none ∧ fr_ [(106, [4]), (523, []), (152, []), (102, []), (448, []), (449, [])] T T' ∧ (RK_ T' c f (T 100 c 5 + an_ (T 100 c 5) 1 - 1) q 13 d ∧ (∀ i j, i < f → T' 102 i j = T 102 i j) ∧ T 106 0 4 ≤ T' 106 0 4 ∧ (∀ i j, i < T 106 0 4 → T' 102 i j = T 102 i j) ∧ AP9_ T T' c (rl9_ (T 100 c 5) (T 100 c 5 + an_ (T 100 c 5) 1 - 1) q w u d ((T 100 c 5 + an_ (T 100 c 5) 1 - 1) / 2 + 1).toNat []))
set_option maxHeartbeats 4000000 in
theorem ct_X6_addRound_e {T : Zt} {c : Int} {f : Int} {u q w d : Int} (hc : 0 ≤ c ∧ c ≤ 3) (he : 2 ≤ T 100 c 5) (hr : 0 ≤ q ∧ q < T 100 c 5 + an_ (T 100 c 5) 1 - 1) (hd : 0 ≤ d ∧ d ≤ 999) (hke : KEc_ T c) (hrb : RK_ T c f (T 100 c 5 + an_ (T 100 c 5) 1 - 1) q 0 d) (hw : w = 0 ∨ w = 1) (hro : T 106 0 4 + (T 100 c 5 + an_ (T 100 c 5) 1 - 1) / 2 + 1 - T 100 c 5 % 2 ≤ 400) : Ct_ yX6_addRound zX6_addRound T [vR 106 0, vR 100 c, vI u, vI q, vI w, vI d] (po_X6_addRound_e T c f u q w d) := sorry
-- schedule and plan of the house
/-- what plan does to the house -/
def PH9_ (T T' : Zt) (c b x : Int) : Prop := (T' = T ∧ ((x = -2 ∧ ¬ (0 ≤ c ∧ c < T 106 0 2)) ∨ ((0 ≤ c ∧ c < T 106 0 2) ∧ x = -3 ∧ ¬ ((0 ≤ b ∧ b ≤ 999) ∧ T 108 0 13 ≤ b)) ∨ ((0 ≤ c ∧ c < T 106 0 2) ∧ ((0 ≤ b ∧ b ≤ 999) ∧ T 108 0 13 ≤ b) ∧ x = -4 ∧ (T 100 c 6 ≠ 0 ∨ T 100 c 5 < 2 ∨ 999 < b + (((T 100 c 5 + an_ (T 100 c 5) 1 - 1) * T 401 c 6 - 1) * T 401 c 7))) ∨ ((0 ≤ c ∧ c < T 106 0 2) ∧ ((0 ≤ b ∧ b ≤ 999) ∧ T 108 0 13 ≤ b) ∧ T 100 c 6 = 0 ∧ 2 ≤ T 100 c 5 ∧ b + (((T 100 c 5 + an_ (T 100 c 5) 1 - 1) * T 401 c 6 - 1) * T 401 c 7) ≤ 999 ∧ x = -5 ∧ 400 < T 106 0 4 + T 100 c 5 * (T 100 c 5 - 1) / 2 * T 401 c 6))) ∨ ((0 ≤ c ∧ c < T 106 0 2) ∧ ((0 ≤ b ∧ b ≤ 999) ∧ T 108 0 13 ≤ b) ∧ T 100 c 6 = 0 ∧ 2 ≤ T 100 c 5 ∧ b + (((T 100 c 5 + an_ (T 100 c 5) 1 - 1) * T 401 c 6 - 1) * T 401 c 7) ≤ 999 ∧ T 106 0 4 + T 100 c 5 * (T 100 c 5 - 1) / 2 * T 401 c 6 ≤ 400 ∧ x = T 106 0 4 ∧ SJ_ T T' c ∧ AP9_ T T' c (pl9_ (T 100 c 5) (T 100 c 5 + an_ (T 100 c 5) 1 - 1) b (T 401 c 7) (T 401 c 6).toNat))
abbrev po_X0_fixtureCount_e (T : Zt) (c : Int) : Zt → Option Zv → Prop := fun T' r => T = T' ∧ ∃ x : Int, r = some (vI x) ∧ (x = T 100 c 5 * (T 100 c 5 - 1) / 2 * T 401 c 6 ∧ 0 ≤ x ∧ x ≤ 264)
set_option maxHeartbeats 4000000 in
theorem ct_X0_fixtureCount_e {T : Zt} {c : Int} (hl : 0 ≤ T 401 c 6 ∧ T 401 c 6 ≤ 4) (he : 2 ≤ T 100 c 5) : Ct_ yX0_fixtureCount zX0_fixtureCount T [vR 100 c] (po_X0_fixtureCount_e T c) := sorry
abbrev po_X6_schedule_e (T : Zt) (c : Int) (b : Int) : Zt → Option Zv → Prop := fun T' r => r = none ∧ fr_ [(106, [4]), (523, []), (152, []), (102, []), (448, []), (449, []), (100, [6, 7, 8])] T T' ∧ ((∀ i j, i < T 106 0 4 → T' 102 i j = T 102 i j) ∧ RK_ T' c (T 106 0 4) (T 100 c 5 + an_ (T 100 c 5) 1 - 1) 0 0 2000000 ∧ (T' 100 c 6 = 1 ∧ T' 100 c 7 = T 106 0 4 ∧ T' 100 c 8 = T' 106 0 4 - T 106 0 4) ∧ (∀ i j, i ≠ c → T' 100 i j = T 100 i j) ∧ AP9_ T T' c (pl9_ (T 100 c 5) (T 100 c 5 + an_ (T 100 c 5) 1 - 1) b (T 401 c 7) (T 401 c 6).toNat))
set_option maxHeartbeats 4000000 in
theorem ct_X6_schedule_e {T : Zt} {c : Int} {b : Int} (hc : 0 ≤ c ∧ c ≤ 3) (hl : 0 ≤ T 401 c 6 ∧ T 401 c 6 ≤ 4) (hE : 1 ≤ T 401 c 7 ∧ T 401 c 7 ≤ 30) (he : 2 ≤ T 100 c 5) (hb : 0 ≤ b ∧ b + ((T 100 c 5 + an_ (T 100 c 5) 1 - 1) * T 401 c 6 - 1) * T 401 c 7 ≤ 999) (hke : KEc_ T c) (hka : KA_ T) (hna : NA_ T) (hfx : T 106 0 4 + T 100 c 5 * (T 100 c 5 - 1) / 2 * T 401 c 6 ≤ 400) : Ct_ yX6_schedule zX6_schedule T [vR 106 0, vR 100 c, vI b] (po_X6_schedule_e T c b) := sorry
abbrev po_X10_plan_e (T : Zt) (c b : Int) : Zt → Option Zv → Prop := fun T' r => ∃ x : Int, r = some (vI x) ∧ (T' = T ∨ SJ_ T T' c) ∧ PH9_ T T' c b x
set_option maxHeartbeats 4000000 in
theorem ct_X10_plan_e {T : Zt} {c b : Int} (hka : KA_ T) (hke : KE_ T) (hkb : KB_ T) (hna : NA_ T) : Ct_ yX10_plan zX10_plan T [vR 110 0, vI c, vI b] (po_X10_plan_e T c b) := sorry
-- addMatch and plan of the reference
def AV9_ (T T' : Zt) (c rd h a d : Int) : Prop := T' 231 0 (T 111 0 29) = rd ∧ T' 232 0 (T 111 0 29) = T 207 0 (12 * c + h) ∧ T' 233 0 (T 111 0 29) = T 207 0 (12 * c + a) ∧ T' 234 0 (T 111 0 29) = d ∧ T' 238 0 (T 111 0 29) = -1
/-- what plan does to the reference -/
def PR9_ (T T' : Zt) (c f x : Int) : Prop := (T' = T ∧ ((x = -2 ∧ ¬ (0 ≤ c ∧ c < T 111 0 6)) ∨ ((0 ≤ c ∧ c < T 111 0 6) ∧ x = -3 ∧ ¬ (T 111 0 3 ≤ f ∧ f ≤ 999)) ∨ ((0 ≤ c ∧ c < T 111 0 6) ∧ (T 111 0 3 ≤ f ∧ f ≤ 999) ∧ x = -4 ∧ (T 209 0 c ≠ 0 ∨ T 208 0 c < 2 ∨ 999 < f + (T 205 0 (23 * c + 6) * (T 208 0 c + T 208 0 c % 2 - 1) - 1) * T 205 0 (23 * c + 7))) ∨ ((0 ≤ c ∧ c < T 111 0 6) ∧ (T 111 0 3 ≤ f ∧ f ≤ 999) ∧ T 209 0 c = 0 ∧ 2 ≤ T 208 0 c ∧ f + (T 205 0 (23 * c + 6) * (T 208 0 c + T 208 0 c % 2 - 1) - 1) * T 205 0 (23 * c + 7) ≤ 999 ∧ x = -5 ∧ 400 < T 111 0 29 + T 205 0 (23 * c + 6) * (T 208 0 c * (T 208 0 c - 1) / 2)))) ∨ ((0 ≤ c ∧ c < T 111 0 6) ∧ (T 111 0 3 ≤ f ∧ f ≤ 999) ∧ T 209 0 c = 0 ∧ 2 ≤ T 208 0 c ∧ f + (T 205 0 (23 * c + 6) * (T 208 0 c + T 208 0 c % 2 - 1) - 1) * T 205 0 (23 * c + 7) ≤ 999 ∧ T 111 0 29 + T 205 0 (23 * c + 6) * (T 208 0 c * (T 208 0 c - 1) / 2) ≤ 400 ∧ x = T 111 0 29 ∧ T' 209 0 c = 1 ∧ AR9_ T T' c (pl9_ (T 208 0 c) (T 208 0 c + T 208 0 c % 2 - 1) f (T 205 0 (23 * c + 7)) (T 205 0 (23 * c + 6)).toNat))
abbrev po_X11_addMatch_e (T : Zt) (c rd h a d : Int) : Zt → Option Zv → Prop := fun T' r => r = none ∧ fr_ [(230, []), (231, []), (232, []), (233, []), (234, []), (235, []), (238, []), (253, []), (255, []), (111, [29])] T T' ∧ ((¬ (h < T 208 0 c ∧ a < T 208 0 c) ∧ T' 111 0 29 = T 111 0 29 ∧ T = T') ∨ (h < T 208 0 c ∧ a < T 208 0 c ∧ T' 111 0 29 = T 111 0 29 + 1 ∧ am1_ T T' c ∧ AV9_ T T' c rd h a d))
set_option maxHeartbeats 4000000 in
theorem ct_X11_addMatch_e {T : Zt} {c rd h a d : Int} (h1 : 0 ≤ c ∧ c < 4) (h2 : 0 ≤ h ∧ 0 ≤ a) (h3 : 0 ≤ d ∧ d ≤ 999) (h4 : h < T 208 0 c → a < T 208 0 c → T 111 0 29 < 400) : Ct_ yX11_addMatch zX11_addMatch T [vR 111 0, vI c, vI rd, vI h, vI a, vI d] (po_X11_addMatch_e T c rd h a d) := sorry
abbrev po_X11_plan_e (T : Zt) (c f : Int) : Zt → Option Zv → Prop := fun T' r => ∃ x : Int, r = some (vI x) ∧ fr_ [(230, []), (231, []), (232, []), (233, []), (234, []), (235, []), (238, []), (253, []), (255, []), (111, [29]), (209, []), (210, []), (211, [])] T T' ∧ (((x < 0 ∧ T = T') ∨ (0 ≤ c ∧ c < T 111 0 6 ∧ am2_ T T' c ∧ T' 111 0 29 ≤ 400 ∧ T' 210 0 c = T 111 0 29 ∧ T' 211 0 c = T' 111 0 29 - T 111 0 29 ∧ (∀ z, z ≠ c → T' 210 0 z = T 210 0 z ∧ T' 211 0 z = T 211 0 z ∧ T' 209 0 z = T 209 0 z))) ∧ PR9_ T T' c f x)
set_option maxHeartbeats 4000000 in
theorem ct_X11_plan_e {T : Zt} {c f : Int} (hRI : RI_ T) : Ct_ yX11_plan zX11_plan T [vR 111 0, vI c, vI f] (po_X11_plan_e T c f) := sorry
-- entries, fixtures, deductions: alike on both sides
def EN1_ (T : Zt) (c : Int) : Prop := T 100 c 5 = T 208 0 c ∧ T 100 c 6 = T 209 0 c ∧ T 100 c 7 = T 210 0 c ∧ T 100 c 8 = T 211 0 c ∧ (∀ j, 0 ≤ j → j < T 100 c 5 → T 403 c j = T 207 0 (12 * c + j)) ∧ ∀ b, 0 ≤ b → b < 12 → T 404 c b = -1 ∨ (0 ≤ T 404 c b ∧ T 404 c b < T 100 c 5 ∧ T 403 c (T 404 c b) = b)
def ENR_ (T : Zt) : Prop := (∀ c, 0 ≤ c → c < T 106 0 2 → EN1_ T c) ∧ ∀ c, T 106 0 2 ≤ c → c < 4 → T 208 0 c = 0 ∧ T 209 0 c = 0 ∧ T 210 0 c = 0 ∧ T 211 0 c = 0
def MAR_ (T : Zt) : Prop := T 106 0 4 = T 111 0 29 ∧ ∀ m, 0 ≤ m → m < T 106 0 4 → T 102 m 0 = T 230 0 m ∧ T 102 m 2 = T 231 0 m ∧ T 102 m 3 = T 232 0 m ∧ T 102 m 4 = T 233 0 m
def DER_ (T : Zt) : Prop := T 106 0 6 = T 111 0 24 ∧ ∀ i, 0 ≤ i → i < T 106 0 6 → T 527 0 i = T 225 0 i ∧ T 528 0 i = T 226 0 i ∧ T 529 0 i = T 227 0 i ∧ T 530 0 i = T 228 0 i
-- the house's sides of them stay
def ken_ (T T' : Zt) : Prop := (∀ c, T' 100 c 5 = T 100 c 5 ∧ T' 100 c 6 = T 100 c 6 ∧ T' 100 c 7 = T 100 c 7 ∧ T' 100 c 8 = T 100 c 8) ∧ (∀ c j, T' 403 c j = T 403 c j) ∧ ∀ c j, T' 404 c j = T 404 c j
def kem_ (T T' : Zt) : Prop := T' 106 0 4 = T 106 0 4 ∧ ∀ m, T' 102 m 0 = T 102 m 0 ∧ T' 102 m 2 = T 102 m 2 ∧ T' 102 m 3 = T 102 m 3 ∧ T' 102 m 4 = T 102 m 4
def ked_ (T T' : Zt) : Prop := T' 106 0 6 = T 106 0 6 ∧ (∀ j, T' 527 0 j = T 527 0 j) ∧ (∀ j, T' 528 0 j = T 528 0 j) ∧ (∀ j, T' 529 0 j = T 529 0 j) ∧ ∀ j, T' 530 0 j = T 530 0 j
-- the reference's
def krn_ (T T' : Zt) : Prop := (∀ j, T' 207 0 j = T 207 0 j) ∧ ∀ j, T' 208 0 j = T 208 0 j ∧ T' 209 0 j = T 209 0 j ∧ T' 210 0 j = T 210 0 j ∧ T' 211 0 j = T 211 0 j
def krp_ (T T' : Zt) : Prop := T' 111 0 29 = T 111 0 29 ∧ ∀ m, T' 230 0 m = T 230 0 m ∧ T' 231 0 m = T 231 0 m ∧ T' 232 0 m = T 232 0 m ∧ T' 233 0 m = T 233 0 m
def krd_ (T T' : Zt) : Prop := T' 111 0 24 = T 111 0 24 ∧ (∀ j, T' 225 0 j = T 225 0 j) ∧ (∀ j, T' 226 0 j = T 226 0 j) ∧ (∀ j, T' 227 0 j = T 227 0 j) ∧ ∀ j, T' 228 0 j = T 228 0 j
theorem en1_k {T T' : Zt} {c : Int} (h : EN1_ T c) (k : ken_ T T') (r : krn_ T T') : EN1_ T' c := sorry
theorem enr_k {T T' : Zt} (h : ENR_ T) (e : T' 106 0 2 = T 106 0 2) (k : ken_ T T') (r : krn_ T T') : ENR_ T' := sorry
theorem mar_k {T T' : Zt} (h : MAR_ T) (k : kem_ T T') (r : krp_ T T') : MAR_ T' := sorry
theorem der_k {T T' : Zt} (h : DER_ T) (k : ked_ T T') (r : krd_ T T') : DER_ T' := sorry
/-- a club has a seat just when it has entered -/
theorem he9_i {T : Zt} {c b : Int} (h : EN1_ T c) (hk : ∀ j : Int, 0 ≤ j → j < T 100 c 5 → T 404 c (T 403 c j) = j) (hb : 0 ≤ b ∧ b < 12) : T 404 c b ≠ -1 ↔ HE_ T c b := sorry
/-- enter on both sides -/
theorem enr_e {T T1 T2 : Zt} {c b x1 x2 : Int} (h : ENR_ T) (hk : KE_ T) (hn : T 106 0 2 = T 111 0 6) (hc : T 108 0 2 = T 111 0 12) (hc12 : T 108 0 2 ≤ 12) (hm : 0 ≤ T 106 0 2 ∧ T 106 0 2 ≤ 4) (ho : T1 106 0 2 = T 106 0 2 ∧ T1 111 0 6 = T 111 0 6 ∧ T1 111 0 12 = T 111 0 12 ∧ ∀ d, T1 100 d 6 = T 100 d 6 ∧ T1 100 d 7 = T 100 d 7 ∧ T1 100 d 8 = T 100 d 8) (d1 : EH9_ T T1 c b x1) (r : krn_ T T1) (hp : T2 106 0 2 = T1 106 0 2 ∧ ∀ j, T2 209 0 j = T1 209 0 j ∧ T2 210 0 j = T1 210 0 j ∧ T2 211 0 j = T1 211 0 j) (d2 : ER9_ T1 T2 c b x2) (k : ken_ T1 T2) (hb5 : ∀ d, 0 ≤ T 100 d 5 ∧ T 100 d 5 ≤ 12) : x1 = x2 ∧ ENR_ T2 := sorry
/-- deduct on both sides -/
theorem der_d {T T1 T2 : Zt} {c b p x1 x2 : Int} (h : DER_ T) (hn : ENR_ T) (hk : KE_ T) (hcc : T 106 0 2 = T 111 0 6) (hc : T 108 0 2 = T 111 0 12) (hd : T 108 0 13 = T 111 0 3) (hc12 : T 108 0 2 ≤ 12) (h6 : 0 ≤ T 106 0 6 ∧ T 106 0 6 ≤ 50) (ho : T1 111 0 6 = T 111 0 6 ∧ T1 111 0 12 = T 111 0 12 ∧ T1 111 0 3 = T 111 0 3) (d1 : DH9_ T T1 c b p x1) (r : krn_ T T1) (rd : krd_ T T1) (d2 : DR9_ T1 T2 c b p x2) (k : ked_ T1 T2) : x1 = x2 ∧ DER_ T2 := sorry
-- plan on both sides
def FO9_ (e : Int) (q : Fx9_) : Prop := (0 ≤ q.2.1 ∧ q.2.1 < e) ∧ 0 ≤ q.2.2.1 ∧ q.2.2.1 < e
theorem pp9_p {L r i : Int} (hL : 0 < L) (hr : 0 ≤ r) : 0 ≤ pa9_ L r i ∧ 0 ≤ pb9_ L r i := sorry
theorem hm9_p {L r u i : Int} (hL : 0 < L) (hr : 0 ≤ r) : 0 ≤ hm9_ L r u i ∧ 0 ≤ aw9_ L r u i := sorry
theorem rl9_m {e L r u rd dt : Int} {l : List Fx9_} (hL : 0 < L) (hr : 0 ≤ r) (h : ∀ q ∈ l, FO9_ e q) : ∀ i : Nat, ∀ q ∈ rl9_ e L r u rd dt i l, FO9_ e q := sorry
theorem ll9_m {e L g f E : Int} {l : List Fx9_} (hL : 0 < L) (h : ∀ q ∈ l, FO9_ e q) : ∀ r : Nat, ∀ q ∈ ll9_ e L g f E r l, FO9_ e q := sorry
theorem pl9_m {e L f E : Int} (hL : 0 < L) : ∀ g : Nat, ∀ q ∈ pl9_ e L f E g, FO9_ e q := sorry
/-- what plan leaves of the reference's rows -/
def PQ9_ (T T' : Zt) (c : Int) : Prop := am2_ T T' c ∧ T' 210 0 c = T 111 0 29 ∧ T' 211 0 c = T' 111 0 29 - T 111 0 29 ∧ (∀ z, z ≠ c → T' 210 0 z = T 210 0 z ∧ T' 211 0 z = T 211 0 z ∧ T' 209 0 z = T 209 0 z) ∧ (∀ j, T' 207 0 j = T 207 0 j) ∧ ∀ j, T' 208 0 j = T 208 0 j
theorem enr_p {T T1 T2 : Zt} {c f x1 x2 : Int} (h : ENR_ T) (hm : MAR_ T) (ht : TXR_ T) (hd : T 108 0 13 = T 111 0 3) (hd0 : 0 ≤ T 108 0 13) (h0 : 0 ≤ T 106 0 4) (hN : T 106 0 2 ≤ 4) (hb5 : ∀ d, 0 ≤ T 100 d 5 ∧ T 100 d 5 ≤ 12) (d1 : PH9_ T T1 c f x1) (r : krn_ T T1) (rp : krp_ T T1) (rt : ktr_ T T1) (r3 : T1 111 0 3 = T 111 0 3) (hi : T1 106 0 2 = T 106 0 2) (d2 : PR9_ T1 T2 c f x2) (s2 : (x2 < 0 ∧ T2 = T1) ∨ PQ9_ T1 T2 c) (k : ken_ T1 T2) (km : kem_ T1 T2) (hi2 : T2 106 0 2 = T1 106 0 2) : x1 = x2 ∧ ENR_ T2 ∧ MAR_ T2 := sorry
/-- a competition on both sides: its entries -/
theorem enr_c {T T1 T2 : Zt} (h : ENR_ T) (h0 : 0 ≤ T 106 0 2) (hq : (T1 106 0 2 = T 106 0 2 ∧ ken_ T T1) ∨ (nc_ T T1 ∧ ∀ j, 0 ≤ j → j < 12 → T1 404 (T 106 0 2) j = -1)) (r : krn_ T T1) (k : ken_ T1 T2) (r2 : krn_ T1 T2) (hi2 : T2 106 0 2 = T1 106 0 2) : ENR_ T2 := sorry
def ENA_ (T : Zt) : Prop := ENR_ T ∧ MAR_ T ∧ DER_ T
section WEZ
variable {ws : List (Nat × List Int)} {T T' : Zt}
end WEZ
theorem ch9_s {T T' : Zt} {x : Int} (h : CH9_ T T' x) (n : nc_ T T') (j : Int) (a : 0 ≤ j) (b : j < 12) : T' 404 (T 106 0 2) j = -1 := sorry
/-- places apart -/
def dj_ : List (Nat × List Int) → List (Nat × List Int) → Bool
  | [], _ => true
  | (k, l) :: r, F => (match l with
    | [] => F.all fun q => q.1 != k
    | l => l.all fun j => !(fw_ F k j)) && dj_ r F
theorem fw_no {F : List (Nat × List Int)} {k : Nat} (h : (F.all fun q => q.1 != k) = true) (j : Int) : fw_ F k j = false := sorry
theorem dj_s {a F : List (Nat × List Int)} (h : dj_ a F = true) {k : Nat} {j : Int} (w : fw_ a k j = true) : fw_ F k j = false := sorry
/-- what a footprint names is as it was -/
def ks_ (F : List (Nat × List Int)) (T T' : Zt) : Prop := ∀ k i j, fw_ F k j = true → T' k i j = T k i j
theorem ks_f {a F : List (Nat × List Int)} {T T' : Zt} (f : fr_ a T T') (h : dj_ a F = true) : ks_ F T T' := sorry
theorem ks_t {F : List (Nat × List Int)} {T T1 T2 : Zt} (a : ks_ F T T1) (b : ks_ F T1 T2) : ks_ F T T2 := sorry
theorem ks_s {F G : List (Nat × List Int)} {T T' : Zt} (h : ks_ G T T') (s : fs_ F G = true) : ks_ F T T' := sorry
-- breaks: one count for both sides (how many; the last side, -1 none)
def bs9_ (H : Int → Int) (b m : Int) : Int := if H m = b then 0 else 1
def bk9_ (H A : Int → Int) (b f : Int) : Nat → Int × Int
  | 0 => (0, -1)
  | k + 1 => if H (f + k) = b ∨ A (f + k) = b then ((bk9_ H A b f k).1 + (if bs9_ H b (f + k) = (bk9_ H A b f k).2 then 1 else 0), bs9_ H b (f + k)) else bk9_ H A b f k
theorem bk9_t {H A : Int → Int} {b f k : Int} (hk : 0 ≤ k) (c : H (f + k) = b ∨ A (f + k) = b) : bk9_ H A b f (k + 1).toNat = ((bk9_ H A b f k.toNat).1 + (if bs9_ H b (f + k) = (bk9_ H A b f k.toNat).2 then 1 else 0), bs9_ H b (f + k)) := sorry
theorem bk9_f {H A : Int → Int} {b f k : Int} (hk : 0 ≤ k) (c : ¬ (H (f + k) = b ∨ A (f + k) = b)) : bk9_ H A b f (k + 1).toNat = bk9_ H A b f k.toNat := sorry
theorem bk9_e {H A H2 A2 : Int → Int} {b f : Int} : ∀ n : Nat, (∀ j, f ≤ j → j < f + n → H j = H2 j ∧ A j = A2 j) → bk9_ H A b f n = bk9_ H2 A2 b f n := sorry
theorem bs9_y {H : Int → Int} {b m : Int} (h : H m = b) : bs9_ H b m = 0 := sorry
theorem bs9_n {H : Int → Int} {b m : Int} (h : H m ≠ b) : bs9_ H b m = 1 := sorry
theorem bk9_u {H A : Int → Int} {b f k s : Int} (hk : 0 ≤ k) (c : H (f + k) = b ∨ A (f + k) = b) (hs : bs9_ H b (f + k) = s) : (bk9_ H A b f (k + 1).toNat).2 = s ∧ ((s = (bk9_ H A b f k.toNat).2 ∧ (bk9_ H A b f (k + 1).toNat).1 = (bk9_ H A b f k.toNat).1 + 1) ∨ (s ≠ (bk9_ H A b f k.toNat).2 ∧ (bk9_ H A b f (k + 1).toNat).1 = (bk9_ H A b f k.toNat).1)) := sorry
/-- what breaks answers, of the house and of the reference -/
def BH9_ (T : Zt) (c b x : Int) : Prop := (x = -2 ∧ ¬ ((0 ≤ c ∧ c < T 106 0 2) ∧ 0 ≤ b ∧ b < T 108 0 2)) ∨ (((0 ≤ c ∧ c < T 106 0 2) ∧ 0 ≤ b ∧ b < T 108 0 2) ∧ ((x = -4 ∧ (T 404 c b = -1 ∨ T 100 c 6 = 0)) ∨ (T 404 c b ≠ -1 ∧ T 100 c 6 ≠ 0 ∧ x = (bk9_ (fun m => T 102 m 3) (fun m => T 102 m 4) b (T 100 c 7) (T 100 c 8).toNat).1)))
def BR9_ (T : Zt) (c b x : Int) : Prop := (x = -2 ∧ ¬ ((0 ≤ c ∧ c < T 111 0 6) ∧ 0 ≤ b ∧ b < T 111 0 12)) ∨ (((0 ≤ c ∧ c < T 111 0 6) ∧ 0 ≤ b ∧ b < T 111 0 12) ∧ ((x = -4 ∧ (T 209 0 c = 0 ∨ ¬ HE_ T c b)) ∨ (T 209 0 c ≠ 0 ∧ HE_ T c b ∧ x = (bk9_ (fun m => T 232 0 m) (fun m => T 233 0 m) b (T 210 0 c) (T 211 0 c).toNat).1)))
/-- breaks on both sides -/
theorem brk_e {T : Zt} {c b x1 x2 : Int} (h : ENR_ T) (hm : MAR_ T) (hk : KE_ T) (hl : KC_ T) (hcc : T 106 0 2 = T 111 0 6) (hc : T 108 0 2 = T 111 0 12) (hc12 : T 108 0 2 ≤ 12) (hb7 : ∀ d, 0 ≤ T 100 d 7 ∧ 0 ≤ T 100 d 8) (d1 : BH9_ T c b x1) (d2 : BR9_ T c b x2) : x1 = x2 := sorry
abbrev po_X2_has_e (T : Zt) (p : Int) (c : Int) : Zt → Option Zv → Prop := fun T' r => T = T' ∧ ∃ x : Int, r = some (vI x) ∧ ((x = 1 ∧ (T 102 p 3 = c ∨ T 102 p 4 = c)) ∨ (x = 0 ∧ ¬ (T 102 p 3 = c ∨ T 102 p 4 = c)))
set_option maxHeartbeats 4000000 in
theorem ct_X2_has_e {T : Zt} {p : Int} {c : Int} : Ct_ yX2_has zX2_has T [vR 102 p, vI c] (po_X2_has_e T p c) := sorry
abbrev po_X6_countBreaks_e (T : Zt) (c : Int) (cl : Int) : Zt → Option Zv → Prop := fun T' r => T = T' ∧ ∃ x : Int, r = some (vI x) ∧ (x = (bk9_ (fun m => T 102 m 3) (fun m => T 102 m 4) cl (T 100 c 7) (T 100 c 8).toNat).1)
set_option maxHeartbeats 4000000 in
theorem ct_X6_countBreaks_e {T : Zt} {c : Int} {cl : Int} (hka : KA_ T) (hcm : T 100 c 7 + T 100 c 8 ≤ T 106 0 4) : Ct_ yX6_countBreaks zX6_countBreaks T [vR 106 0, vR 100 c, vI cl] (po_X6_countBreaks_e T c cl) := sorry
abbrev po_X10_breaks_e (T : Zt) (c cl : Int) : Zt → Option Zv → Prop := fun T' r => T = T' ∧ ∃ x : Int, r = some (vI x) ∧ (BH9_ T c cl x)
set_option maxHeartbeats 4000000 in
theorem ct_X10_breaks_e {T : Zt} {c cl : Int} (hka : KA_ T) (hkc : KC_ T) : Ct_ yX10_breaks zX10_breaks T [vR 110 0, vI c, vI cl] (po_X10_breaks_e T c cl) := sorry
abbrev po_X11_breaks_e (T : Zt) (c cl : Int) : Zt → Option Zv → Prop := fun T' r => T = T' ∧ ∃ x : Int, r = some (vI x) ∧ (BR9_ T c cl x)
set_option maxHeartbeats 4000000 in
theorem ct_X11_breaks_e {T : Zt} {c cl : Int} (hML : ML_ T) : Ct_ yX11_breaks zX11_breaks T [vR 111 0, vI c, vI cl] (po_X11_breaks_e T c cl) := sorry
-- clubs and officials: one more of two rows
def TG9_ (a : Nat) (sl mx : Int) (k1 k2 : Nat) (T T' : Zt) (s c x : Int) : Prop := (T' = T ∧ ((x = -3 ∧ ¬ (0 ≤ s ∧ s ≤ 11 ∧ 0 ≤ c ∧ c ≤ 7)) ∨ ((0 ≤ s ∧ s ≤ 11 ∧ 0 ≤ c ∧ c ≤ 7) ∧ T a 0 sl = mx ∧ x = -5))) ∨ ((0 ≤ s ∧ s ≤ 11 ∧ 0 ≤ c ∧ c ≤ 7) ∧ T a 0 sl < mx ∧ x = T a 0 sl ∧ T' a 0 sl = T a 0 sl + 1 ∧ SG9_ k1 T T' (T a 0 sl) s ∧ SG9_ k2 T T' (T a 0 sl) c)
theorem tg9_e {a1 a2 : Nat} {s1 s2 mx : Int} {k1 k2 k3 k4 : Nat} {T T1 T2 : Zt} {s c x1 x2 : Int} (h : ∀ j, 0 ≤ j → j < T a1 0 s1 → T k1 0 j = T k3 0 j ∧ T k2 0 j = T k4 0 j) (hn : T a1 0 s1 = T a2 0 s2) (d1 : TG9_ a1 s1 mx k1 k2 T T1 s c x1) (e2 : T1 a2 0 s2 = T a2 0 s2) (e3 : ∀ j, T1 k3 0 j = T k3 0 j) (e4 : ∀ j, T1 k4 0 j = T k4 0 j) (d2 : TG9_ a2 s2 mx k3 k4 T1 T2 s c x2) (g1 : T2 a1 0 s1 = T1 a1 0 s1) (g3 : ∀ j, T2 k1 0 j = T1 k1 0 j) (g4 : ∀ j, T2 k2 0 j = T1 k2 0 j) : x1 = x2 ∧ T2 a1 0 s1 = T2 a2 0 s2 ∧ ∀ j, 0 ≤ j → j < T2 a1 0 s1 → T2 k1 0 j = T2 k3 0 j ∧ T2 k2 0 j = T2 k4 0 j := sorry
/-- counters alike -/
def CNR_ (T : Zt) : Prop := T 108 0 2 = T 111 0 12 ∧ T 108 0 3 = T 111 0 15 ∧ T 108 0 12 = T 111 0 21 ∧ T 108 0 13 = T 111 0 3
/-- stadiums, countries, homes alike -/
def THR_ (T : Zt) : Prop := (∀ j, 0 ≤ j → j < T 108 0 2 → T 560 0 j = T 213 0 j ∧ T 561 0 j = T 214 0 j) ∧ ∀ j, 0 ≤ j → j < T 108 0 12 → T 570 0 j = T 222 0 j ∧ T 571 0 j = T 223 0 j
abbrev po_X10_club_e (T : Zt) (s c : Int) : Zt → Option Zv → Prop := fun T' r => ∃ x : Int, r = some (vI x) ∧ fr_ [(108, [2]), (560, []), (561, [])] T T' ∧ (((x = -3 ∧ ¬ (0 ≤ s ∧ s ≤ 11 ∧ 0 ≤ c ∧ c ≤ 7) ∧ T' 108 0 2 = T 108 0 2) ∨ ((0 ≤ s ∧ s ≤ 11 ∧ 0 ≤ c ∧ c ≤ 7) ∧ T 108 0 2 = 12 ∧ x = -5 ∧ T' 108 0 2 = T 108 0 2) ∨ ((0 ≤ s ∧ s ≤ 11 ∧ 0 ≤ c ∧ c ≤ 7) ∧ T 108 0 2 < 12 ∧ x = T 108 0 2 ∧ T' 108 0 2 = T 108 0 2 + 1)) ∧ TG9_ 108 2 12 560 561 T T' s c x)
set_option maxHeartbeats 4000000 in
theorem ct_X10_club_e {T : Zt} {s c : Int} : Ct_ yX10_club zX10_club T [vR 110 0, vI s, vI c] (po_X10_club_e T s c) := sorry
abbrev po_X11_club_e (T : Zt) (s c : Int) : Zt → Option Zv → Prop := fun T' r => ∃ x : Int, r = some (vI x) ∧ fr_ [(111, [12]), (213, []), (214, [])] T T' ∧ (((x = -3 ∧ ¬ (0 ≤ s ∧ s ≤ 11 ∧ 0 ≤ c ∧ c ≤ 7) ∧ T' 111 0 12 = T 111 0 12) ∨ ((0 ≤ s ∧ s ≤ 11 ∧ 0 ≤ c ∧ c ≤ 7) ∧ T 111 0 12 = 12 ∧ x = -5 ∧ T' 111 0 12 = T 111 0 12) ∨ ((0 ≤ s ∧ s ≤ 11 ∧ 0 ≤ c ∧ c ≤ 7) ∧ T 111 0 12 < 12 ∧ x = T 111 0 12 ∧ T' 111 0 12 = T 111 0 12 + 1)) ∧ TG9_ 111 12 12 213 214 T T' s c x)
set_option maxHeartbeats 4000000 in
theorem ct_X11_club_e {T : Zt} {s c : Int} : Ct_ yX11_club zX11_club T [vR 111 0, vI s, vI c] (po_X11_club_e T s c) := sorry
abbrev po_X10_official_e (T : Zt) (s c : Int) : Zt → Option Zv → Prop := fun T' r => ∃ x : Int, r = some (vI x) ∧ fr_ [(108, [12]), (570, []), (571, [])] T T' ∧ (((x = -3 ∧ ¬ (0 ≤ s ∧ s ≤ 11 ∧ 0 ≤ c ∧ c ≤ 7) ∧ T' 108 0 12 = T 108 0 12) ∨ ((0 ≤ s ∧ s ≤ 11 ∧ 0 ≤ c ∧ c ≤ 7) ∧ T 108 0 12 = 8 ∧ x = -5 ∧ T' 108 0 12 = T 108 0 12) ∨ ((0 ≤ s ∧ s ≤ 11 ∧ 0 ≤ c ∧ c ≤ 7) ∧ T 108 0 12 < 8 ∧ x = T 108 0 12 ∧ T' 108 0 12 = T 108 0 12 + 1)) ∧ TG9_ 108 12 8 570 571 T T' s c x)
set_option maxHeartbeats 4000000 in
theorem ct_X10_official_e {T : Zt} {s c : Int} : Ct_ yX10_official zX10_official T [vR 110 0, vI s, vI c] (po_X10_official_e T s c) := sorry
abbrev po_X11_official_e (T : Zt) (s c : Int) : Zt → Option Zv → Prop := fun T' r => ∃ x : Int, r = some (vI x) ∧ fr_ [(111, [21]), (222, []), (223, [])] T T' ∧ (((x = -3 ∧ ¬ (0 ≤ s ∧ s ≤ 11 ∧ 0 ≤ c ∧ c ≤ 7) ∧ T' 111 0 21 = T 111 0 21) ∨ ((0 ≤ s ∧ s ≤ 11 ∧ 0 ≤ c ∧ c ≤ 7) ∧ T 111 0 21 = 8 ∧ x = -5 ∧ T' 111 0 21 = T 111 0 21) ∨ ((0 ≤ s ∧ s ≤ 11 ∧ 0 ≤ c ∧ c ≤ 7) ∧ T 111 0 21 < 8 ∧ x = T 111 0 21 ∧ T' 111 0 21 = T 111 0 21 + 1)) ∧ TG9_ 111 21 8 222 223 T T' s c x)
set_option maxHeartbeats 4000000 in
theorem ct_X11_official_e {T : Zt} {s c : Int} : Ct_ yX11_official zX11_official T [vR 111 0, vI s, vI c] (po_X11_official_e T s c) := sorry
-- the draw as the house counts it
theorem qs_g1 {C : Int → Prop} {V : Int → Nat} {g : Int} (h0 : 0 ≤ g) (h4 : g < 4) (c : C g) : qs_ C V (g - 1) = V g + qs_ C V g := sorry
theorem qs_g0 {C : Int → Prop} {V : Int → Nat} {g : Int} (nc : ¬ C g) : qs_ C V (g - 1) = qs_ C V g := sorry
theorem wr_w (a b : Int) : wr_ (wr_ a + b) = wr_ (a + b) := sorry
theorem wr_i {a : Int} (h : -2147483648 ≤ a ∧ a ≤ 2147483647) : wr_ a = a := sorry
/-- how many of the clubs below k stand in a group and are of a country -/
def cmk_ (E C f : Int → Int) (g c : Int) : Nat → Int
  | 0 => 0
  | k + 1 => cmk_ E C f g c k + (if E k ≠ -1 ∧ f k = g ∧ C k = c then 1 else 0)
theorem cmk_b (E C f : Int → Int) (g c : Int) : ∀ k : Nat, 0 ≤ cmk_ E C f g c k ∧ cmk_ E C f g c k ≤ k := sorry
theorem cmk_a {E C f : Int → Int} {x g : Int} (hx : f x ≠ g) : ∀ k : Nat, alk_ E C f x g k = cmk_ E C f g (C x) k := sorry
theorem cmk_u {E C f : Int → Int} {x g : Int} (hx : f x = -1) (hg : 0 ≤ g) (he : E x ≠ -1) (h0 : 0 ≤ x) (g2 c : Int) (h2 : 0 ≤ g2) : ∀ k : Nat, cmk_ E C (fu_ f x g) g2 c k = cmk_ E C f g2 c k + (if x < k ∧ g2 = g ∧ C x = c then 1 else 0) := sorry
/-- a club of a pot stands in a group -/
def OX_ (E f : Int → Int) (p g : Int) : Prop := ∃ k, 0 ≤ k ∧ k < 12 ∧ E k = p ∧ f k = g
theorem ox_u {E f : Int → Int} {x g p g2 : Int} (hx : f x = -1) (h0 : 0 ≤ x ∧ x < 12) (hg2 : 0 ≤ g2) : OX_ E (fu_ f x g) p g2 ↔ OX_ E f p g2 ∨ (p = E x ∧ g2 = g) := sorry
/-- the rows taken, countrymen say where the clubs stand -/
def OCW_ (T : Zt) (E C f : Int → Int) : Prop := (∀ p g, 0 ≤ p → p ≤ 2 → 0 ≤ g → g < 4 → (T 434 0 (p * 4 + g) = 0 ↔ ¬ OX_ E f p g)) ∧ ∀ g c, 0 ≤ g → g < 4 → 0 ≤ c → c < 8 → T 435 0 (g * 8 + c) = cmk_ E C f g c 12
theorem oc_e {T T' : Zt} {E C f : Int → Int} (h : OCW_ T E C f) (a : ∀ j, T' 434 0 j = T 434 0 j) (b : ∀ j, T' 435 0 j = T 435 0 j) : OCW_ T' E C f := sorry
theorem oc_u {T T' : Zt} {E C f : Int → Int} {x g : Int} (h : OCW_ T E C f) (hx : 0 ≤ x ∧ x < 12) (hf : f x = -1) (he : 0 ≤ E x ∧ E x ≤ 2) (hc : 0 ≤ C x ∧ C x < 8) (hg : 0 ≤ g ∧ g < 4) (t1 : T' 434 0 (E x * 4 + g) ≠ 0) (t2 : ∀ j, j ≠ E x * 4 + g → T' 434 0 j = T 434 0 j) (c1 : T' 435 0 (g * 8 + C x) = T 435 0 (g * 8 + C x) + 1) (c2 : ∀ j, j ≠ g * 8 + C x → T' 435 0 j = T 435 0 j) : OCW_ T' E C (fu_ f x g) := sorry
/-- the house's draw -/
def dh_ (T : Zt) : Dr_ := ⟨fun k => T 428 0 k, fun k => T 561 0 k, 12, T 101 0 1, T 101 0 2⟩
def ghw_ (T : Zt) : Int → Int := fun k => T 429 0 k
def lhw_ (T : Zt) : List Int := lq_ (fun k => T 428 0 k) (ghw_ T) 12 3
theorem dq_f {ws : List (Nat × List Int)} {T T' : Zt} {d : Dr_} (h : d = dh_ T) (f : fr_ ws T T') (w : (∀ j, fw_ ws 428 j = false) ∧ (∀ j, fw_ ws 561 j = false) ∧ fw_ ws 101 1 = false ∧ fw_ ws 101 2 = false) : d = dh_ T' := sorry
theorem oc_t {T : Zt} {d : Dr_} {f : Int → Int} {x g : Int} (hd : d = dh_ T) (h : OCW_ T d.E d.C f) (hx : 0 ≤ x ∧ x < 12) (hf : f x = -1) (he : 0 ≤ T 428 0 x ∧ T 428 0 x ≤ 2) (hc : 0 ≤ T 561 0 x ∧ T 561 0 x ≤ 7) (hg : 0 ≤ g ∧ g < 4) : (T 434 0 (T 428 0 x * 4 + g) = 0 ∧ T 435 0 (g * 8 + T 561 0 x) < T 101 0 2) ↔ ms_ d f x g := sorry
/-- the row waiting, from k on -/
def WL_ (T : Zt) : List Int → Int → Prop
  | [], k => k = T 101 0 13
  | x :: l, k => T 432 0 k = x ∧ WL_ T l (k + 1)
theorem wl_c {T : Zt} : ∀ {l : List Int} {k : Int}, WL_ T l k → k + (l.length : Int) = T 101 0 13 := sorry
theorem wl_e {T T' : Zt} (a : ∀ j, T' 432 0 j = T 432 0 j) (b : T' 101 0 13 = T 101 0 13) : ∀ {l : List Int} {k : Int}, WL_ T l k → WL_ T' l k := sorry
/-- what is asked of the clubs that wait -/
def FZ_ (T : Zt) (f : Int → Int) (l : List Int) : Prop := l.Nodup ∧ ∀ z ∈ l, (0 ≤ z ∧ z < 12) ∧ f z = -1 ∧ (0 ≤ T 428 0 z ∧ T 428 0 z ≤ 2) ∧ (0 ≤ T 561 0 z ∧ T 561 0 z ≤ 7)
theorem fz_u {T T' : Zt} {f : Int → Int} {x g : Int} {l : List Int} (h : FZ_ T f (x :: l)) (a : ∀ j, T' 428 0 j = T 428 0 j) (b : ∀ j, T' 561 0 j = T 561 0 j) : FZ_ T' (fu_ f x g) l := sorry
theorem fz_b {T : Zt} {d : Dr_} {f : Int → Int} {l : List Int} {fx gp : Int} (hd : d = dh_ T) (h : FZ_ T f l) : nw_ d fx gp l f ≤ 13824 := sorry
/-- what counting from a list leaves -/
def PC_ (T T' : Zt) (d : Dr_) (l : List Int) (f : Int → Int) (x : Int) : Prop := x = (nw_ d (-1) (-1) l f : Nat) ∧ (∀ j, T' 434 0 j = T 434 0 j) ∧ (∀ j, T' 435 0 j = T 435 0 j) ∧ (∀ c ∈ l, ∀ u, 0 ≤ u → u < 4 → T' 431 0 (c * 4 + u) = wr_ (T 431 0 (c * 4 + u) + (nw_ d c u l f : Nat))) ∧ ∀ c, c ∉ l → ∀ u, 0 ≤ u → u < 4 → T' 431 0 (c * 4 + u) = T 431 0 (c * 4 + u)
/-- the count of a club's groups, below g -/
def CI_ (T T1 : Zt) (d : Dr_) (x : Int) (l : List Int) (f : Int → Int) (v g : Int) : Prop := v + (qs_ (ok_ d (-1) (-1) f x) (fun u => nw_ d (-1) (-1) l (fu_ f x u)) (g - 1) : Nat) = (nw_ d (-1) (-1) (x :: l) f : Nat) ∧ (∀ c ∈ x :: l, ∀ u, 0 ≤ u → u < 4 → T1 431 0 (c * 4 + u) = wr_ (T 431 0 (c * 4 + u) + (nw_ d c u (x :: l) f : Nat) - (qs_ (ok_ d c u f x) (fun w => nw_ d c u l (fu_ f x w)) (g - 1) : Nat))) ∧ ∀ c, c ∉ x :: l → ∀ u, 0 ≤ u → u < 4 → T1 431 0 (c * 4 + u) = T 431 0 (c * 4 + u)
theorem ci_0 {T : Zt} {d : Dr_} {x : Int} {l : List Int} {f : Int → Int} (hl : ∀ z ∈ x :: l, 0 ≤ z) (hb : ∀ j, 0 ≤ j → -2147483648 ≤ T 431 0 j ∧ T 431 0 j ≤ 2147483647) : CI_ T T d x l f 0 0 := sorry
theorem ci_n {T T1 : Zt} {d : Dr_} {x : Int} {l : List Int} {f : Int → Int} {v g : Int} (h : CI_ T T1 d x l f v g) (n : ¬ ms_ d f x g) : CI_ T T1 d x l f v (g + 1) := sorry
theorem ci_y {T T1 T2 T3 T4 : Zt} {d : Dr_} {x : Int} {l : List Int} {f : Int → Int} {v w g : Int} (h : CI_ T T1 d x l f v g) (hn : (x :: l).Nodup) (hl : ∀ z ∈ x :: l, 0 ≤ z) (hg : 0 ≤ g ∧ g < 4) (hG : g < d.G) (m : ms_ d f x g) (e2 : ∀ j, T2 431 0 j = T1 431 0 j) (p : PC_ T2 T3 d l (fu_ f x g) w) (e4 : T4 431 0 (x * 4 + g) = wr_ (T3 431 0 (x * 4 + g) + w)) (e5 : ∀ j, j ≠ x * 4 + g → T4 431 0 j = T3 431 0 j) : CI_ T T4 d x l f (v + w) (g + 1) := sorry
theorem ci_e {T T1 : Zt} {d : Dr_} {x : Int} {l : List Int} {f : Int → Int} {v g : Int} (h : CI_ T T1 d x l f v g) (hg : d.G ≤ g) (a : ∀ j, T1 434 0 j = T 434 0 j) (b : ∀ j, T1 435 0 j = T 435 0 j) : PC_ T T1 d (x :: l) f v := sorry
theorem pc_n {T : Zt} {d : Dr_} {f : Int → Int} : PC_ T T d [] f 1 := sorry
def zX1_cf (n : Nat) : Zm := (RX1, cX1_countFrom, 8, (some .int), { frames := n + 1, cells := 0, slots := 0, locals := 27 * (n + 1) })
theorem rf_cf (n : Nat) : rf_ (zX1_cf n) (zX1_cf (n + 1)) = true := sorry
set_option maxRecDepth 100000 in
theorem cl_cf (n : Nat) : cv_ RX1 68 yX1_countFrom (zX1_cf n) 1 1 := sorry
abbrev po_X1_cf (T : Zt) (d : Dr_) (l : List Int) (f : Int → Int) : Zt → Option Zv → Prop := fun T' r => ∃ x : Int, r = some (vI x) ∧ fr_ [(434, []), (435, []), (431, [])] T T' ∧ PC_ T T' d l f x
abbrev po_X1_cf_n (T : Zt) (d : Dr_) (f : Int → Int) (n : Nat) (k : Int) : Zt → Option Zv → Prop := fun T' r => ∃ x : Int, r = some (vI x) ∧ fr_ [(434, []), (435, []), (431, [])] T T' ∧ (PC_ T T' d [] f x)
set_option maxHeartbeats 4000000 in
theorem ct_X1_cf_n {T : Zt} {d : Dr_} {f : Int → Int} {n : Nat} {k : Int} (hk : k = T 101 0 13) : Ct_ yX1_countFrom (zX1_cf n) T [vR 101 0, vI k] (po_X1_cf_n T d f n k) := sorry
abbrev po_X1_cf_s (T : Zt) (d : Dr_) (l : List Int) (f : Int → Int) (n : Nat) (k : Int) : Zt → Option Zv → Prop := fun T' r => ∃ x : Int, r = some (vI x) ∧ fr_ [(434, []), (435, []), (431, [])] T T' ∧ (PC_ T T' d ((T 432 0 k) :: l) f x)
set_option maxHeartbeats 4000000 in
theorem ct_X1_cf_s {T : Zt} {d : Dr_} {l : List Int} {f : Int → Int} {n : Nat} {k : Int} (IH : ∀ (T1 : Zt) (f1 : Int → Int) (k1 : Int), d = dh_ T1 → WL_ T1 l k1 → OCW_ T1 d.E d.C f1 → FZ_ T1 f1 l → 0 ≤ k1 → Ct_ yX1_countFrom (zX1_cf n) T1 [vR 101 0, vI k1] (po_X1_cf T1 d l f1)) (hd : d = dh_ T) (hw : WL_ T l (k + 1)) (ho : OCW_ T d.E d.C f) (hz9 : FZ_ T f ((T 432 0 k) :: l)) (hk : 0 ≤ k) : Ct_ yX1_countFrom (zX1_cf (n + 1)) T [vR 101 0, vI k] (po_X1_cf_s T d l f n k) := sorry
theorem ct_cf {d : Dr_} : ∀ (l : List Int) (n : Nat), l.length ≤ n → ∀ (T : Zt) (f : Int → Int) (k : Int), d = dh_ T → WL_ T l k → OCW_ T d.E d.C f → FZ_ T f l → 0 ≤ k → Ct_ yX1_countFrom (zX1_cf n) T [vR 101 0, vI k] (po_X1_cf T d l f) := sorry
-- refresh: pots seen so far
def ep_ (E : Int → Int) (p c k : Int) : Int := if (0 ≤ E k ∧ E k < p) ∨ (E k = p ∧ k < c) then E k else -1
theorem ep_0 {E : Int → Int} {k : Int} (h : 0 ≤ k) : ep_ E 0 0 k = -1 := sorry
theorem ep_n {E : Int → Int} {p c k : Int} (h : ¬ (k = c ∧ E c = p)) : ep_ E p (c + 1) k = ep_ E p c k := sorry
theorem ep_c {E : Int → Int} {p c : Int} (h : E c = p) : ep_ E p c c = -1 ∧ ep_ E p (c + 1) c = p := sorry
theorem ep_p {E : Int → Int} {p k : Int} (hp : 0 ≤ p) (hk : k < 12) (h0 : 0 ≤ k) : ep_ E (p + 1) 0 k = ep_ E p 12 k := sorry
theorem ep_3 {E : Int → Int} {k : Int} (h : -1 ≤ E k ∧ E k ≤ 2) : ep_ E 3 0 k = E k := sorry
theorem cmk_c {E E2 C f : Int → Int} {g c : Int} (hg : 0 ≤ g) : ∀ n : Nat, (∀ k : Int, 0 ≤ k → k < n → E2 k = E k ∨ f k = -1) → cmk_ E2 C f g c n = cmk_ E C f g c n := sorry
theorem oc_c {T : Zt} {E E2 C f : Int → Int} (h : OCW_ T E C f) (e : ∀ k, 0 ≤ k → k < 12 → E2 k = E k ∨ f k = -1) : OCW_ T E2 C f := sorry
theorem cmk_p {E E2 C f : Int → Int} {x g0 : Int} (h0 : 0 ≤ x) (e1 : E x = -1) (e2 : E2 x ≠ -1) (e3 : ∀ k, k ≠ x → E2 k = E k) (hf : f x = g0) (g c : Int) : ∀ n : Nat, cmk_ E2 C f g c n = cmk_ E C f g c n + (if x < n ∧ g = g0 ∧ C x = c then 1 else 0) := sorry
theorem oc_p {T T' : Zt} {E E2 C f : Int → Int} {x p0 g0 : Int} (h : OCW_ T E C f) (hx : 0 ≤ x ∧ x < 12) (e1 : E x = -1) (e2 : E2 x = p0) (e3 : ∀ k, k ≠ x → E2 k = E k) (hf : f x = g0) (hp : 0 ≤ p0 ∧ p0 ≤ 2) (hg : 0 ≤ g0 ∧ g0 < 4) (hc : 0 ≤ C x ∧ C x < 8) (t1 : T' 434 0 (p0 * 4 + g0) ≠ 0) (t2 : ∀ j, j ≠ p0 * 4 + g0 → T' 434 0 j = T 434 0 j) (c1 : T' 435 0 (g0 * 8 + C x) = T 435 0 (g0 * 8 + C x) + 1) (c2 : ∀ j, j ≠ g0 * 8 + C x → T' 435 0 j = T 435 0 j) : OCW_ T' E2 C f := sorry
theorem cmk_z {E C f : Int → Int} {g c : Int} : ∀ n : Nat, (∀ k : Int, 0 ≤ k → k < n → E k = -1) → cmk_ E C f g c n = 0 := sorry
theorem oc_z {T : Zt} {E C f : Int → Int} (a : ∀ j, 0 ≤ j → j < 12 → T 434 0 j = 0) (b : ∀ j, 0 ≤ j → j < 32 → T 435 0 j = 0) : OCW_ T (ep_ E 0 0) C f := sorry
/-- the row waiting holds a list from k on -/
def WB_ (T : Zt) : List Int → Int → Prop
  | [], _ => True
  | x :: l, k => T 432 0 k = x ∧ WB_ T l (k + 1)
theorem wb_s {T : Zt} {x : Int} : ∀ {l : List Int} {k : Int}, WB_ T l k → T 432 0 (k + (l.length : Int)) = x → WB_ T (l ++ [x]) k := sorry
theorem wb_e {T T' : Zt} : ∀ {l : List Int} {k : Int}, WB_ T l k → (∀ j, k ≤ j → j < k + (l.length : Int) → T' 432 0 j = T 432 0 j) → WB_ T' l k := sorry
theorem wb_w {T : Zt} : ∀ {l : List Int} {k : Int}, WB_ T l k → k + (l.length : Int) = T 101 0 13 → WL_ T l k := sorry
/-- what was counted is what there is -/
def FV_ (T : Zt) : Prop := T 101 0 6 = (nw_ (dh_ T) (-1) (-1) (lhw_ T) (ghw_ T) : Nat) ∧ (∀ c ∈ lhw_ T, ∀ u, 0 ≤ u → u < 4 → T 431 0 (c * 4 + u) = (nw_ (dh_ T) c u (lhw_ T) (ghw_ T) : Nat)) ∧ WL_ T (lhw_ T) 0
def RFP_ (T T' : Zt) : Prop := (T 101 0 7 ≠ 0 ∧ T' = T) ∨ (T 101 0 7 = 0 ∧ T' 101 0 7 = 1 ∧ FV_ T')
theorem lhw_m {T : Zt} {x : Int} (h : x ∈ lhw_ T) : 0 ≤ x ∧ x < 12 ∧ T 429 0 x = -1 ∧ 0 ≤ T 428 0 x ∧ T 428 0 x ≤ 2 := sorry
theorem lhw_d (T : Zt) : (lhw_ T).Nodup := sorry
theorem lhw_i {T : Zt} {x : Int} (h0 : 0 ≤ x) (hn : x < 12) (hg : T 429 0 x = -1) (h1 : 0 ≤ T 428 0 x) (h2 : T 428 0 x ≤ 2) : x ∈ lhw_ T := sorry
theorem dh_e {T T1 : Zt} (a : ∀ k, T1 428 0 k = T 428 0 k) (b : ∀ k, T1 561 0 k = T 561 0 k) (d : T1 101 0 1 = T 101 0 1) (e : T1 101 0 2 = T 101 0 2) : dh_ T1 = dh_ T := sorry
theorem ghw_e {T T1 : Zt} (a : ∀ k, T1 429 0 k = T 429 0 k) : ghw_ T1 = ghw_ T := sorry
theorem lhw_e {T T1 : Zt} (a : ∀ k, T1 428 0 k = T 428 0 k) (b : ∀ k, T1 429 0 k = T 429 0 k) : lhw_ T1 = lhw_ T := sorry
theorem fv_i {T T1 U U2 : Zt} {x : Int} (hE : ∀ k, U2 428 0 k = T 428 0 k) (hC : ∀ k, U2 561 0 k = T 561 0 k) (hG : ∀ k, U2 429 0 k = T 429 0 k) (h1 : U2 101 0 1 = T 101 0 1) (h2 : U2 101 0 2 = T 101 0 2) (p : PC_ T1 U (dh_ T) (lhw_ T) (ghw_ T) x) (h6 : U2 101 0 6 = x) (h4 : ∀ j, U2 431 0 j = U 431 0 j) (z : ∀ j, 0 ≤ j → j < 48 → T1 431 0 j = 0) (fz : FZ_ T (ghw_ T) (lhw_ T)) (wl : WL_ U2 (lhw_ T) 0) : FV_ U2 := sorry
abbrev po_X1_refresh_e (T : Zt) : Zt → Option Zv → Prop := fun T' r => r = none ∧ fr_ [(101, [13, 6, 7]), (434, []), (435, []), (431, []), (432, [])] T T' ∧ (RFP_ T T')
set_option maxHeartbeats 4000000 in
theorem ct_X1_refresh_e {T : Zt} : Ct_ yX1_refresh zX1_refresh T [vR 101 0] (po_X1_refresh_e T) := sorry
-- counts of a row's places
def cnz_ (f : Int → Int) (v : Int) : Nat → Int
  | 0 => 0
  | k + 1 => cnz_ f v k + (if f k = v then 1 else 0)
theorem cnz_b (f : Int → Int) (v : Int) : ∀ k : Nat, 0 ≤ cnz_ f v k ∧ cnz_ f v k ≤ k := sorry
theorem cnz_t {f : Int → Int} {v k : Int} (hk : 0 ≤ k) (c : f k = v) : cnz_ f v (k + 1).toNat = cnz_ f v k.toNat + 1 := sorry
theorem cnz_f {f : Int → Int} {v k : Int} (hk : 0 ≤ k) (c : ¬ f k = v) : cnz_ f v (k + 1).toNat = cnz_ f v k.toNat := sorry
theorem cnz_e {f g : Int → Int} {v : Int} : ∀ n : Nat, (∀ k : Int, 0 ≤ k → k < n → f k = g k) → cnz_ f v n = cnz_ g v n := sorry
theorem cnz_n {f : Int → Int} {v : Int} : ∀ n : Nat, (∀ k : Int, 0 ≤ k → k < n → f k ≠ v) → cnz_ f v n = 0 := sorry
theorem cnz_a {f : Int → Int} {v : Int} : ∀ n : Nat, (∀ k : Int, 0 ≤ k → k < n → f k = v) → cnz_ f v n = n := sorry
theorem cnz_p {f : Int → Int} {v j : Int} (h0 : 0 ≤ j) (c : f j = v) : ∀ n : Nat, j < n → 0 < cnz_ f v n := sorry
/-- one place changed -/
theorem cnz_u {f g : Int → Int} {v x : Int} (h0 : 0 ≤ x) (e : ∀ k, k ≠ x → g k = f k) : ∀ n : Nat, x < n → cnz_ g v n = cnz_ f v n - (if f x = v then 1 else 0) + (if g x = v then 1 else 0) := sorry
/-- where one holds the other does -/
theorem cnz_l {f g : Int → Int} {v w : Int} : ∀ n : Nat, (∀ k : Int, 0 ≤ k → k < n → f k = v → g k = w) → cnz_ f v n ≤ cnz_ g w n := sorry
theorem cnz_s {f g : Int → Int} {v w j : Int} (h0 : 0 ≤ j) (a1 : f j ≠ v) (a2 : g j = w) : ∀ n : Nat, j < n → (∀ k : Int, 0 ≤ k → k < n → f k = v → g k = w) → cnz_ f v n < cnz_ g w n := sorry
-- what is taken below m
def ns9_ (s : Int) : Int := wr_ (wr_ (s * 1664525) + 1013904223)
def tb9_ (m s : Int) : Int × Int := if us_ (ns9_ s) 1 < 2147483648 - 2147483648 % m then (us_ (ns9_ s) 1 % m, ns9_ s) else (us_ (ns9_ (ns9_ s)) 1 % m, ns9_ (ns9_ s))
theorem tb9_a {m s r v : Int} (h : v = us_ (ns9_ r) 1) (lt : v < 2147483648 - 2147483648 % m) (t : r = s ∨ (r = ns9_ s ∧ ¬ us_ (ns9_ s) 1 < 2147483648 - 2147483648 % m)) : v % m = (tb9_ m s).1 ∧ ns9_ r = (tb9_ m s).2 := sorry
theorem tb9_b {m s : Int} (hm : 1 ≤ m ∧ m ≤ 13824) (n : ¬ us_ (ns9_ s) 1 < 2147483648 - 2147483648 % m) : us_ (ns9_ (ns9_ s)) 1 < 2147483648 - 2147483648 % m := sorry
theorem tb9_r {m s : Int} (hm : 1 ≤ m) : 0 ≤ (tb9_ m s).1 ∧ (tb9_ m s).1 < m := sorry
/-- how many of those that wait, before the k-th, are of pot p -/
def cpw_ (T : Zt) (p : Int) (k : Nat) : Int := cnz_ (fun j => T 428 0 (T 432 0 j)) p k
/-- sums of the ways with a club in the groups before the n-th -/
def swn_ (T : Zt) (c : Int) : Nat → Int
  | 0 => 0
  | u + 1 => swn_ T c u + T 431 0 (c * 4 + u)
theorem swn_s {T : Zt} {c g : Int} (h : 0 ≤ g) : swn_ T c (g + 1).toNat = swn_ T c g.toNat + T 431 0 (c * 4 + g) := sorry
theorem swn_b {T : Zt} {c : Int} (h : ∀ u, 0 ≤ u → u < 4 → 0 ≤ T 431 0 (c * 4 + u) ∧ T 431 0 (c * 4 + u) ≤ 13824) : ∀ n : Nat, n ≤ 4 → 0 ≤ swn_ T c n ∧ swn_ T c n ≤ 13824 * n := sorry
/-- what place leaves -/
def PL9_ (T T' : Zt) (c : Int) : Prop := ∃ g, (0 ≤ g ∧ g < T 101 0 1) ∧ (swn_ T c g.toNat ≤ (tb9_ (T 101 0 6) (T 101 0 5)).1 ∧ (tb9_ (T 101 0 6) (T 101 0 5)).1 < swn_ T c (g + 1).toNat) ∧ T' 429 0 c = g ∧ (∀ j, j ≠ c → T' 429 0 j = T 429 0 j) ∧ T' 101 0 4 = T 101 0 4 + 1 ∧ T' 101 0 7 = 0 ∧ T' 101 0 5 = (tb9_ (T 101 0 6) (T 101 0 5)).2
/-- the draw of the house: its counts, and what was counted -/
def LH_ (T : Zt) : Prop := T 101 0 3 = 12 - cnz_ (fun k => T 428 0 k) (-1) 12 ∧ T 101 0 4 = 12 - cnz_ (fun k => T 429 0 k) (-1) 12 ∧ (∀ p, 0 ≤ p → p ≤ 2 → T 430 0 p = cnz_ (fun k => T 428 0 k) p 12 ∧ T 430 0 p ≤ T 101 0 1) ∧ (∀ k, 0 ≤ k → k < 12 → T 428 0 k = -1 → T 429 0 k = -1) ∧ (∀ k, T 108 0 2 ≤ k → k < 12 → T 428 0 k = -1) ∧ (T 101 0 7 = 0 ∨ FV_ T)
/-- the draw, alike on both sides -/
def LOR_ (T : Zt) : Prop := (T 101 0 1 = T 111 0 99 ∧ T 101 0 2 = T 111 0 100 ∧ T 101 0 5 = T 111 0 103 ∧ ((T 101 0 1 = 0 ∧ T 111 0 98 = 0) ∨ (T 101 0 1 ≠ 0 ∧ T 111 0 98 ≠ 0))) ∧ (∀ k, 0 ≤ k → k < 12 → T 428 0 k = T 301 0 k ∧ T 429 0 k = T 302 0 k) ∧ (T 101 0 1 = 0 ∨ LH_ T)
theorem lhw_b {T : Zt} (h : LH_ T) : (0 ≤ T 101 0 3 ∧ T 101 0 3 ≤ 12) ∧ (0 ≤ T 101 0 4 ∧ T 101 0 4 ≤ 12) := sorry
/-- with clubs that wait the row waiting has a first one -/
theorem fv_w2 {T U : Zt} (hb : ∀ j, 0 ≤ j → -1 ≤ T 428 0 j ∧ T 428 0 j ≤ 2) (k : LH_ T) (l : T 101 0 4 < T 101 0 3) (a1 : ∀ k, U 428 0 k = T 428 0 k) (a2 : ∀ k, U 429 0 k = T 429 0 k) (h : FV_ U) : 1 ≤ U 101 0 13 := sorry
/-- what pot, chance, ball answer of the house -/
def PTH_ (T T' : Zt) (c k x : Int) : Prop := (T' = T ∧ ((x = -2 ∧ ¬ (0 ≤ c ∧ c < T 108 0 2)) ∨ ((0 ≤ c ∧ c < T 108 0 2) ∧ x = -3 ∧ ¬ (0 ≤ k ∧ k < 3)) ∨ ((0 ≤ c ∧ c < T 108 0 2) ∧ (0 ≤ k ∧ k < 3) ∧ x = -4 ∧ (T 101 0 1 = 0 ∨ T 428 0 c ≠ -1 ∨ 0 < T 101 0 4)) ∨ ((0 ≤ c ∧ c < T 108 0 2) ∧ (0 ≤ k ∧ k < 3) ∧ ¬ (T 101 0 1 = 0 ∨ T 428 0 c ≠ -1 ∨ 0 < T 101 0 4) ∧ x = -5 ∧ T 101 0 1 ≤ T 430 0 k))) ∨ ((0 ≤ c ∧ c < T 108 0 2) ∧ (0 ≤ k ∧ k < 3) ∧ ¬ (T 101 0 1 = 0 ∨ T 428 0 c ≠ -1 ∨ 0 < T 101 0 4) ∧ T 430 0 k < T 101 0 1 ∧ x = T 430 0 k + 1 ∧ (T' 428 0 c = k ∧ ∀ j, j ≠ c → T' 428 0 j = T 428 0 j) ∧ (T' 430 0 k = T 430 0 k + 1 ∧ ∀ j, j ≠ k → T' 430 0 j = T 430 0 j) ∧ T' 101 0 3 = T 101 0 3 + 1 ∧ T' 101 0 7 = 0)
def WW9_ (T : Zt) (c g x : Int) : Prop := (T 429 0 c ≠ -1 ∧ ((T 429 0 c = g ∧ x = T 101 0 6) ∨ (T 429 0 c ≠ g ∧ x = 0))) ∨ (T 429 0 c = -1 ∧ x = T 431 0 (c * 4 + g))
def WYH_ (T T' : Zt) (x : Int) : Prop := (T' = T ∧ T 101 0 1 = 0 ∧ x = -4) ∨ (T 101 0 1 ≠ 0 ∧ RFP_ T T' ∧ x = T' 101 0 6)
def CHH_ (T T' : Zt) (c g x : Int) : Prop := (T' = T ∧ ((x = -2 ∧ ¬ ((0 ≤ c ∧ c < T 108 0 2) ∧ T 101 0 1 ≠ 0 ∧ T 428 0 c ≠ -1)) ∨ (((0 ≤ c ∧ c < T 108 0 2) ∧ T 101 0 1 ≠ 0 ∧ T 428 0 c ≠ -1) ∧ x = -3 ∧ ¬ (0 ≤ g ∧ g < T 101 0 1)))) ∨ (((0 ≤ c ∧ c < T 108 0 2) ∧ T 101 0 1 ≠ 0 ∧ T 428 0 c ≠ -1) ∧ (0 ≤ g ∧ g < T 101 0 1) ∧ RFP_ T T' ∧ WW9_ T' c g x)
/-- a ball of the house, the counts being fresh in T -/
def BA9_ (T T' : Zt) (s b x : Int) : Prop := ∃ (s0 n : Int) (T1 : Zt), ((b = 0 ∧ s0 = T 101 0 5) ∨ (b ≠ 0 ∧ s0 = s)) ∧ n = cpw_ T (T 428 0 (T 432 0 0)) (T 101 0 13).toNat ∧ 1 ≤ n ∧ fr_ [(101, [5])] T T1 ∧ T1 101 0 5 = (tb9_ n s0).2 ∧ PL9_ T1 T' (T 432 0 (tb9_ n s0).1) ∧ x = 8 * T 432 0 (tb9_ n s0).1 + T' 429 0 (T 432 0 (tb9_ n s0).1)
def BLH_ (T T' : Zt) (s b x : Int) : Prop := (T' = T ∧ x = -4 ∧ (T 101 0 1 = 0 ∨ T 101 0 3 ≤ T 101 0 4)) ∨ (¬ (T 101 0 1 = 0 ∨ T 101 0 3 ≤ T 101 0 4) ∧ ∃ T1, RFP_ T T1 ∧ fr_ [(101, [13, 6, 7]), (434, []), (435, []), (431, []), (432, [])] T T1 ∧ ((T1 101 0 6 = 0 ∧ x = -4 ∧ T' = T1) ∨ (T1 101 0 6 ≠ 0 ∧ BA9_ T1 T' s b x)))
def DWH_ (T : Zt) (c x : Int) : Prop := (x = -2 ∧ ¬ (0 ≤ c ∧ c < T 108 0 2)) ∨ ((0 ≤ c ∧ c < T 108 0 2) ∧ ((T 101 0 1 = 0 ∧ x = -1) ∨ (T 101 0 1 ≠ 0 ∧ x = T 429 0 c)))
/-- a new draw -/
def NDH_ (T T' : Zt) (g l x : Int) : Prop := (T' = T ∧ x = -3 ∧ ¬ (1 ≤ g ∧ g ≤ 4 ∧ 1 ≤ l ∧ l ≤ 3)) ∨ ((1 ≤ g ∧ g ≤ 4 ∧ 1 ≤ l ∧ l ≤ 3) ∧ x = 1 ∧ T' 101 0 1 = g ∧ T' 101 0 2 = l ∧ T' 101 0 3 = 0 ∧ T' 101 0 4 = 0 ∧ T' 101 0 7 = 0 ∧ (∀ j, 0 ≤ j → j < 12 → T' 428 0 j = -1 ∧ T' 429 0 j = -1) ∧ ∀ j, 0 ≤ j → j < 3 → T' 430 0 j = 0)
theorem fv_f {ws : List (Nat × List Int)} {T T' : Zt} (h : FV_ T) (f : fr_ ws T T') (w : (∀ j, fw_ ws 428 j = false) ∧ (∀ j, fw_ ws 429 j = false) ∧ (∀ j, fw_ ws 561 j = false) ∧ (∀ j, fw_ ws 431 j = false) ∧ (∀ j, fw_ ws 432 j = false) ∧ fw_ ws 101 1 = false ∧ fw_ ws 101 2 = false ∧ fw_ ws 101 6 = false ∧ fw_ ws 101 13 = false) : FV_ T' := sorry
theorem wl_i {T : Zt} : ∀ {l : List Int} {k i : Int}, WL_ T l k → 0 ≤ i → i < (l.length : Int) → T 432 0 (k + i) ∈ l := sorry
theorem qs_z {C : Int → Prop} {V : Int → Nat} {t : Int} (h : ∀ g, V g = 0) : qs_ C V t = 0 := sorry
theorem nw_z {d : Dr_} {c u : Int} (hu : d.G ≤ u) : ∀ (l : List Int) (f : Int → Int), c ∈ l → nw_ d c u l f = 0 := sorry
theorem fh_b {T : Zt} {fx gp : Int} (hb : ∀ j, 0 ≤ j → -1 ≤ T 428 0 j ∧ T 428 0 j ≤ 2) (hc : ∀ j, 0 ≤ j → 0 ≤ T 561 0 j ∧ T 561 0 j ≤ 7) : nw_ (dh_ T) fx gp (lhw_ T) (ghw_ T) ≤ 13824 := sorry
/-- what place wants -/
theorem pl_h {T U : Zt} {w : Int} (hb : ∀ j, 0 ≤ j → -1 ≤ T 428 0 j ∧ T 428 0 j ≤ 2) (hc : ∀ j, 0 ≤ j → 0 ≤ T 561 0 j ∧ T 561 0 j ≤ 7) (hG : 1 ≤ T 101 0 1 ∧ T 101 0 1 ≤ 4) (h : FV_ T) (f : fr_ [(101, [5])] T U) (hw : 0 ≤ w ∧ w < T 101 0 13) : T 432 0 w ∈ lhw_ T ∧ (∀ u, 0 ≤ u → u < 4 → 0 ≤ U 431 0 (T 432 0 w * 4 + u) ∧ U 431 0 (T 432 0 w * 4 + u) ≤ 13824) ∧ U 101 0 6 = swn_ U (T 432 0 w) (U 101 0 1).toNat := sorry
theorem ba_i {T U2 U3 T' : Zt} {s b x c : Int} (h2 : fr_ [(101, [5])] T U2) (hs : (b = 0 ∧ U2 101 0 5 = T 101 0 5) ∨ (b ≠ 0 ∧ U2 101 0 5 = s)) (qc : c = U2 432 0 (tb9_ (cpw_ U2 (U2 428 0 (U2 432 0 0)) (U2 101 0 13).toNat) (U2 101 0 5)).1) (q2 : U3 101 0 5 = (tb9_ (cpw_ U2 (U2 428 0 (U2 432 0 0)) (U2 101 0 13).toNat) (U2 101 0 5)).2) (q3 : 1 ≤ cpw_ U2 (U2 428 0 (U2 432 0 0)) (U2 101 0 13).toNat) (h3 : fr_ [(101, [5])] U2 U3) (p : PL9_ U3 T' c) (hx : x = 8 * c + T' 429 0 c) : BA9_ T T' s b x := sorry
abbrev po_X1_takeBelow_e (T : Zt) (m : Int) : Zt → Option Zv → Prop := fun T' r => ∃ x : Int, r = some (vI x) ∧ fr_ [(101, [5])] T T' ∧ (x = (tb9_ m (T 101 0 5)).1 ∧ T' 101 0 5 = (tb9_ m (T 101 0 5)).2 ∧ 0 ≤ x ∧ x < m)
set_option maxHeartbeats 4000000 in
theorem ct_X1_takeBelow_e {T : Zt} {m : Int} (h1 : 1 ≤ m ∧ m ≤ 13824) : Ct_ yX1_takeBelow zX1_takeBelow T [vR 101 0, vI m] (po_X1_takeBelow_e T m) := sorry
abbrev po_X1_takeClub_e (T : Zt) : Zt → Option Zv → Prop := fun T' r => ∃ x : Int, r = some (vI x) ∧ fr_ [(101, [5])] T T' ∧ (x = T 432 0 (tb9_ (cpw_ T (T 428 0 (T 432 0 0)) (T 101 0 13).toNat) (T 101 0 5)).1 ∧ T' 101 0 5 = (tb9_ (cpw_ T (T 428 0 (T 432 0 0)) (T 101 0 13).toNat) (T 101 0 5)).2 ∧ 1 ≤ cpw_ T (T 428 0 (T 432 0 0)) (T 101 0 13).toNat ∧ (0 ≤ (tb9_ (cpw_ T (T 428 0 (T 432 0 0)) (T 101 0 13).toNat) (T 101 0 5)).1 ∧ (tb9_ (cpw_ T (T 428 0 (T 432 0 0)) (T 101 0 13).toNat) (T 101 0 5)).1 < T 101 0 13) ∧ 0 ≤ x ∧ x < 12)
set_option maxHeartbeats 4000000 in
theorem ct_X1_takeClub_e {T : Zt} (h1 : 1 ≤ T 101 0 13) : Ct_ yX1_takeClub zX1_takeClub T [vR 101 0] (po_X1_takeClub_e T) := sorry
abbrev po_X1_place_e (T : Zt) (c : Int) : Zt → Option Zv → Prop := fun T' r => r = none ∧ fr_ [(101, [5, 4, 7]), (429, [])] T T' ∧ (PL9_ T T' c)
set_option maxHeartbeats 4000000 in
theorem ct_X1_place_e {T : Zt} {c : Int} (h1 : 0 ≤ c ∧ c < 12) (ht : 1 ≤ T 101 0 6 ∧ T 101 0 6 ≤ 13824) (hw : ∀ u, 0 ≤ u → u < 4 → 0 ≤ T 431 0 (c * 4 + u) ∧ T 431 0 (c * 4 + u) ≤ 13824) (hs : T 101 0 6 = swn_ T c (T 101 0 1).toNat) (hdr : 0 ≤ T 101 0 4 ∧ T 101 0 4 ≤ 12) : Ct_ yX1_place zX1_place T [vR 101 0, vI c] (po_X1_place_e T c) := sorry
abbrev po_X1_openNew_e (T : Zt) (g l : Int) : Zt → Option Zv → Prop := fun T' r => r = none ∧ fr_ [(101, [1, 2, 3, 4, 7]), (428, []), (429, []), (430, [])] T T' ∧ (T' 101 0 1 = g ∧ T' 101 0 2 = l ∧ T' 101 0 3 = 0 ∧ T' 101 0 4 = 0 ∧ T' 101 0 7 = 0 ∧ (∀ j, 0 ≤ j → j < 12 → T' 428 0 j = -1 ∧ T' 429 0 j = -1) ∧ ∀ j, 0 ≤ j → j < 3 → T' 430 0 j = 0)
set_option maxHeartbeats 4000000 in
theorem ct_X1_openNew_e {T : Zt} {g l : Int} (h1 : 0 ≤ g ∧ g ≤ 4) (h2 : 0 ≤ l ∧ l ≤ 3) : Ct_ yX1_openNew zX1_openNew T [vR 101 0, vI g, vI l] (po_X1_openNew_e T g l) := sorry
abbrev po_X10_drawing_e (T : Zt) (g l : Int) : Zt → Option Zv → Prop := fun T' r => ∃ x : Int, r = some (vI x) ∧ fr_ [(101, [1, 2, 3, 4, 7]), (428, []), (429, []), (430, [])] T T' ∧ (((x = -3 ∧ ¬ (1 ≤ g ∧ g ≤ 4 ∧ 1 ≤ l ∧ l ≤ 3)) ∨ (x = 1 ∧ 1 ≤ g ∧ g ≤ 4 ∧ 1 ≤ l ∧ l ≤ 3)) ∧ NDH_ T T' g l x)
set_option maxHeartbeats 4000000 in
theorem ct_X10_drawing_e {T : Zt} {g l : Int} : Ct_ yX10_drawing zX10_drawing T [vR 110 0, vI g, vI l] (po_X10_drawing_e T g l) := sorry
abbrev po_X1_putIn_e (T : Zt) (c k : Int) : Zt → Option Zv → Prop := fun T' r => r = none ∧ fr_ [(428, []), (430, []), (101, [3, 7])] T T' ∧ ((T' 428 0 c = k ∧ ∀ j, j ≠ c → T' 428 0 j = T 428 0 j) ∧ (T' 430 0 k = T 430 0 k + 1 ∧ ∀ j, j ≠ k → T' 430 0 j = T 430 0 j) ∧ T' 101 0 3 = T 101 0 3 + 1 ∧ T' 101 0 7 = 0)
set_option maxHeartbeats 4000000 in
theorem ct_X1_putIn_e {T : Zt} {c k : Int} (h1 : 0 ≤ c ∧ c < 12) (h2 : 0 ≤ k ∧ k ≤ 2) (h3 : T 430 0 k < 4) (h4 : 0 ≤ T 101 0 3 ∧ T 101 0 3 ≤ 12) : Ct_ yX1_putIn zX1_putIn T [vR 101 0, vI c, vI k] (po_X1_putIn_e T c k) := sorry
abbrev po_X10_pot_e (T : Zt) (c k : Int) : Zt → Option Zv → Prop := fun T' r => ∃ x : Int, r = some (vI x) ∧ fr_ [(428, []), (430, []), (101, [3, 7])] T T' ∧ (x = x ∧ PTH_ T T' c k x)
set_option maxHeartbeats 4000000 in
theorem ct_X10_pot_e {T : Zt} {c k : Int} (hlo : LOR_ T) : Ct_ yX10_pot zX10_pot T [vR 110 0, vI c, vI k] (po_X10_pot_e T c k) := sorry
abbrev po_X1_waysWith_e (T : Zt) (c g : Int) : Zt → Option Zv → Prop := fun T' r => T = T' ∧ ∃ x : Int, r = some (vI x) ∧ (WW9_ T c g x)
set_option maxHeartbeats 4000000 in
theorem ct_X1_waysWith_e {T : Zt} {c g : Int} (h1 : 0 ≤ c ∧ c < 12) (h2 : 0 ≤ g ∧ g < 4) : Ct_ yX1_waysWith zX1_waysWith T [vR 101 0, vI c, vI g] (po_X1_waysWith_e T c g) := sorry
abbrev po_X10_ways_e (T : Zt) : Zt → Option Zv → Prop := fun T' r => ∃ x : Int, r = some (vI x) ∧ fr_ [(101, [13, 6, 7]), (434, []), (435, []), (431, []), (432, [])] T T' ∧ (x = x ∧ WYH_ T T' x)
set_option maxHeartbeats 4000000 in
theorem ct_X10_ways_e {T : Zt} : Ct_ yX10_ways zX10_ways T [vR 110 0] (po_X10_ways_e T) := sorry
abbrev po_X10_chance_e (T : Zt) (c g : Int) : Zt → Option Zv → Prop := fun T' r => ∃ x : Int, r = some (vI x) ∧ fr_ [(101, [13, 6, 7]), (434, []), (435, []), (431, []), (432, [])] T T' ∧ (x = x ∧ CHH_ T T' c g x)
set_option maxHeartbeats 4000000 in
theorem ct_X10_chance_e {T : Zt} {c g : Int} : Ct_ yX10_chance zX10_chance T [vR 110 0, vI c, vI g] (po_X10_chance_e T c g) := sorry
abbrev po_X10_drawn_e (T : Zt) (c : Int) : Zt → Option Zv → Prop := fun T' r => T = T' ∧ ∃ x : Int, r = some (vI x) ∧ (DWH_ T c x)
set_option maxHeartbeats 4000000 in
theorem ct_X10_drawn_e {T : Zt} {c : Int} : Ct_ yX10_drawn zX10_drawn T [vR 110 0, vI c] (po_X10_drawn_e T c) := sorry
abbrev po_X10_ball_e (T : Zt) (s b : Int) : Zt → Option Zv → Prop := fun T' r => ∃ x : Int, r = some (vI x) ∧ fr_ [(101, [13, 6, 7, 5, 4]), (434, []), (435, []), (431, []), (432, []), (429, [])] T T' ∧ (x = x ∧ BLH_ T T' s b x)
set_option maxHeartbeats 4000000 in
theorem ct_X10_ball_e {T : Zt} {s b : Int} (hlo : LOR_ T) : Ct_ yX10_ball zX10_ball T [vR 110 0, vI s, vI b] (po_X10_ball_e T s b) := sorry
-- the draw's calls of the reference
def PTR_ (T T' : Zt) (c k x : Int) : Prop := (T' = T ∧ ((x = -2 ∧ ¬ (0 ≤ c ∧ c < T 111 0 12)) ∨ ((0 ≤ c ∧ c < T 111 0 12) ∧ x = -3 ∧ ¬ (0 ≤ k ∧ k < 3)) ∨ ((0 ≤ c ∧ c < T 111 0 12) ∧ (0 ≤ k ∧ k < 3) ∧ x = -4 ∧ (T 111 0 98 = 0 ∨ T 301 0 c ≠ -1 ∨ cnz_ (fun j => T 302 0 j) (-1) 12 < 12)) ∨ ((0 ≤ c ∧ c < T 111 0 12) ∧ (0 ≤ k ∧ k < 3) ∧ ¬ (T 111 0 98 = 0 ∨ T 301 0 c ≠ -1 ∨ cnz_ (fun j => T 302 0 j) (-1) 12 < 12) ∧ x = -5 ∧ cnz_ (fun j => T 301 0 j) k 12 = T 111 0 99))) ∨ ((0 ≤ c ∧ c < T 111 0 12) ∧ (0 ≤ k ∧ k < 3) ∧ ¬ (T 111 0 98 = 0 ∨ T 301 0 c ≠ -1 ∨ cnz_ (fun j => T 302 0 j) (-1) 12 < 12) ∧ cnz_ (fun j => T 301 0 j) k 12 ≠ T 111 0 99 ∧ x = cnz_ (fun j => T 301 0 j) k 12 + 1 ∧ (T' 301 0 c = k ∧ ∀ j, j ≠ c → T' 301 0 j = T 301 0 j))
def WYR_ (T T' : Zt) (x : Int) : Prop := (T' = T ∧ T 111 0 98 = 0 ∧ x = -4) ∨ (T 111 0 98 ≠ 0 ∧ (∀ k, T' 302 0 k = T 302 0 k) ∧ x = (nw_ (drw_ T) (-1) (-1) (ll_ T) (gf_ T) : Nat))
def CO9_ (T T' : Zt) (c g x : Int) : Prop := (∀ k, T' 302 0 k = T 302 0 k) ∧ ((T 302 0 c ≠ -1 ∧ ((T 302 0 c = g ∧ x = (nw_ (drw_ T) (-1) (-1) (ll_ T) (gf_ T) : Nat)) ∨ (T 302 0 c ≠ g ∧ x = 0))) ∨ (T 302 0 c = -1 ∧ x = (nw_ (drw_ T) c g (ll_ T) (gf_ T) : Nat)))
def CHR_ (T T' : Zt) (c g x : Int) : Prop := (T' = T ∧ ((x = -2 ∧ ¬ ((0 ≤ c ∧ c < T 111 0 12) ∧ T 111 0 98 ≠ 0 ∧ T 301 0 c ≠ -1)) ∨ (((0 ≤ c ∧ c < T 111 0 12) ∧ T 111 0 98 ≠ 0 ∧ T 301 0 c ≠ -1) ∧ x = -3 ∧ ¬ (0 ≤ g ∧ g < T 111 0 99)))) ∨ (((0 ≤ c ∧ c < T 111 0 12) ∧ T 111 0 98 ≠ 0 ∧ T 301 0 c ≠ -1) ∧ (0 ≤ g ∧ g < T 111 0 99) ∧ CO9_ T T' c g x)
def DWR_ (T : Zt) (c x : Int) : Prop := (x = -2 ∧ ¬ (0 ≤ c ∧ c < T 111 0 12)) ∨ ((0 ≤ c ∧ c < T 111 0 12) ∧ ((T 111 0 98 = 0 ∧ x = -1) ∨ (T 111 0 98 ≠ 0 ∧ x = T 302 0 c)))
def NDR_ (T T' : Zt) (g l x : Int) : Prop := (T' = T ∧ x = -3 ∧ ¬ (1 ≤ g ∧ g ≤ 4 ∧ 1 ≤ l ∧ l ≤ 3)) ∨ ((1 ≤ g ∧ g ≤ 4 ∧ 1 ≤ l ∧ l ≤ 3) ∧ x = 1 ∧ T' 111 0 98 = 1 ∧ T' 111 0 99 = g ∧ T' 111 0 100 = l ∧ ∀ j, 0 ≤ j → j < 12 → T' 301 0 j = -1 ∧ T' 302 0 j = -1)
/-- the least pot of those that wait, below k -/
def LP9_ (T : Zt) (p k : Int) : Prop := ∀ j, 0 ≤ j → j < k → T 301 0 j ≠ -1 → T 302 0 j = -1 → p ≤ T 301 0 j
theorem lp9_s {T : Zt} {p p2 k : Int} (h : LP9_ T p k) (a : p2 ≤ p) (b : T 301 0 k ≠ -1 → T 302 0 k = -1 → p2 ≤ T 301 0 k) : LP9_ T p2 (k + 1) := sorry
noncomputable def BR0_ (T : Zt) : Int := (nw_ (drw_ T) (-1) (-1) (ll_ T) (gf_ T) : Nat)
/-- a ball of the reference -/
def BLR_ (T T' : Zt) (s b x : Int) : Prop := (x = -4 ∧ (∀ k, T' 302 0 k = T 302 0 k) ∧ T' 111 0 103 = T 111 0 103 ∧ (T 111 0 98 = 0 ∨ (∀ j, 0 ≤ j → j < T 111 0 12 → T 301 0 j ≠ -1 → T 302 0 j ≠ -1) ∨ BR0_ T = 0)) ∨ (T 111 0 98 ≠ 0 ∧ BR0_ T ≠ 0 ∧ ∃ s0 p c g : Int, ((b = 0 ∧ s0 = T 111 0 103) ∨ (b ≠ 0 ∧ s0 = s)) ∧ EL_ T p (T 111 0 12) ∧ LP9_ T p (T 111 0 12) ∧ (0 ≤ c ∧ c < T 111 0 12 ∧ T 301 0 c = p ∧ T 302 0 c = -1 ∧ cel_ T p c = (tb9_ (cel_ T p (T 111 0 12)) s0).1) ∧ (0 ≤ g ∧ g ≤ 3) ∧ (sgm_ T c (g - 1) ≤ (tb9_ (BR0_ T) (tb9_ (cel_ T p (T 111 0 12)) s0).2).1 ∧ (tb9_ (BR0_ T) (tb9_ (cel_ T p (T 111 0 12)) s0).2).1 < sgm_ T c g) ∧ T' 111 0 103 = (tb9_ (BR0_ T) (tb9_ (cel_ T p (T 111 0 12)) s0).2).2 ∧ T' 302 0 c = g ∧ (∀ j, j ≠ c → T' 302 0 j = T 302 0 j) ∧ x = 8 * c + g)
abbrev po_X11_pot_e (T : Zt) (cl p : Int) : Zt → Option Zv → Prop := fun T' r => ∃ x : Int, r = some (vI x) ∧ fr_ [(301, [])] T T' ∧ (x = x ∧ PTR_ T T' cl p x)
set_option maxHeartbeats 4000000 in
theorem ct_X11_pot_e {T : Zt} {cl p : Int} : Ct_ yX11_pot zX11_pot T [vR 111 0, vI cl, vI p] (po_X11_pot_e T cl p) := sorry
abbrev po_X11_ways_e (T : Zt) : Zt → Option Zv → Prop := fun T' r => ∃ x : Int, r = some (vI x) ∧ fr_ [(304, []), (305, []), (302, [])] T T' ∧ (x = x ∧ WYR_ T T' x)
set_option maxHeartbeats 4000000 in
theorem ct_X11_ways_e {T : Zt} : Ct_ yX11_ways zX11_ways T [vR 111 0] (po_X11_ways_e T) := sorry
abbrev po_X11_chanceOf_e (T : Zt) (cl g : Int) : Zt → Option Zv → Prop := fun T' r => ∃ x : Int, r = some (vI x) ∧ fr_ [(304, []), (305, []), (302, [])] T T' ∧ (CO9_ T T' cl g x)
set_option maxHeartbeats 4000000 in
theorem ct_X11_chanceOf_e {T : Zt} {cl g : Int} (h1 : 0 ≤ cl ∧ cl < 12) : Ct_ yX11_chanceOf zX11_chanceOf T [vR 111 0, vI cl, vI g] (po_X11_chanceOf_e T cl g) := sorry
abbrev po_X11_chance_e (T : Zt) (cl g : Int) : Zt → Option Zv → Prop := fun T' r => ∃ x : Int, r = some (vI x) ∧ fr_ [(304, []), (305, []), (302, [])] T T' ∧ (x = x ∧ CHR_ T T' cl g x)
set_option maxHeartbeats 4000000 in
theorem ct_X11_chance_e {T : Zt} {cl g : Int} : Ct_ yX11_chance zX11_chance T [vR 111 0, vI cl, vI g] (po_X11_chance_e T cl g) := sorry
abbrev po_X11_drawn_e (T : Zt) (c : Int) : Zt → Option Zv → Prop := fun T' r => T = T' ∧ ∃ x : Int, r = some (vI x) ∧ (DWR_ T c x)
set_option maxHeartbeats 4000000 in
theorem ct_X11_drawn_e {T : Zt} {c : Int} : Ct_ yX11_drawn zX11_drawn T [vR 111 0, vI c] (po_X11_drawn_e T c) := sorry
abbrev po_X11_drawing_e (T : Zt) (g l : Int) : Zt → Option Zv → Prop := fun T' r => ∃ x : Int, r = some (vI x) ∧ fr_ [(111, [98, 99, 100]), (301, []), (302, [])] T T' ∧ (((x = -3 ∧ ¬ (1 ≤ g ∧ g ≤ 4 ∧ 1 ≤ l ∧ l ≤ 3)) ∨ (x = 1 ∧ 1 ≤ g ∧ g ≤ 4 ∧ 1 ≤ l ∧ l ≤ 3)) ∧ NDR_ T T' g l x)
set_option maxHeartbeats 4000000 in
theorem ct_X11_drawing_e {T : Zt} {g l : Int} : Ct_ yX11_drawing zX11_drawing T [vR 111 0, vI g, vI l] (po_X11_drawing_e T g l) := sorry
abbrev po_X11_takenBelow_e (T : Zt) (m : Int) : Zt → Option Zv → Prop := fun T' r => ∃ x : Int, r = some (vI x) ∧ fr_ [(111, [103])] T T' ∧ (x = (tb9_ m (T 111 0 103)).1 ∧ T' 111 0 103 = (tb9_ m (T 111 0 103)).2 ∧ 0 ≤ x ∧ x < m)
set_option maxHeartbeats 4000000 in
theorem ct_X11_takenBelow_e {T : Zt} {m : Int} (h1 : 1 ≤ m ∧ m ≤ 13824) : Ct_ yX11_takenBelow zX11_takenBelow T [vR 111 0, vI m] (po_X11_takenBelow_e T m) := sorry
abbrev po_X11_ball_e (T : Zt) (ta fi : Int) : Zt → Option Zv → Prop := fun T' r => ∃ x : Int, r = some (vI x) ∧ fr_ [(304, []), (305, []), (302, []), (111, [103])] T T' ∧ (x = x ∧ BLR_ T T' ta fi x)
set_option maxHeartbeats 4000000 in
theorem ct_X11_ball_e {T : Zt} {ta fi : Int} : Ct_ yX11_ball zX11_ball T [vR 111 0, vI ta, vI fi] (po_X11_ball_e T ta fi) := sorry
-- the draw, both sides
theorem alk_x {E C f : Int → Int} {x g : Int} {n : Nat} : ∀ m : Nat, (∀ k : Int, n ≤ k → k < m → E k = -1) → n ≤ m → alk_ E C f x g m = alk_ E C f x g n := sorry
theorem alk_c {E C f E2 C2 f2 : Int → Int} {x g : Int} (hx : C2 x = C x) : ∀ n : Nat, (∀ k : Int, 0 ≤ k → k < n → E2 k = E k ∧ f2 k = f k ∧ (E k ≠ -1 → C2 k = C k)) → alk_ E2 C2 f2 x g n = alk_ E C f x g n := sorry
/-- two draws that differ in nothing that counts -/
def DS9_ (d d2 : Dr_) : Prop := (0 ≤ d.n ∧ d.n ≤ d2.n) ∧ (∀ k, 0 ≤ k → k < d.n → d2.E k = d.E k ∧ (d.E k ≠ -1 → d2.C k = d.C k)) ∧ (∀ k, d.n ≤ k → k < d2.n → d2.E k = -1) ∧ d2.G = d.G ∧ d2.L = d.L
theorem ms_c {d d2 : Dr_} {f f2 : Int → Int} {x g : Int} (h : DS9_ d d2) (hf : ∀ k, 0 ≤ k → k < d.n → f2 k = f k) (hx : 0 ≤ x ∧ x < d.n) (he : d.E x ≠ -1) : ms_ d2 f2 x g ↔ ms_ d f x g := sorry
theorem nw_c {d d2 : Dr_} {fx gp : Int} (h : DS9_ d d2) : ∀ (l : List Int) (f f2 : Int → Int), (∀ z ∈ l, (0 ≤ z ∧ z < d.n) ∧ d.E z ≠ -1) → (∀ k, 0 ≤ k → k < d.n → f2 k = f k) → nw_ d2 fx gp l f2 = nw_ d fx gp l f := sorry
theorem lpk_x {E b : Int → Int} {p : Int} {n : Nat} : ∀ m : Nat, (∀ k : Int, n ≤ k → k < m → E k ≠ p) → n ≤ m → lpk_ E b p m = lpk_ E b p n := sorry
theorem lpk_c {E b E2 b2 : Int → Int} {p : Int} : ∀ n : Nat, (∀ k : Int, 0 ≤ k → k < n → E2 k = E k ∧ b2 k = b k) → lpk_ E2 b2 p n = lpk_ E b p n := sorry
theorem lq_c {E b E2 b2 : Int → Int} {n m : Nat} (hn : n ≤ m) (h : ∀ k : Int, 0 ≤ k → k < n → E2 k = E k ∧ b2 k = b k) (z : ∀ k : Int, n ≤ k → k < m → E2 k = -1) : ∀ p : Nat, lq_ E2 b2 m p = lq_ E b n p := sorry
section DRW
variable {T : Zt}
/-- both sides' lists, ways -/
theorem lor_l (h : LOR_ T) (hl : LH_ T) (hn : T 108 0 2 = T 111 0 12) (hb : 0 ≤ T 108 0 2 ∧ T 108 0 2 ≤ 12) : lhw_ T = ll_ T := sorry
theorem lor_n (h : LOR_ T) (hl : LH_ T) (th : THR_ T) (hn : T 108 0 2 = T 111 0 12) (hb : 0 ≤ T 108 0 2 ∧ T 108 0 2 ≤ 12) (fx gp : Int) : nw_ (dh_ T) fx gp (lhw_ T) (ghw_ T) = nw_ (drw_ T) fx gp (ll_ T) (gf_ T) := sorry
/-- the same, of the things with index 0 -/
def kz_ (F : List (Nat × List Int)) (T T' : Zt) : Prop := ∀ k j, fw_ F k j = true → T' k 0 j = T k 0 j
theorem kz_s {F G : List (Nat × List Int)} {T T' : Zt} (h : kz_ G T T') (s : fs_ F G = true) : kz_ F T T' := sorry
theorem kz_o {F : List (Nat × List Int)} {T T' : Zt} (h : ks_ F T T') : kz_ F T T' := sorry
theorem fw_3 {k : Nat} {j : Int} (n : k ≠ 302) (h : fw_ [(304, []), (305, [])] k j = false) : fw_ [(304, []), (305, []), (302, [])] k j = false := sorry
theorem kz_3 {F : List (Nat × List Int)} {T T' : Zt} (f : fr_ [(304, []), (305, []), (302, [])] T T') (e : ∀ j, T' 302 0 j = T 302 0 j) (d : dj_ [(304, []), (305, [])] F = true) : kz_ F T T' := sorry
/-- the house's own words under a frame -/
theorem lhw_k {T' : Zt} (h : LH_ T) (k : kz_ [(101, [1, 2, 3, 4, 6, 7, 13]), (108, [2]), (428, []), (429, []), (430, []), (431, []), (432, []), (561, [])] T T') : LH_ T' := sorry
theorem lor_k {T' : Zt} (h : LOR_ T) (k : kz_ [(101, [1, 2, 3, 4, 5, 6, 7, 13]), (108, [2]), (428, []), (429, []), (430, []), (431, []), (432, []), (561, []), (111, [98, 99, 100, 103]), (301, []), (302, [])] T T') : LOR_ T' := sorry
/-- a new club is in no draw -/
theorem lor_c {T' : Zt} {n : Int} (h : LOR_ T) (hn : T 108 0 2 = n) (k : kz_ [(101, [1, 2, 3, 4, 5, 6, 7, 13]), (428, []), (429, []), (430, []), (431, []), (432, []), (111, [98, 99, 100, 103]), (301, []), (302, [])] T T') (g1 : n ≤ T' 108 0 2) (g2 : ∀ j, j ≠ n → T' 561 0 j = T 561 0 j) (g3 : 0 ≤ n) : LOR_ T' := sorry
/-- the counts are fresh -/
theorem lor_r {T1 : Zt} (h : LOR_ T) (hg : T 101 0 1 ≠ 0) (f : fr_ [(101, [13, 6, 7]), (434, []), (435, []), (431, []), (432, [])] T T1) (r : RFP_ T T1) : LOR_ T1 ∧ LH_ T1 ∧ FV_ T1 := sorry
theorem lor_3 {T' : Zt} (h : LOR_ T) (f : fr_ [(304, []), (305, []), (302, [])] T T') (e : ∀ j, T' 302 0 j = T 302 0 j) : LOR_ T' := sorry
end DRW
/-- a new draw, both sides -/
theorem lor_d {T T1 T2 : Zt} {g l x1 x2 : Int} (h : LOR_ T) (hc : 0 ≤ T 108 0 2) (d1 : NDH_ T T1 g l x1) (f1 : fr_ [(101, [1, 2, 3, 4, 7]), (428, []), (429, []), (430, [])] T T1) (d2 : NDR_ T1 T2 g l x2) (f2 : fr_ [(111, [98, 99, 100]), (301, []), (302, [])] T1 T2) : x1 = x2 ∧ LOR_ T2 := sorry
/-- a club comes into a pot, both sides -/
theorem lor_p {T T1 T2 : Zt} {c k x1 x2 : Int} (h : LOR_ T) (hn : T 108 0 2 = T 111 0 12) (hb : T 108 0 2 ≤ 12) (d1 : PTH_ T T1 c k x1) (f1 : fr_ [(428, []), (430, []), (101, [3, 7])] T T1) (d2 : PTR_ T1 T2 c k x2) (f2 : fr_ [(301, [])] T1 T2) : x1 = x2 ∧ LOR_ T2 := sorry
/-- ways, both sides -/
theorem lor_w {T T1 T2 : Zt} {x1 x2 : Int} (h : LOR_ T) (hn : T 108 0 2 = T 111 0 12) (hb : 0 ≤ T 108 0 2 ∧ T 108 0 2 ≤ 12) (d1 : WYH_ T T1 x1) (f1 : fr_ [(101, [13, 6, 7]), (434, []), (435, []), (431, []), (432, [])] T T1) (th : THR_ T1) (d2 : WYR_ T1 T2 x2) (f2 : fr_ [(304, []), (305, []), (302, [])] T1 T2) : x1 = x2 ∧ LOR_ T2 := sorry
/-- chance, both sides -/
theorem lor_h {T T1 T2 : Zt} {c g x1 x2 : Int} (h : LOR_ T) (hn : T 108 0 2 = T 111 0 12) (hb : 0 ≤ T 108 0 2 ∧ T 108 0 2 ≤ 12) (hE : ∀ j, 0 ≤ j → -1 ≤ T 428 0 j ∧ T 428 0 j ≤ 2) (hG : T 101 0 1 ≤ 4) (d1 : CHH_ T T1 c g x1) (f1 : fr_ [(101, [13, 6, 7]), (434, []), (435, []), (431, []), (432, [])] T T1) (th : THR_ T1) (d2 : CHR_ T1 T2 c g x2) (f2 : fr_ [(304, []), (305, []), (302, [])] T1 T2) : x1 = x2 ∧ LOR_ T2 := sorry
/-- drawn, both sides -/
theorem lor_q {T : Zt} {c x1 x2 : Int} (h : LOR_ T) (hn : T 108 0 2 = T 111 0 12) (hb : T 108 0 2 ≤ 12) (d1 : DWH_ T c x1) (d2 : DWR_ T c x2) : x1 = x2 := sorry
theorem fw_4 {k : Nat} {j : Int} (n : k ≠ 302) (m : ¬ (k = 111 ∧ j = 103)) (h : fw_ [(304, []), (305, [])] k j = false) : fw_ [(304, []), (305, []), (302, []), (111, [103])] k j = false := sorry
theorem kz_4 {F : List (Nat × List Int)} {T T' : Zt} (f : fr_ [(304, []), (305, []), (302, []), (111, [103])] T T') (e : ∀ j, T' 302 0 j = T 302 0 j) (e2 : T' 111 0 103 = T 111 0 103) (d : dj_ [(304, []), (305, [])] F = true) : kz_ F T T' := sorry
theorem cen_e {T T1 : Zt} {p : Int} (a : ∀ k, T1 301 0 k = T 301 0 k) (b : ∀ k, T1 302 0 k = T 302 0 k) : ∀ n : Nat, cen_ T1 p n = cen_ T p n := sorry
/-- a ball of the reference, told by another picture with the same reference -/
theorem blr_t {T T1 T2 : Zt} {s b x : Int} (a : ∀ k, T1 301 0 k = T 301 0 k) (c : ∀ k, T1 302 0 k = T 302 0 k) (d : ∀ k, T1 214 0 k = T 214 0 k) (e : ∀ j, T1 111 0 j = T 111 0 j) (h : BLR_ T1 T2 s b x) : BLR_ T T2 s b x := sorry
theorem cen_l {T : Zt} {p : Int} : ∀ n : Nat, cen_ T p n = ((lpk_ (fun k => T 301 0 k) (gf_ T) p n).length : Int) := sorry
theorem lpk_g {E b : Int → Int} {p : Int} {n : Nat} : ∀ m : Nat, n ≤ m → (lpk_ E b p n).length ≤ (lpk_ E b p m).length := sorry
theorem lpk_u {E b : Int → Int} {p c c2 : Int} (h0 : 0 ≤ c) (h1 : E c = p ∧ b c = -1) (h : c < c2) : (lpk_ E b p c.toNat).length < (lpk_ E b p c2.toNat).length := sorry
theorem wl_a {T : Zt} {r : List Int} : ∀ {l : List Int} {k : Int}, WL_ T (l ++ r) k → WB_ T l k ∧ WL_ T r (k + (l.length : Int)) := sorry
theorem wb_a {T : Zt} {r : List Int} : ∀ {l : List Int} {k : Int}, WB_ T (l ++ r) k → WB_ T l k ∧ WB_ T r (k + (l.length : Int)) := sorry
theorem wb_i {T : Zt} : ∀ {l : List Int} {k i : Int}, WB_ T l k → 0 ≤ i → i < (l.length : Int) → T 432 0 (k + i) ∈ l := sorry
/-- the w-th of a pot stands behind w of them -/
theorem lpk_w {T : Zt} {E b : Int → Int} {p : Int} : ∀ n : Nat, WB_ T (lpk_ E b p n) 0 → ∀ w, 0 ≤ w → w < ((lpk_ E b p n).length : Int) → ((lpk_ E b p (T 432 0 w).toNat).length : Int) = w := sorry
theorem cnz_m {f : Int → Int} {v : Int} {m : Nat} : ∀ n : Nat, m ≤ n → (∀ k : Int, 0 ≤ k → k < m → f k = v) → (∀ k : Int, m ≤ k → k < n → f k ≠ v) → cnz_ f v n = m := sorry
theorem lq_p {E b : Int → Int} {p : Int} (hp : 0 ≤ p ∧ p ≤ 2) (hl : ∀ q, 0 ≤ q → q < p → lpk_ E b q 12 = []) : ∃ R, lq_ E b 12 3 = lpk_ E b p 12 ++ R ∧ ∀ z ∈ R, E z ≠ p := sorry
/-- the first pot that waits, how many are in it, and its w-th club -/
theorem who_ {T : Zt} {E b : Int → Int} {p : Int} (hE : ∀ k, T 428 0 k = E k) (hw : WL_ T (lq_ E b 12 3) 0) (hp : 0 ≤ p ∧ p ≤ 2) (hl : ∀ q, 0 ≤ q → q < p → lpk_ E b q 12 = []) (hn : 0 < (lpk_ E b p 12).length) : T 428 0 (T 432 0 0) = p ∧ cpw_ T p (T 101 0 13).toNat = ((lpk_ E b p 12).length : Int) ∧ ∀ w, 0 ≤ w → w < ((lpk_ E b p 12).length : Int) → (0 ≤ T 432 0 w ∧ T 432 0 w < 12 ∧ E (T 432 0 w) = p ∧ b (T 432 0 w) = -1) ∧ ((lpk_ E b p (T 432 0 w).toNat).length : Int) = w := sorry
theorem swn_m {T : Zt} {c i : Int} (h : ∀ u, 0 ≤ u → u < 4 → 0 ≤ T 431 0 (c * 4 + u)) (h0 : 0 ≤ i) : ∀ n : Nat, i + n ≤ 4 → swn_ T c i.toNat ≤ swn_ T c (i + n).toNat := sorry
theorem swn_g {T U : Zt} {c : Int} (e : ∀ u, 0 ≤ u → u < 4 → U 431 0 (c * 4 + u) = (nw_ (drw_ T) c u (ll_ T) (gf_ T) : Nat)) {g : Int} (hg : 0 ≤ g ∧ g ≤ 3) : swn_ U c g.toNat = sgm_ T c (g - 1) ∧ swn_ U c (g + 1).toNat = sgm_ T c g := sorry
/-- a ball, both sides -/
theorem lor_b {T T1 T2 : Zt} {s b x1 x2 : Int} (h : LOR_ T) (hn : T 108 0 2 = T 111 0 12) (hb : 0 ≤ T 108 0 2 ∧ T 108 0 2 ≤ 12) (hE : ∀ j, 0 ≤ j → -1 ≤ T 428 0 j ∧ T 428 0 j ≤ 2) (hC : ∀ j, 0 ≤ j → 0 ≤ T 561 0 j ∧ T 561 0 j ≤ 7) (hG : 0 ≤ T 101 0 1 ∧ T 101 0 1 ≤ 4) (th : THR_ T) (d1 : BLH_ T T1 s b x1) (f1 : fr_ [(101, [13, 6, 7, 5, 4]), (434, []), (435, []), (431, []), (432, []), (429, [])] T T1) (d2 : BLR_ T1 T2 s b x2) (f2 : fr_ [(304, []), (305, []), (302, []), (111, [103])] T1 T2) : x1 = x2 ∧ LOR_ T2 := sorry
