abbrev po_J7_fill_584 (T : Zt) (p : Int) (v : Int) : Zt → Option Zv → Prop := fun T' r => r = none ∧ fr_ [(584, [])] T T' ∧ oi_ T T' p ∧ ∀ j, 0 ≤ j → j < 400 → T' 584 p j = v
set_option maxHeartbeats 4000000 in
theorem ct_J7_fill_584 {T : Zt} {p : Int} {v : Int} (h1 : (-2147483648) ≤ v ∧ v ≤ 2147483647) : Ct_ yJ7_fill_53178 zJ7_fill_53178 T [vR 584 p, vI v] (po_J7_fill_584 T p v) := by
  refine ct_of (by decide) rfl rfl (Nat.le_of_ble_eq_true rfl) (fun hT hav => ?_)
  have hr_v : -2147483648 ≤ v ∧ v ≤ 2147483647 := hav (vI v) (List.mem_cons_of_mem _ List.mem_cons_self)
  have hz : zJ7_fill_53178.2.2.2.1 = some .boolean → ∀ (T' : Zt) (x : Int), po_J7_fill_584 T p v T' (some (vI x)) → 0 ≤ x ∧ x ≤ 1 := fun h => by cases h
  show J_ zJ7_fill_53178 T (po_J7_fill_584 T p v) 0 0 0 [some (vR 584 p), some (vI v), none, none] [] T
  have c_5 : ∀ (nn : Nat) (j : Int) (T1 : Zt), ((400 - j).toNat) ≤ nn → (fr_ [(584, [])] T T1) → (0 ≤ j ∧ j ≤ 400) → (oi_ T T1 p) → (∀ q, 0 ≤ q → q < j → T1 584 p q = v) → J_ zJ7_fill_53178 T (po_J7_fill_584 T p v) 0 0 5 [some (vR 584 p), some (vI v), some (vI j), some (vI 400)] [] T1 := by
    intro nn
    induction nn using Nat.strongRecOn with
    | _ nn ih_5 =>
      intro j T1 hm_5 hf_5 i1 o1 f1
      replace hm_5 := fun (_ : Unit) => hm_5
      refine j_blx (F := fJ7) tb_J7 (nn_ _) bk_J7_fill_53178_5 bs_J7_fill_53178_5 hz (fun K hK => ?_)
      refine And.intro (fun c1 => ?_) (fun c1 => ?_)
      · refine hK 20 _ [] T1 ?_
        refine j_blx (F := fJ7) tb_J7 (nn_ _) bk_J7_fill_53178_20 bs_J7_fill_53178_20 hz (fun K hK => ?_)
        refine (show po_J7_fill_584 T p v T1 (none) from ?_)
        exact ⟨rfl, fr_t (fr_0 _ _) (fr_s hf_5 rfl), o1, fun q a b => f1 q a (by omega)⟩
      · refine iy_i (by omega) (by omega) ?_
        refine x_nm (fun U2 hU2 => ?_)
        have e3 := up_f hU2
        refine rg_i (by omega) ?_
        refine hK 5 [some (vR 584 p), some (vI v), some (vI (j + 1)), some (vI 400)] [] U2 ?_
        refine ih_5 _ ?_ (j + 1) U2 (Nat.le_refl _) ?_ ?_ ?_ ?_
        · have hm_5 := hm_5 (); omega
        · exact fr_u (fr_t (fr_0 _ _) (fr_s hf_5 rfl)) hU2 rfl
        · omega
        · exact oi_u o1 hU2
        · intro q a b
          by_cases z : q = j
          · rw [z]; exact up_f hU2
          · rw [up_g hU2 (fun y => z y.2.2)]; exact f1 q a (by omega)
  refine j_blx (F := fJ7) tb_J7 (nn_ _) bk_J7_fill_53178_0 bs_J7_fill_53178_0 hz (fun K hK => ?_)
  refine hK 5 [some (vR 584 p), some (vI v), some (vI 0), some (vI 400)] [] T ?_
  refine c_5 _ 0 T (Nat.le_refl _) ?_ ?_ ?_ ?_
  · exact fr_0 _ _
  · omega
  · exact oi_r
  · intro q a b; omega
def KW_ (T : Zt) : Prop := ∀ c : Int, 0 ≤ c → c < T 106 0 2 → T 401 c 2 ≤ T 401 c 1
theorem KW__f {ws : List (Nat × List Int)} {T T' : Zt} (h : KW_ T) (f : fr_ ws T T') (w : (∀ j, fw_ ws 401 j = false) ∧ fw_ ws 106 2 = false ∧ True) : KW_ T' := by
  have e0 : ∀ i j, T' 401 i j = T 401 i j := fun i j => f 401 i j (w.1 j)
  have e1 : ∀ i, T' 106 i 2 = T 106 i 2 := fun i => f 106 i 2 w.2.1
  simp only [KW_, e0, e1] at h ⊢
  exact h
theorem q9_of {T U : Zt} {c : Int} (hU : ok_T U) (hks : KS_ T) (hkc : KC_ T) (h0 : 0 ≤ c ∧ c < T 106 0 2) (hc : U 109 0 5 = c + 1) (hb : 0 ≤ T 100 c 7) (ol : ∀ j : Int, 0 ≤ j → j < U 109 0 9 → T 100 c 7 ≤ U 588 0 j ∧ U 588 0 j < T 100 c 7 + T 100 c 8) (e1 : ∀ i j, U 102 i j = T 102 i j) (e2 : ∀ i j, U 404 i j = T 404 i j) (e3 : U 106 0 4 = T 106 0 4) : Q9_ U := by
  refine ⟨by omega, fun k a b => ?_⟩
  have h1 := ol k a b
  have h2 := hks c h0.1 h0.2 (U 588 0 k) h1.1 h1.2
  have h3 := hkc c h0.1 h0.2
  have hb1 : ∀ i j : Int, 0 ≤ j → U 404 i j ≤ 11 := fun i j hj => (bd_a hU 404 (by decide +kernel : ta_ 404 = some (1, some 12, -1, 11)) i hj).2
  have hh : ∀ i, 0 ≤ U 102 i 3 := fun i => (bd_f hU 102 3 tl_2_3 i).1
  have ha : ∀ i, 0 ≤ U 102 i 4 := fun i => (bd_f hU 102 4 tl_2_4 i).1
  unfold hsx_ asx_
  rw [hc, show c + 1 - 1 = c by omega]
  refine ⟨⟨by omega, by omega⟩, ⟨?_, hb1 _ _ (hh _)⟩, ?_, hb1 _ _ (ha _)⟩
  · rw [e1, e2]; exact h2.2.1
  · rw [e1, e2]; exact h2.2.2
abbrev cX9_ask : ByteArray := prog_11_method_2_code
def yX9_ask : MethodName := ⟨RX9, "ask", "(LSportsHouse$Competition;I)I"⟩
def zX9_ask : Zm := (RX9, cX9_ask, 4, (some .int), { frames := 10, cells := 1, slots := 4096, locals := 280 })
set_option maxRecDepth 100000 in
theorem cl_X9_73 : cv_ RX9 73 yX9_takePoints zX9_takePoints 9 1 := ⟨gi_V (lwq_6 (dqc_m (dqa_m (List.mem_of_getElem? (i := 2) rfl))) rfl : Cond.methodLink RX9 73 yX9_takePoints ∈ lw_g) (lwq_6 (dqc_m (dqa_m (List.mem_of_getElem? (i := 4) rfl))) rfl : Cond.instanceMethod yX9_takePoints ∈ lw_g) (lw_sel 149 rfl : Cond.selects yX9_takePoints.cls yX9_takePoints yX9_takePoints ∈ lw_g) (lwq_1 (List.mem_of_getElem? (i := 6) rfl) rfl : Cond.initialized yX9_takePoints.cls ∈ lw_g) (lwq_6 (dqc_m (dqa_m (List.mem_of_getElem? (i := 5) rfl))) rfl : Cond.code yX9_takePoints cX9_takePoints 6 none ∈ lw_g), ⟨nmh_8.1, nmh_8.2, pdq_9⟩, ⟨_, _, rfl⟩⟩
set_option maxRecDepth 100000 in
theorem cl_X9_88 : cv_ RX9 88 yX9_noneAbove zX9_noneAbove 9 1 := ⟨gi_V (lwq_6 (dqc_m (dqc_m (dqa_m (dqa_m (dqa_m (List.mem_of_getElem? (i := 3) rfl)))))) rfl : Cond.methodLink RX9 88 yX9_noneAbove ∈ lw_g) (lwq_6 (dqc_m (dqc_m (dqa_m (dqa_m (dqa_m (List.mem_of_getElem? (i := 5) rfl)))))) rfl : Cond.instanceMethod yX9_noneAbove ∈ lw_g) (lw_sel 141 rfl : Cond.selects yX9_noneAbove.cls yX9_noneAbove yX9_noneAbove ∈ lw_g) (lwq_1 (List.mem_of_getElem? (i := 6) rfl) rfl : Cond.initialized yX9_noneAbove.cls ∈ lw_g) (lwq_6 (dqc_m (dqc_m (dqa_m (dqa_m (dqa_m (List.mem_of_getElem? (i := 6) rfl)))))) rfl : Cond.code yX9_noneAbove cX9_noneAbove 3 (some .boolean) ∈ lw_g), ⟨nmh_8.1, nmh_8.2, pdq_7⟩, ⟨_, _, rfl⟩⟩
set_option maxRecDepth 100000 in
theorem cl_X9_91_zX9_search_8 : cv_ RX9 91 yX9_search zX9_search_8 9 1 := ⟨gi_V (lwq_6 (dqc_m (dqc_m (dqa_m (dqa_m (dqa_m (List.mem_of_getElem? (i := 7) rfl)))))) rfl : Cond.methodLink RX9 91 yX9_search ∈ lw_g) (lwq_6 (dqc_m (dqc_m (dqc_m (List.mem_of_getElem? (i := 1) rfl)))) rfl : Cond.instanceMethod yX9_search ∈ lw_g) (lw_sel 144 rfl : Cond.selects yX9_search.cls yX9_search yX9_search ∈ lw_g) (lwq_1 (List.mem_of_getElem? (i := 6) rfl) rfl : Cond.initialized yX9_search.cls ∈ lw_g) (lwq_6 (dqc_m (dqc_m (dqc_m (List.mem_of_getElem? (i := 2) rfl)))) rfl : Cond.code yX9_search cX9_search 9 (some .boolean) ∈ lw_g), ⟨nmh_8.1, nmh_8.2, pdq_7⟩, ⟨_, _, rfl⟩⟩
set_option maxRecDepth 100000 in
theorem cl_X9_77 : cv_ RX9 77 yX9_setCaps zX9_setCaps 9 1 := ⟨gi_V (lwq_6 (dqc_m (dqa_m (List.mem_of_getElem? (i := 7) rfl))) rfl : Cond.methodLink RX9 77 yX9_setCaps ∈ lw_g) (lwq_6 (dqc_m (dqa_m (dqa_m (List.mem_of_getElem? (i := 1) rfl)))) rfl : Cond.instanceMethod yX9_setCaps ∈ lw_g) (lw_sel 145 rfl : Cond.selects yX9_setCaps.cls yX9_setCaps yX9_setCaps ∈ lw_g) (lwq_1 (List.mem_of_getElem? (i := 6) rfl) rfl : Cond.initialized yX9_setCaps.cls ∈ lw_g) (lwq_6 (dqc_m (dqa_m (dqa_m (List.mem_of_getElem? (i := 2) rfl)))) rfl : Cond.code yX9_setCaps cX9_setCaps 6 none ∈ lw_g), ⟨nmh_8.1, nmh_8.2, pdq_9⟩, ⟨_, _, rfl⟩⟩
set_option maxRecDepth 100000 in
theorem cl_X9_80 : cv_ RX9 80 yX9_spreadParts zX9_spreadParts 9 1 := ⟨gi_V (lwq_6 (dqc_m (dqa_m (dqa_m (List.mem_of_getElem? (i := 3) rfl)))) rfl : Cond.methodLink RX9 80 yX9_spreadParts ∈ lw_g) (lwq_6 (dqc_m (dqa_m (dqa_m (List.mem_of_getElem? (i := 5) rfl)))) rfl : Cond.instanceMethod yX9_spreadParts ∈ lw_g) (lw_sel 147 rfl : Cond.selects yX9_spreadParts.cls yX9_spreadParts yX9_spreadParts ∈ lw_g) (lwq_1 (List.mem_of_getElem? (i := 6) rfl) rfl : Cond.initialized yX9_spreadParts.cls ∈ lw_g) (lwq_6 (dqc_m (dqa_m (dqa_m (List.mem_of_getElem? (i := 6) rfl)))) rfl : Cond.code yX9_spreadParts cX9_spreadParts 5 (some .boolean) ∈ lw_g), ⟨nmh_8.1, nmh_8.2, pdq_7⟩, ⟨_, _, rfl⟩⟩
set_option maxRecDepth 100000 in
theorem cl_X9_84 : cv_ RX9 84 yX9_leastCut zX9_leastCut 9 1 := ⟨gi_V (lwq_6 (dqc_m (dqc_m (dqa_m (List.mem_of_getElem? (i := 7) rfl)))) rfl : Cond.methodLink RX9 84 yX9_leastCut ∈ lw_g) (lwq_6 (dqc_m (dqc_m (dqa_m (dqa_m (List.mem_of_getElem? (i := 1) rfl))))) rfl : Cond.instanceMethod yX9_leastCut ∈ lw_g) (lw_sel 139 rfl : Cond.selects yX9_leastCut.cls yX9_leastCut yX9_leastCut ∈ lw_g) (lwq_1 (List.mem_of_getElem? (i := 6) rfl) rfl : Cond.initialized yX9_leastCut.cls ∈ lw_g) (lwq_6 (dqc_m (dqc_m (dqa_m (dqa_m (List.mem_of_getElem? (i := 2) rfl))))) rfl : Cond.code yX9_leastCut cX9_leastCut 7 (some .int) ∈ lw_g), ⟨nmh_8.1, nmh_8.2, pdq_15⟩, ⟨_, _, rfl⟩⟩
set_option maxRecDepth 100000 in
theorem cl_X9_69 : cv_ RX9 69 yX9_listOpen zX9_listOpen 9 2 := ⟨gi_V (lwq_6 (dqc_m (List.mem_of_getElem? (i := 4) rfl)) rfl : Cond.methodLink RX9 69 yX9_listOpen ∈ lw_g) (lwq_6 (dqc_m (List.mem_of_getElem? (i := 6) rfl)) rfl : Cond.instanceMethod yX9_listOpen ∈ lw_g) (lw_sel 140 rfl : Cond.selects yX9_listOpen.cls yX9_listOpen yX9_listOpen ∈ lw_g) (lwq_1 (List.mem_of_getElem? (i := 6) rfl) rfl : Cond.initialized yX9_listOpen.cls ∈ lw_g) (lwq_6 (dqc_m (List.mem_of_getElem? (i := 7) rfl)) rfl : Cond.code yX9_listOpen cX9_listOpen 5 (some .boolean) ∈ lw_g), ⟨nmh_8.1, nmh_8.2, pdq_5⟩, ⟨_, _, rfl⟩⟩
abbrev cX10_can : ByteArray := prog_1_method_32_code
def yX10_can : MethodName := ⟨RX10, "can", "(II)I"⟩
def zX10_can : Zm := (RX10, cX10_can, 4, (some .int), { frames := 11, cells := 1, slots := 4096, locals := 303 })
set_option maxRecDepth 100000 in
theorem cl_X10_365 : cv_ RX10 365 yX9_ask zX9_ask 9 2 := ⟨gi_V (lwq_6 (dqc_m (List.mem_of_getElem? (i := 0) rfl)) rfl : Cond.methodLink RX10 365 yX9_ask ∈ lw_g) (lwq_6 (dqc_m (List.mem_of_getElem? (i := 1) rfl)) rfl : Cond.instanceMethod yX9_ask ∈ lw_g) (lwq_6 (dqc_m (List.mem_of_getElem? (i := 2) rfl)) rfl : Cond.selects yX9_ask.cls yX9_ask yX9_ask ∈ lw_g) (lwq_1 (List.mem_of_getElem? (i := 6) rfl) rfl : Cond.initialized yX9_ask.cls ∈ lw_g) (lwq_6 (dqc_m (List.mem_of_getElem? (i := 3) rfl)) rfl : Cond.code yX9_ask cX9_ask 4 (some .int) ∈ lw_g), ⟨nmh_8.1, nmh_8.2, pdq_24⟩, ⟨_, _, rfl⟩⟩
abbrev po_X10_can (T : Zt) (c b : Int) : Zt → Option Zv → Prop := fun T' r => ∃ x : Int, r = some (vI x) ∧ fr_ [(109, [5, 3, 9, 6, 2, 15]), (584, []), (588, []), (587, []), (591, []), (592, []), (590, []), (593, []), (594, []), (107, [1]), (542, []), (543, []), (544, []), (545, []), (546, []), (190, []), (191, [0])] T T' ∧ (T' 109 0 15 ≠ 0 → T' 190 (T' 109 0 15 - 1) (-2) = 4096 ∧ 1 ≤ T' 109 0 15) ∧ lh_ T T' ∧ T' 191 0 0 ≤ T 191 0 0 + 1
/-- those that wait are in a pot -/
def LW8_ (T : Zt) : Prop := ∀ j : Int, 0 ≤ j → j < T 101 0 13 → 0 ≤ T 428 0 (T 432 0 j)
theorem LW8_f {ws : List (Nat × List Int)} {T T' : Zt} (h : LW8_ T) (f : fr_ ws T T') (w : fw_ ws 101 13 = false ∧ (∀ j, fw_ ws 428 j = false) ∧ ∀ j, fw_ ws 432 j = false) : LW8_ T' := fun j a b => by
  rw [f 101 0 _ w.1] at b
  rw [f 432 0 j (w.2.2 j), f 428 0 _ (w.2.1 _)]
  exact h j a b
def cn8_ (f : Int → Bool) : Nat → Nat
  | 0 => 0
  | n + 1 => cn8_ f n + (if f (n : Int) = true then 1 else 0)
theorem cn8_2 {f g : Int → Bool} (h : ∀ x, ¬ (f x = true ∧ g x = true)) : ∀ n, cn8_ f n + cn8_ g n ≤ n
  | 0 => Nat.le_refl _
  | n + 1 => by
    have ih := cn8_2 h n
    have h1 := h n
    unfold cn8_
    by_cases a : f n = true
    · have b : ¬ g n = true := fun b => h1 ⟨a, b⟩
      rw [if_pos a, if_neg b]
      omega
    · rw [if_neg a]
      split <;> omega
theorem cn8_3 {f g k : Int → Bool} (h : ∀ x, ¬ (f x = true ∧ g x = true)) (e : ∀ x, k x = true ↔ (f x = true ∨ g x = true)) : ∀ n, cn8_ f n + cn8_ g n = cn8_ k n
  | 0 => rfl
  | n + 1 => by
    have ih := cn8_3 h e n
    have h1 := h n
    have h2 := e n
    unfold cn8_
    by_cases a : f n = true
    · have b : ¬ g n = true := fun b => h1 ⟨a, b⟩
      rw [if_pos a, if_neg b, if_pos (h2.mpr (Or.inl a))]
      omega
    · by_cases b : g n = true
      · rw [if_neg a, if_pos b, if_pos (h2.mpr (Or.inr b))]
        omega
      · rw [if_neg a, if_neg b, if_neg (fun q => (h2.mp q).elim a b)]
        omega
theorem cn8_m {f : Int → Bool} : ∀ {a b : Nat}, a ≤ b → cn8_ f a ≤ cn8_ f b
  | a, 0, h => by rw [show a = 0 by omega]; exact Nat.le_refl _
  | a, b + 1, h => by
    by_cases z : a = b + 1
    · rw [z]; exact Nat.le_refl _
    · have := cn8_m (f := f) (a := a) (b := b) (by omega)
      show _ ≤ cn8_ f b + _
      omega
/-- how many may wait before club c of pot p is looked at -/
def cw8_ (w : Int → Int) (p c : Int) : Int := (cn8_ (fun x => decide (0 ≤ w x ∧ w x < p)) 12 : Int) + (cn8_ (fun x => decide (w x = p)) c.toNat : Int)
theorem cw8_s {w : Int → Int} {p c : Int} (hp : 0 ≤ p) (hc : 0 ≤ c ∧ c < 12) (h : w c = p) : cw8_ w p (c + 1) = cw8_ w p c + 1 ∧ cw8_ w p (c + 1) ≤ 12 := by
  have e : (c + 1).toNat = c.toNat + 1 := by omega
  have h1 : cw8_ w p (c + 1) = cw8_ w p c + 1 := by
    unfold cw8_
    rw [e]
    show _ + ((cn8_ _ c.toNat + (if decide (w ((c.toNat : Nat) : Int) = p) = true then 1 else 0) : Nat) : Int) = _
    rw [show ((c.toNat : Nat) : Int) = c by omega, if_pos (by rw [decide_eq_true_iff]; exact h)]
    omega
  refine ⟨h1, ?_⟩
  have h2 := cn8_2 (f := fun x => decide (0 ≤ w x ∧ w x < p)) (g := fun x => decide (w x = p)) (fun x => by simp only [decide_eq_true_eq]; omega) 12
  have h3 := cn8_m (f := fun x => decide (w x = p)) (a := (c + 1).toNat) (b := 12) (by omega)
  unfold cw8_
  omega
theorem cw8_i {w : Int → Int} {p c : Int} (hc : 0 ≤ c) : cw8_ w p c ≤ cw8_ w p (c + 1) := by
  have h3 := cn8_m (f := fun x => decide (w x = p)) (a := c.toNat) (b := (c + 1).toNat) (by omega)
  unfold cw8_
  omega
theorem cw8_n {w : Int → Int} {p c : Int} (hp : 0 ≤ p) (hc : c = 12) : cw8_ w p c = cw8_ w (p + 1) 0 := by
  have h3 := cn8_3 (f := fun x => decide (0 ≤ w x ∧ w x < p)) (g := fun x => decide (w x = p)) (k := fun x => decide (0 ≤ w x ∧ w x < p + 1)) (fun x => by simp only [decide_eq_true_eq]; omega) (fun x => by simp only [decide_eq_true_eq]; omega) 12
  unfold cw8_
  rw [hc]
  show _ + ((cn8_ _ 12 : Nat) : Int) = _ + ((cn8_ _ 0 : Nat) : Int)
  show _ = _ + ((0 : Nat) : Int)
  omega
abbrev cX1_countFrom : ByteArray := prog_3_method_5_code
def yX1_countFrom : MethodName := ⟨RX1, "countFrom", "(I)I"⟩
def zX1_countFrom_0 : Zm := (RX1, cX1_countFrom, 8, (some .int), { frames := 1, cells := 0, slots := 0, locals := 27 })
theorem bk_X1_countFrom_0 : ck_ fX1 (some .int) cX1_countFrom 0 [.iload 1, .aload 0, .tableswitch 0 1 13 #[], .if_icmp .lt 10, .iconst 1, .ireturn] 10 = true := qck_r (nn_ _) (by decide +kernel)
theorem bs_X1_countFrom_0 {P : Zt → Option Zv → Prop} (K : Int → Zl → List Zv → Zt → Prop) : sx_ K P [.iload 1, .aload 0, .tableswitch 0 1 13 #[], .if_icmp .lt 10, .iconst 1, .ireturn] 10 = x_iload 1 (x_aload 0 (x_g0 101 13 0 12 (x_if_icmp .lt 10 K (x_iconst 1 (x_ireturn P))))) := ((xe_iload 1).trans (congrArg (x_iload 1) ((xe_aload 0).trans (congrArg (x_aload 0) ((xe_g0 (kk := 101) rfl tl_1_13).trans (congrArg (x_g0 101 13 0 12) ((xe_if_icmp .lt 10).trans (congrArg (x_if_icmp .lt 10 K) ((xe_iconst 1).trans (congrArg (x_iconst 1) (xe_ireturn)))))))))))
abbrev po_X1_countFrom_0 (T : Zt) (k : Int) : Zt → Option Zv → Prop := fun T' r => ∃ x : Int, r = some (vI x) ∧ fr_ [(434, []), (435, []), (431, [])] T T' ∧ (-2147483648 ≤ x ∧ x ≤ 2147483647)
set_option maxHeartbeats 4000000 in
theorem ct_X1_countFrom_0 {T : Zt} {k : Int} (hlw : LW8_ T) (hk : 0 ≤ k ∧ 12 ≤ k) : Ct_ yX1_countFrom zX1_countFrom_0 T [vR 101 0, vI k] (po_X1_countFrom_0 T k) := by
  refine ct_of pn_1 rfl rfl (Nat.le_of_ble_eq_true rfl) (fun hT hav => ?_)
  have hr_k : -2147483648 ≤ k ∧ k ≤ 2147483647 := hav (vI k) (List.mem_cons_of_mem _ List.mem_cons_self)
  have hz : zX1_countFrom_0.2.2.2.1 = some .boolean → ∀ (T' : Zt) (x : Int), po_X1_countFrom_0 T k T' (some (vI x)) → 0 ≤ x ∧ x ≤ 1 := fun h => by cases h
  have hwc : 0 ≤ T 101 0 13 ∧ T 101 0 13 ≤ 12 := bd_f hT 101 13 tl_1_13 0
  have hgr : 0 ≤ T 101 0 1 ∧ T 101 0 1 ≤ 4 := bd_f hT 101 1 tl_1_1 0
  show J_ zX1_countFrom_0 T (po_X1_countFrom_0 T k) 0 0 0 [some (vR 101 0), some (vI k), none, none, none, none, none, none] [] T
  refine j_blx (F := fX1) tb_X1 (nn_ _) bk_X1_countFrom_0 bs_X1_countFrom_0 hz (fun K hK => ?_)
  intro b1 b1b
  refine And.intro (fun c2 => ?_) (fun c2 => ?_)
  · exact absurd c2 (by omega)
  · refine (show po_X1_countFrom_0 T k T (some (vI 1)) from ?_)
    exact ⟨_, rfl, fr_0 _ _, by omega⟩
def zX1_countFrom_1 : Zm := (RX1, cX1_countFrom, 8, (some .int), { frames := 2, cells := 0, slots := 0, locals := 54 })
theorem bk_X1_countFrom_22 : ck_ fX1 (some .int) cX1_countFrom 22 [.iload 4, .aload 0, .tableswitch 0 1 1 #[], .if_icmp .ge 159, .aload 0, .tableswitch 0 1 8 #[], .iload 2, .iaload, .iconst 4, .imul, .iload 4, .iadd, .istore 5, .iload 4, .iconst 8, .imul, .aload 0, .tableswitch 0 1 0 #[], .tableswitch 0 8 1 #[], .iload 2, .iaload, .iadd, .istore 6, .aload 0, .tableswitch 0 1 14 #[], .iload 5, .iaload, .ifCond .ne 153, .aload 0, .tableswitch 0 1 15 #[], .iload 6, .iaload, .aload 0, .tableswitch 0 1 2 #[], .if_icmp .ge 153, .aload 0, .tableswitch 0 1 14 #[], .iload 5, .iconst 1, .iastore, .aload 0, .tableswitch 0 1 15 #[], .iload 6, .dup2, .iaload, .iconst 1, .fadd, .iastore, .aload 0, .iload 1, .iconst 1, .iadd] 108 = true := qck_r (nn_ _) (by decide +kernel)
theorem bs_X1_countFrom_22 {P : Zt → Option Zv → Prop} (K : Int → Zl → List Zv → Zt → Prop) : sx_ K P [.iload 4, .aload 0, .tableswitch 0 1 1 #[], .if_icmp .ge 159, .aload 0, .tableswitch 0 1 8 #[], .iload 2, .iaload, .iconst 4, .imul, .iload 4, .iadd, .istore 5, .iload 4, .iconst 8, .imul, .aload 0, .tableswitch 0 1 0 #[], .tableswitch 0 8 1 #[], .iload 2, .iaload, .iadd, .istore 6, .aload 0, .tableswitch 0 1 14 #[], .iload 5, .iaload, .ifCond .ne 153, .aload 0, .tableswitch 0 1 15 #[], .iload 6, .iaload, .aload 0, .tableswitch 0 1 2 #[], .if_icmp .ge 153, .aload 0, .tableswitch 0 1 14 #[], .iload 5, .iconst 1, .iastore, .aload 0, .tableswitch 0 1 15 #[], .iload 6, .dup2, .iaload, .iconst 1, .fadd, .iastore, .aload 0, .iload 1, .iconst 1, .iadd] 108 = x_iload 4 (x_aload 0 (x_g0 101 1 0 4 (x_if_icmp .ge 159 K (x_aload 0 (x_g1 101 428 (x_iload 2 (x_iaload (x_iconst 4 (x_imul (x_iload 4 (x_iadd (x_istore 5 (x_iload 4 (x_iconst 8 (x_imul (x_aload 0 (x_g1 101 108 (x_g1 108 561 (x_iload 2 (x_iaload (x_iadd (x_istore 6 (x_aload 0 (x_g1 101 434 (x_iload 5 (x_iaload (x_ifCond .ne 153 K (x_aload 0 (x_g1 101 435 (x_iload 6 (x_iaload (x_aload 0 (x_g0 101 2 0 3 (x_if_icmp .ge 153 K (x_aload 0 (x_g1 101 434 (x_iload 5 (x_iconst 1 (x_iastore (x_aload 0 (x_g1 101 435 (x_iload 6 (x_dup2 (x_iaload (x_iconst 1 (x_fadd (x_iastore (x_aload 0 (x_iload 1 (x_iconst 1 (x_iadd (K 108)))))))))))))))))))))))))))))))))))))))))))))))))))) := ((xe_iload 4).trans (congrArg (x_iload 4) ((xe_aload 0).trans (congrArg (x_aload 0) ((xe_g0 (kk := 101) rfl tl_1_1).trans (congrArg (x_g0 101 1 0 4) ((xe_if_icmp .ge 159).trans (congrArg (x_if_icmp .ge 159 K) ((xe_aload 0).trans (congrArg (x_aload 0) ((xe_g1 (kk := 101) rfl tl_1_8).trans (congrArg (x_g1 101 428) ((xe_iload 2).trans (congrArg (x_iload 2) ((xe_iaload).trans (congrArg (x_iaload) ((xe_iconst 4).trans (congrArg (x_iconst 4) ((xe_imul).trans (congrArg (x_imul) ((xe_iload 4).trans (congrArg (x_iload 4) ((xe_iadd).trans (congrArg (x_iadd) ((xe_istore 5).trans (congrArg (x_istore 5) ((xe_iload 4).trans (congrArg (x_iload 4) ((xe_iconst 8).trans (congrArg (x_iconst 8) ((xe_imul).trans (congrArg (x_imul) ((xe_aload 0).trans (congrArg (x_aload 0) ((xe_g1 (kk := 101) rfl tl_1_0).trans (congrArg (x_g1 101 108) ((xe_g1 (kk := 108) rfl tl_8_1).trans (congrArg (x_g1 108 561) ((xe_iload 2).trans (congrArg (x_iload 2) ((xe_iaload).trans (congrArg (x_iaload) ((xe_iadd).trans (congrArg (x_iadd) ((xe_istore 6).trans (congrArg (x_istore 6) ((xe_aload 0).trans (congrArg (x_aload 0) ((xe_g1 (kk := 101) rfl tl_1_14).trans (congrArg (x_g1 101 434) ((xe_iload 5).trans (congrArg (x_iload 5) ((xe_iaload).trans (congrArg (x_iaload) ((xe_ifCond .ne 153).trans (congrArg (x_ifCond .ne 153 K) ((xe_aload 0).trans (congrArg (x_aload 0) ((xe_g1 (kk := 101) rfl tl_1_15).trans (congrArg (x_g1 101 435) ((xe_iload 6).trans (congrArg (x_iload 6) ((xe_iaload).trans (congrArg (x_iaload) ((xe_aload 0).trans (congrArg (x_aload 0) ((xe_g0 (kk := 101) rfl tl_1_2).trans (congrArg (x_g0 101 2 0 3) ((xe_if_icmp .ge 153).trans (congrArg (x_if_icmp .ge 153 K) ((xe_aload 0).trans (congrArg (x_aload 0) ((xe_g1 (kk := 101) rfl tl_1_14).trans (congrArg (x_g1 101 434) ((xe_iload 5).trans (congrArg (x_iload 5) ((xe_iconst 1).trans (congrArg (x_iconst 1) ((xe_iastore).trans (congrArg (x_iastore) ((xe_aload 0).trans (congrArg (x_aload 0) ((xe_g1 (kk := 101) rfl tl_1_15).trans (congrArg (x_g1 101 435) ((xe_iload 6).trans (congrArg (x_iload 6) ((xe_dup2).trans (congrArg (x_dup2) ((xe_iaload).trans (congrArg (x_iaload) ((xe_iconst 1).trans (congrArg (x_iconst 1) ((xe_fadd).trans (congrArg (x_fadd) ((xe_iastore).trans (congrArg (x_iastore) ((xe_aload 0).trans (congrArg (x_aload 0) ((xe_iload 1).trans (congrArg (x_iload 1) ((xe_iconst 1).trans (congrArg (x_iconst 1) ((xe_iadd).trans (congrArg (x_iadd) xe_nil))))))))))))))))))))))))))))))))))))))))))))))))))))))))))))))))))))))))))))))))))))))))))))))))))))))))
theorem bk_X1_countFrom_159 : ck_ fX1 (some .int) cX1_countFrom 159 [.iload 3, .ireturn] 161 = true := qck_r (nn_ _) (by decide +kernel)
theorem bs_X1_countFrom_159 {P : Zt → Option Zv → Prop} (K : Int → Zl → List Zv → Zt → Prop) : sx_ K P [.iload 3, .ireturn] 161 = x_iload 3 (x_ireturn P) := ((xe_iload 3).trans (congrArg (x_iload 3) (xe_ireturn)))
theorem bk_X1_countFrom_153 : ck_ fX1 (some .int) cX1_countFrom 153 [.iinc 4 1, .goto 22] 159 = true := qck_r (nn_ _) (by decide +kernel)
theorem bs_X1_countFrom_153 {P : Zt → Option Zv → Prop} (K : Int → Zl → List Zv → Zt → Prop) : sx_ K P [.iinc 4 1, .goto 22] 159 = x_iinc 4 1 (x_goto 22 K) := ((xe_iinc 4 1).trans (congrArg (x_iinc 4 1) (xe_goto 22)))
set_option maxRecDepth 100000 in
theorem cl_X1_68_zX1_countFrom_0 : cv_ RX1 68 yX1_countFrom zX1_countFrom_0 1 1 := ⟨gi_V (lwq_6 (dqc_m (dqc_m (dqc_m (dqc_m (dqa_m (dqa_m (List.mem_of_getElem? (i := 2) rfl))))))) rfl : Cond.methodLink RX1 68 yX1_countFrom ∈ lw_g) (lwq_6 (dqc_m (dqc_m (dqc_m (dqc_m (dqa_m (dqa_m (List.mem_of_getElem? (i := 4) rfl))))))) rfl : Cond.instanceMethod yX1_countFrom ∈ lw_g) (lw_sel 81 rfl : Cond.selects yX1_countFrom.cls yX1_countFrom yX1_countFrom ∈ lw_g) (lwq_1 (dqa_m (List.mem_of_getElem? (i := 0) rfl)) rfl : Cond.initialized yX1_countFrom.cls ∈ lw_g) (lwq_6 (dqc_m (dqc_m (dqc_m (dqc_m (dqa_m (dqa_m (List.mem_of_getElem? (i := 5) rfl))))))) rfl : Cond.code yX1_countFrom cX1_countFrom 8 (some .int) ∈ lw_g), ⟨nmh_2.1, nmh_2.2, pdq_15⟩, ⟨_, _, rfl⟩⟩
theorem bk_X1_countFrom_111 : ck_ fX1 (some .int) cX1_countFrom 111 [.istore 7, .aload 0, .tableswitch 0 1 11 #[], .iload 2, .iconst 4, .imul, .iload 4, .iadd, .dup2, .iaload, .iload 7, .fadd, .iastore, .iload 3, .iload 7, .fadd, .istore 3, .aload 0, .tableswitch 0 1 15 #[], .iload 6, .dup2, .iaload, .iconst 1, .fsub, .iastore, .aload 0, .tableswitch 0 1 14 #[], .iload 5, .iconst 0, .iastore, .iinc 4 1, .goto 22] 159 = true := qck_r (nn_ _) (by decide +kernel)
theorem bs_X1_countFrom_111 {P : Zt → Option Zv → Prop} (K : Int → Zl → List Zv → Zt → Prop) : sx_ K P [.istore 7, .aload 0, .tableswitch 0 1 11 #[], .iload 2, .iconst 4, .imul, .iload 4, .iadd, .dup2, .iaload, .iload 7, .fadd, .iastore, .iload 3, .iload 7, .fadd, .istore 3, .aload 0, .tableswitch 0 1 15 #[], .iload 6, .dup2, .iaload, .iconst 1, .fsub, .iastore, .aload 0, .tableswitch 0 1 14 #[], .iload 5, .iconst 0, .iastore, .iinc 4 1, .goto 22] 159 = x_istore 7 (x_aload 0 (x_g1 101 431 (x_iload 2 (x_iconst 4 (x_imul (x_iload 4 (x_iadd (x_dup2 (x_iaload (x_iload 7 (x_fadd (x_iastore (x_iload 3 (x_iload 7 (x_fadd (x_istore 3 (x_aload 0 (x_g1 101 435 (x_iload 6 (x_dup2 (x_iaload (x_iconst 1 (x_fsub (x_iastore (x_aload 0 (x_g1 101 434 (x_iload 5 (x_iconst 0 (x_iastore (x_iinc 4 1 (x_goto 22 K))))))))))))))))))))))))))))))) := ((xe_istore 7).trans (congrArg (x_istore 7) ((xe_aload 0).trans (congrArg (x_aload 0) ((xe_g1 (kk := 101) rfl tl_1_11).trans (congrArg (x_g1 101 431) ((xe_iload 2).trans (congrArg (x_iload 2) ((xe_iconst 4).trans (congrArg (x_iconst 4) ((xe_imul).trans (congrArg (x_imul) ((xe_iload 4).trans (congrArg (x_iload 4) ((xe_iadd).trans (congrArg (x_iadd) ((xe_dup2).trans (congrArg (x_dup2) ((xe_iaload).trans (congrArg (x_iaload) ((xe_iload 7).trans (congrArg (x_iload 7) ((xe_fadd).trans (congrArg (x_fadd) ((xe_iastore).trans (congrArg (x_iastore) ((xe_iload 3).trans (congrArg (x_iload 3) ((xe_iload 7).trans (congrArg (x_iload 7) ((xe_fadd).trans (congrArg (x_fadd) ((xe_istore 3).trans (congrArg (x_istore 3) ((xe_aload 0).trans (congrArg (x_aload 0) ((xe_g1 (kk := 101) rfl tl_1_15).trans (congrArg (x_g1 101 435) ((xe_iload 6).trans (congrArg (x_iload 6) ((xe_dup2).trans (congrArg (x_dup2) ((xe_iaload).trans (congrArg (x_iaload) ((xe_iconst 1).trans (congrArg (x_iconst 1) ((xe_fsub).trans (congrArg (x_fsub) ((xe_iastore).trans (congrArg (x_iastore) ((xe_aload 0).trans (congrArg (x_aload 0) ((xe_g1 (kk := 101) rfl tl_1_14).trans (congrArg (x_g1 101 434) ((xe_iload 5).trans (congrArg (x_iload 5) ((xe_iconst 0).trans (congrArg (x_iconst 0) ((xe_iastore).trans (congrArg (x_iastore) ((xe_iinc 4 1).trans (congrArg (x_iinc 4 1) (xe_goto 22)))))))))))))))))))))))))))))))))))))))))))))))))))))))))))))))
theorem bk_X1_countFrom_10 : ck_ fX1 (some .int) cX1_countFrom 10 [.aload 0, .tableswitch 0 1 12 #[], .iload 1, .iaload, .istore 2, .iconst 0, .istore 3, .iconst 0, .istore 4] 22 = true := qck_r (nn_ _) (by decide +kernel)
theorem bs_X1_countFrom_10 {P : Zt → Option Zv → Prop} (K : Int → Zl → List Zv → Zt → Prop) : sx_ K P [.aload 0, .tableswitch 0 1 12 #[], .iload 1, .iaload, .istore 2, .iconst 0, .istore 3, .iconst 0, .istore 4] 22 = x_aload 0 (x_g1 101 432 (x_iload 1 (x_iaload (x_istore 2 (x_iconst 0 (x_istore 3 (x_iconst 0 (x_istore 4 (K 22))))))))) := ((xe_aload 0).trans (congrArg (x_aload 0) ((xe_g1 (kk := 101) rfl tl_1_12).trans (congrArg (x_g1 101 432) ((xe_iload 1).trans (congrArg (x_iload 1) ((xe_iaload).trans (congrArg (x_iaload) ((xe_istore 2).trans (congrArg (x_istore 2) ((xe_iconst 0).trans (congrArg (x_iconst 0) ((xe_istore 3).trans (congrArg (x_istore 3) ((xe_iconst 0).trans (congrArg (x_iconst 0) ((xe_istore 4).trans (congrArg (x_istore 4) xe_nil))))))))))))))))))
abbrev po_X1_countFrom_1 (T : Zt) (k : Int) : Zt → Option Zv → Prop := fun T' r => ∃ x : Int, r = some (vI x) ∧ fr_ [(434, []), (435, []), (431, [])] T T' ∧ (-2147483648 ≤ x ∧ x ≤ 2147483647)
set_option maxHeartbeats 4000000 in
theorem ct_X1_countFrom_1 {T : Zt} {k : Int} (hlw : LW8_ T) (hk : 0 ≤ k ∧ 11 ≤ k) : Ct_ yX1_countFrom zX1_countFrom_1 T [vR 101 0, vI k] (po_X1_countFrom_1 T k) := by
  refine ct_of pn_1 rfl rfl (Nat.le_of_ble_eq_true rfl) (fun hT hav => ?_)
  have hr_k : -2147483648 ≤ k ∧ k ≤ 2147483647 := hav (vI k) (List.mem_cons_of_mem _ List.mem_cons_self)
  have hz : zX1_countFrom_1.2.2.2.1 = some .boolean → ∀ (T' : Zt) (x : Int), po_X1_countFrom_1 T k T' (some (vI x)) → 0 ≤ x ∧ x ≤ 1 := fun h => by cases h
  have hwc : 0 ≤ T 101 0 13 ∧ T 101 0 13 ≤ 12 := bd_f hT 101 13 tl_1_13 0
  have hgr : 0 ≤ T 101 0 1 ∧ T 101 0 1 ≤ 4 := bd_f hT 101 1 tl_1_1 0
  show J_ zX1_countFrom_1 T (po_X1_countFrom_1 T k) 0 0 0 [some (vR 101 0), some (vI k), none, none, none, none, none, none] [] T
  have c_22 : ∀ (nn : Nat) (v : Int) (g : Int) (T1 : Zt), ((4 - g).toNat) ≤ nn → (fr_ [(434, []), (435, []), (431, [])] T T1) → (0 ≤ g ∧ -2147483648 ≤ v ∧ v ≤ 2147483647 ∧ k < T 101 0 13) → J_ zX1_countFrom_1 T (po_X1_countFrom_1 T k) 0 0 22 [some (vR 101 0), some (vI k), some (vI (T 432 0 k)), some (vI v), some (vI g), none, none, none] [] T1 := by
    intro nn
    induction nn using Nat.strongRecOn with
    | _ nn ih_22 =>
      intro v g T1 hm_22 hf_22 i1
      replace hm_22 := fun (_ : Unit) => hm_22
      have hlk := hlw k (by omega) (by omega)
      have hwk : 0 ≤ T 432 0 k ∧ T 432 0 k ≤ 11 := bd_a hT 432 (by decide +kernel : ta_ 432 = some (1, some 12, 0, 11)) 0 (by omega)
      have hpk : (-1) ≤ T 428 0 (T 432 0 k) ∧ T 428 0 (T 432 0 k) ≤ 2 := bd_a hT 428 (by decide +kernel : ta_ 428 = some (1, some 12, (-1), 2)) 0 (by omega)
      refine j_blx (F := fX1) tb_X1 (nn_ _) bk_X1_countFrom_22 bs_X1_countFrom_22 hz (fun K hK => ?_)
      intro b1 b1b
      have e2 : T1 101 0 1 = T 101 0 1 := hf_22 101 0 1 rfl
      rw [e2] at b1 b1b ⊢
      refine And.intro (fun c3 => ?_) (fun c3 => ?_)
      · refine hK 159 _ [] T1 ?_
        refine j_blx (F := fX1) tb_X1 (nn_ _) bk_X1_countFrom_159 bs_X1_countFrom_159 hz (fun K hK => ?_)
        refine (show po_X1_countFrom_1 T k T1 (some (vI v)) from ?_)
        exact ⟨_, rfl, fr_t (fr_0 _ _) (fr_s hf_22 rfl), by omega⟩
      · refine ix_i (by omega) ?_
        intro b4 b4b
        have e5 : T1 428 0 (T 432 0 k) = T 428 0 (T 432 0 k) := hf_22 428 0 (T 432 0 k) rfl
        rw [e5] at b4 b4b ⊢
        refine rg_i (by omega) ?_
        refine rg_i (by omega) ?_
        refine rg_i (by omega) ?_
        refine ix_i (by omega) ?_
        intro b6 b6b
        have e7 : T1 561 0 (T 432 0 k) = T 561 0 (T 432 0 k) := hf_22 561 0 (T 432 0 k) rfl
        rw [e7] at b6 b6b ⊢
        refine rg_i (by omega) ?_
        refine ix_i (by omega) ?_
        intro b8 b8b
        refine And.intro (fun c9 => ?_) (fun c9 => ?_)
        · refine hK 153 [some (vR 101 0), some (vI k), some (vI (T 432 0 k)), some (vI v), some (vI g), some (vI (((T 428 0 (T 432 0 k)) * 4) + g)), some (vI ((g * 8) + (T 561 0 (T 432 0 k)))), none] [] T1 ?_
          refine j_blx (F := fX1) tb_X1 (nn_ _) bk_X1_countFrom_153 bs_X1_countFrom_153 hz (fun K hK => ?_)
          refine rg_i (by omega) ?_
          refine hK 22 [some (vR 101 0), some (vI k), some (vI (T 432 0 k)), some (vI v), some (vI (g + 1)), some (vI (((T 428 0 (T 432 0 k)) * 4) + g)), some (vI ((g * 8) + (T 561 0 (T 432 0 k)))), none] [] T1 ?_
          refine j_drq [some (vR 101 0), some (vI k), some (vI (T 432 0 k)), some (vI v), some (vI (g + 1)), none, none, none] (drq_s (drq_s (drq_s (drq_s (drq_s (drq_n (drq_n (drq_n drq_0)))))))) ?_
          refine ih_22 _ ?_ v (g + 1) T1 (Nat.le_refl _) ?_ ?_
          · have hm_22 := hm_22 (); omega
          · exact fr_t (fr_0 _ _) (fr_s hf_22 rfl)
          · omega
        · refine ix_i (by omega) ?_
          intro b10 b10b
          intro b11 b11b
          have e12 : T1 101 0 2 = T 101 0 2 := hf_22 101 0 2 rfl
          rw [e12] at b11 b11b ⊢
          refine And.intro (fun c13 => ?_) (fun c13 => ?_)
          · refine hK 153 [some (vR 101 0), some (vI k), some (vI (T 432 0 k)), some (vI v), some (vI g), some (vI (((T 428 0 (T 432 0 k)) * 4) + g)), some (vI ((g * 8) + (T 561 0 (T 432 0 k)))), none] [] T1 ?_
            refine j_blx (F := fX1) tb_X1 (nn_ _) bk_X1_countFrom_153 bs_X1_countFrom_153 hz (fun K hK => ?_)
            refine rg_i (by omega) ?_
            refine hK 22 [some (vR 101 0), some (vI k), some (vI (T 432 0 k)), some (vI v), some (vI (g + 1)), some (vI (((T 428 0 (T 432 0 k)) * 4) + g)), some (vI ((g * 8) + (T 561 0 (T 432 0 k)))), none] [] T1 ?_
            refine j_drq [some (vR 101 0), some (vI k), some (vI (T 432 0 k)), some (vI v), some (vI (g + 1)), none, none, none] (drq_s (drq_s (drq_s (drq_s (drq_s (drq_n (drq_n (drq_n drq_0)))))))) ?_
            refine ih_22 _ ?_ v (g + 1) T1 (Nat.le_refl _) ?_ ?_
            · have hm_22 := hm_22 (); omega
            · exact fr_t (fr_0 _ _) (fr_s hf_22 rfl)
            · omega
          · refine iy_i (by omega) (by omega) ?_
            refine x_nm (fun U14 hU14 => ?_)
            have e15 := up_f hU14
            refine ix_i (by omega) ?_
            intro b16 b16b
            have e17 : U14 435 0 ((g * 8) + (T 561 0 (T 432 0 k))) = T1 435 0 ((g * 8) + (T 561 0 (T 432 0 k))) := up_k hU14 (by exact Nat.ne_of_beq_eq_false rfl) 0 ((g * 8) + (T 561 0 (T 432 0 k)))
            rw [e17] at b16 b16b ⊢
            intro w18 w18b
            refine iy_i (by omega) (by omega) ?_
            refine x_nm (fun U19 hU19 => ?_)
            have e20 := up_f hU19
            refine rg_i (by omega) ?_
            refine hK 108 [some (vR 101 0), some (vI k), some (vI (T 432 0 k)), some (vI v), some (vI g), some (vI (((T 428 0 (T 432 0 k)) * 4) + g)), some (vI ((g * 8) + (T 561 0 (T 432 0 k)))), none] [vI (k + 1), vR 101 0] U19 ?_
            have e21 : U19 101 0 13 = T 101 0 13 := (up_k hU19 (by exact Nat.ne_of_beq_eq_false rfl) 0 13).trans ((up_k hU14 (by exact Nat.ne_of_beq_eq_false rfl) 0 13).trans (hf_22 101 0 13 rfl))
            refine j_callV (y := yX1_countFrom) (Yc := zX1_countFrom_0) (rest := []) [vI (k + 1)] (ct_X1_countFrom_0 (T := U19) (LW8_f hlw (show fr_ [(434, []), (435, []), (431, [])] T U19 from fr_u (fr_u (fr_t (fr_0 _ _) (fr_s hf_22 rfl)) hU14 rfl) hU19 rfl) ⟨rfl, fun _ => rfl, fun _ => rfl⟩) (by omega)) cl_X1_68_zX1_countFrom_0 (qd_c (by decide +kernel)) (nn_ _) rfl (rf_of rfl) (Nat.le_of_ble_eq_true rfl) (Nat.le_of_ble_eq_true rfl) (Nat.le_of_ble_eq_true rfl) rfl ?_
            rintro U22 _ ⟨x23, rfl, fU22, qU22⟩
            show J_ zX1_countFrom_1 T (po_X1_countFrom_1 T k) 0 0 111 _ [vI x23] U22
            refine j_blx (F := fX1) tb_X1 (nn_ _) bk_X1_countFrom_111 bs_X1_countFrom_111 hz (fun K hK => ?_)
            refine rg_i (by omega) ?_
            refine rg_i (by omega) ?_
            refine ix_i (by omega) ?_
            intro b24 b24b
            intro w25 w25b
            refine iy_i (by omega) (by omega) ?_
            refine x_nm (fun U26 hU26 => ?_)
            have e27 := up_f hU26
            intro w28 w28b
            refine ix_i (by omega) ?_
            intro b29 b29b
            have e30 : U26 435 0 ((g * 8) + (T 561 0 (T 432 0 k))) = U22 435 0 ((g * 8) + (T 561 0 (T 432 0 k))) := up_k hU26 (by exact Nat.ne_of_beq_eq_false rfl) 0 ((g * 8) + (T 561 0 (T 432 0 k)))
            rw [e30] at b29 b29b ⊢
            intro w31 w31b
            refine iy_i (by omega) (by omega) ?_
            refine x_nm (fun U32 hU32 => ?_)
            have e33 := up_f hU32
            refine iy_i (by omega) (by omega) ?_
            refine x_nm (fun U34 hU34 => ?_)
            have e35 := up_f hU34
            refine rg_i (by omega) ?_
            refine hK 22 [some (vR 101 0), some (vI k), some (vI (T 432 0 k)), some (vI (wr_ (v + x23))), some (vI (g + 1)), some (vI (((T 428 0 (T 432 0 k)) * 4) + g)), some (vI ((g * 8) + (T 561 0 (T 432 0 k)))), some (vI x23)] [] U34 ?_
            refine j_drq [some (vR 101 0), some (vI k), some (vI (T 432 0 k)), some (vI (wr_ (v + x23))), some (vI (g + 1)), none, none, none] (drq_s (drq_s (drq_s (drq_s (drq_s (drq_n (drq_n (drq_n drq_0)))))))) ?_
            refine ih_22 _ ?_ (wr_ (v + x23)) (g + 1) U34 (Nat.le_refl _) ?_ ?_
            · have hm_22 := hm_22 (); omega
            · exact fr_u (fr_u (fr_u (fr_t (fr_u (fr_u (fr_t (fr_0 _ _) (fr_s hf_22 rfl)) hU14 rfl) hU19 rfl) (fr_s fU22 rfl)) hU26 rfl) hU32 rfl) hU34 rfl
            · omega
  refine j_blx (F := fX1) tb_X1 (nn_ _) bk_X1_countFrom_0 bs_X1_countFrom_0 hz (fun K hK => ?_)
  intro b36 b36b
  refine And.intro (fun c37 => ?_) (fun c37 => ?_)
  · refine hK 10 _ [] T ?_
    refine j_blx (F := fX1) tb_X1 (nn_ _) bk_X1_countFrom_10 bs_X1_countFrom_10 hz (fun K hK => ?_)
    refine ix_i (by omega) ?_
    intro b38 b38b
    refine hK 22 [some (vR 101 0), some (vI k), some (vI (T 432 0 k)), some (vI 0), some (vI 0), none, none, none] [] T ?_
    refine c_22 _ 0 0 T (Nat.le_refl _) ?_ ?_
    · exact fr_0 _ _
    · omega
  · refine (show po_X1_countFrom_1 T k T (some (vI 1)) from ?_)
    exact ⟨_, rfl, fr_0 _ _, by omega⟩
def zX1_countFrom_2 : Zm := (RX1, cX1_countFrom, 8, (some .int), { frames := 3, cells := 0, slots := 0, locals := 81 })
set_option maxRecDepth 100000 in
theorem cl_X1_68_zX1_countFrom_1 : cv_ RX1 68 yX1_countFrom zX1_countFrom_1 1 1 := ⟨gi_V (lwq_6 (dqc_m (dqc_m (dqc_m (dqc_m (dqa_m (dqa_m (List.mem_of_getElem? (i := 2) rfl))))))) rfl : Cond.methodLink RX1 68 yX1_countFrom ∈ lw_g) (lwq_6 (dqc_m (dqc_m (dqc_m (dqc_m (dqa_m (dqa_m (List.mem_of_getElem? (i := 4) rfl))))))) rfl : Cond.instanceMethod yX1_countFrom ∈ lw_g) (lw_sel 81 rfl : Cond.selects yX1_countFrom.cls yX1_countFrom yX1_countFrom ∈ lw_g) (lwq_1 (dqa_m (List.mem_of_getElem? (i := 0) rfl)) rfl : Cond.initialized yX1_countFrom.cls ∈ lw_g) (lwq_6 (dqc_m (dqc_m (dqc_m (dqc_m (dqa_m (dqa_m (List.mem_of_getElem? (i := 5) rfl))))))) rfl : Cond.code yX1_countFrom cX1_countFrom 8 (some .int) ∈ lw_g), ⟨nmh_2.1, nmh_2.2, pdq_15⟩, ⟨_, _, rfl⟩⟩
abbrev po_X1_countFrom_2 (T : Zt) (k : Int) : Zt → Option Zv → Prop := fun T' r => ∃ x : Int, r = some (vI x) ∧ fr_ [(434, []), (435, []), (431, [])] T T' ∧ (-2147483648 ≤ x ∧ x ≤ 2147483647)
set_option maxHeartbeats 4000000 in
theorem ct_X1_countFrom_2 {T : Zt} {k : Int} (hlw : LW8_ T) (hk : 0 ≤ k ∧ 10 ≤ k) : Ct_ yX1_countFrom zX1_countFrom_2 T [vR 101 0, vI k] (po_X1_countFrom_2 T k) := by
  refine ct_of pn_1 rfl rfl (Nat.le_of_ble_eq_true rfl) (fun hT hav => ?_)
  have hr_k : -2147483648 ≤ k ∧ k ≤ 2147483647 := hav (vI k) (List.mem_cons_of_mem _ List.mem_cons_self)
  have hz : zX1_countFrom_2.2.2.2.1 = some .boolean → ∀ (T' : Zt) (x : Int), po_X1_countFrom_2 T k T' (some (vI x)) → 0 ≤ x ∧ x ≤ 1 := fun h => by cases h
  have hwc : 0 ≤ T 101 0 13 ∧ T 101 0 13 ≤ 12 := bd_f hT 101 13 tl_1_13 0
  have hgr : 0 ≤ T 101 0 1 ∧ T 101 0 1 ≤ 4 := bd_f hT 101 1 tl_1_1 0
  show J_ zX1_countFrom_2 T (po_X1_countFrom_2 T k) 0 0 0 [some (vR 101 0), some (vI k), none, none, none, none, none, none] [] T
  have c_22 : ∀ (nn : Nat) (v : Int) (g : Int) (T1 : Zt), ((4 - g).toNat) ≤ nn → (fr_ [(434, []), (435, []), (431, [])] T T1) → (0 ≤ g ∧ -2147483648 ≤ v ∧ v ≤ 2147483647 ∧ k < T 101 0 13) → J_ zX1_countFrom_2 T (po_X1_countFrom_2 T k) 0 0 22 [some (vR 101 0), some (vI k), some (vI (T 432 0 k)), some (vI v), some (vI g), none, none, none] [] T1 := by
    intro nn
    induction nn using Nat.strongRecOn with
    | _ nn ih_22 =>
      intro v g T1 hm_22 hf_22 i1
      replace hm_22 := fun (_ : Unit) => hm_22
      have hlk := hlw k (by omega) (by omega)
      have hwk : 0 ≤ T 432 0 k ∧ T 432 0 k ≤ 11 := bd_a hT 432 (by decide +kernel : ta_ 432 = some (1, some 12, 0, 11)) 0 (by omega)
      have hpk : (-1) ≤ T 428 0 (T 432 0 k) ∧ T 428 0 (T 432 0 k) ≤ 2 := bd_a hT 428 (by decide +kernel : ta_ 428 = some (1, some 12, (-1), 2)) 0 (by omega)
      refine j_blx (F := fX1) tb_X1 (nn_ _) bk_X1_countFrom_22 bs_X1_countFrom_22 hz (fun K hK => ?_)
      intro b1 b1b
      have e2 : T1 101 0 1 = T 101 0 1 := hf_22 101 0 1 rfl
      rw [e2] at b1 b1b ⊢
      refine And.intro (fun c3 => ?_) (fun c3 => ?_)
      · refine hK 159 _ [] T1 ?_
        refine j_blx (F := fX1) tb_X1 (nn_ _) bk_X1_countFrom_159 bs_X1_countFrom_159 hz (fun K hK => ?_)
        refine (show po_X1_countFrom_2 T k T1 (some (vI v)) from ?_)
        exact ⟨_, rfl, fr_t (fr_0 _ _) (fr_s hf_22 rfl), by omega⟩
      · refine ix_i (by omega) ?_
        intro b4 b4b
        have e5 : T1 428 0 (T 432 0 k) = T 428 0 (T 432 0 k) := hf_22 428 0 (T 432 0 k) rfl
        rw [e5] at b4 b4b ⊢
        refine rg_i (by omega) ?_
        refine rg_i (by omega) ?_
        refine rg_i (by omega) ?_
        refine ix_i (by omega) ?_
        intro b6 b6b
        have e7 : T1 561 0 (T 432 0 k) = T 561 0 (T 432 0 k) := hf_22 561 0 (T 432 0 k) rfl
        rw [e7] at b6 b6b ⊢
        refine rg_i (by omega) ?_
        refine ix_i (by omega) ?_
        intro b8 b8b
        refine And.intro (fun c9 => ?_) (fun c9 => ?_)
        · refine hK 153 [some (vR 101 0), some (vI k), some (vI (T 432 0 k)), some (vI v), some (vI g), some (vI (((T 428 0 (T 432 0 k)) * 4) + g)), some (vI ((g * 8) + (T 561 0 (T 432 0 k)))), none] [] T1 ?_
          refine j_blx (F := fX1) tb_X1 (nn_ _) bk_X1_countFrom_153 bs_X1_countFrom_153 hz (fun K hK => ?_)
          refine rg_i (by omega) ?_
          refine hK 22 [some (vR 101 0), some (vI k), some (vI (T 432 0 k)), some (vI v), some (vI (g + 1)), some (vI (((T 428 0 (T 432 0 k)) * 4) + g)), some (vI ((g * 8) + (T 561 0 (T 432 0 k)))), none] [] T1 ?_
          refine j_drq [some (vR 101 0), some (vI k), some (vI (T 432 0 k)), some (vI v), some (vI (g + 1)), none, none, none] (drq_s (drq_s (drq_s (drq_s (drq_s (drq_n (drq_n (drq_n drq_0)))))))) ?_
          refine ih_22 _ ?_ v (g + 1) T1 (Nat.le_refl _) ?_ ?_
          · have hm_22 := hm_22 (); omega
          · exact fr_t (fr_0 _ _) (fr_s hf_22 rfl)
          · omega
        · refine ix_i (by omega) ?_
          intro b10 b10b
          intro b11 b11b
          have e12 : T1 101 0 2 = T 101 0 2 := hf_22 101 0 2 rfl
          rw [e12] at b11 b11b ⊢
          refine And.intro (fun c13 => ?_) (fun c13 => ?_)
          · refine hK 153 [some (vR 101 0), some (vI k), some (vI (T 432 0 k)), some (vI v), some (vI g), some (vI (((T 428 0 (T 432 0 k)) * 4) + g)), some (vI ((g * 8) + (T 561 0 (T 432 0 k)))), none] [] T1 ?_
            refine j_blx (F := fX1) tb_X1 (nn_ _) bk_X1_countFrom_153 bs_X1_countFrom_153 hz (fun K hK => ?_)
            refine rg_i (by omega) ?_
            refine hK 22 [some (vR 101 0), some (vI k), some (vI (T 432 0 k)), some (vI v), some (vI (g + 1)), some (vI (((T 428 0 (T 432 0 k)) * 4) + g)), some (vI ((g * 8) + (T 561 0 (T 432 0 k)))), none] [] T1 ?_
            refine j_drq [some (vR 101 0), some (vI k), some (vI (T 432 0 k)), some (vI v), some (vI (g + 1)), none, none, none] (drq_s (drq_s (drq_s (drq_s (drq_s (drq_n (drq_n (drq_n drq_0)))))))) ?_
            refine ih_22 _ ?_ v (g + 1) T1 (Nat.le_refl _) ?_ ?_
            · have hm_22 := hm_22 (); omega
            · exact fr_t (fr_0 _ _) (fr_s hf_22 rfl)
            · omega
          · refine iy_i (by omega) (by omega) ?_
            refine x_nm (fun U14 hU14 => ?_)
            have e15 := up_f hU14
            refine ix_i (by omega) ?_
            intro b16 b16b
            have e17 : U14 435 0 ((g * 8) + (T 561 0 (T 432 0 k))) = T1 435 0 ((g * 8) + (T 561 0 (T 432 0 k))) := up_k hU14 (by exact Nat.ne_of_beq_eq_false rfl) 0 ((g * 8) + (T 561 0 (T 432 0 k)))
            rw [e17] at b16 b16b ⊢
            intro w18 w18b
            refine iy_i (by omega) (by omega) ?_
            refine x_nm (fun U19 hU19 => ?_)
            have e20 := up_f hU19
            refine rg_i (by omega) ?_
            refine hK 108 [some (vR 101 0), some (vI k), some (vI (T 432 0 k)), some (vI v), some (vI g), some (vI (((T 428 0 (T 432 0 k)) * 4) + g)), some (vI ((g * 8) + (T 561 0 (T 432 0 k)))), none] [vI (k + 1), vR 101 0] U19 ?_
            have e21 : U19 101 0 13 = T 101 0 13 := (up_k hU19 (by exact Nat.ne_of_beq_eq_false rfl) 0 13).trans ((up_k hU14 (by exact Nat.ne_of_beq_eq_false rfl) 0 13).trans (hf_22 101 0 13 rfl))
            refine j_callV (y := yX1_countFrom) (Yc := zX1_countFrom_1) (rest := []) [vI (k + 1)] (ct_X1_countFrom_1 (T := U19) (LW8_f hlw (show fr_ [(434, []), (435, []), (431, [])] T U19 from fr_u (fr_u (fr_t (fr_0 _ _) (fr_s hf_22 rfl)) hU14 rfl) hU19 rfl) ⟨rfl, fun _ => rfl, fun _ => rfl⟩) (by omega)) cl_X1_68_zX1_countFrom_1 (qd_c (by decide +kernel)) (nn_ _) rfl (rf_of rfl) (Nat.le_of_ble_eq_true rfl) (Nat.le_of_ble_eq_true rfl) (Nat.le_of_ble_eq_true rfl) rfl ?_
            rintro U22 _ ⟨x23, rfl, fU22, qU22⟩
            show J_ zX1_countFrom_2 T (po_X1_countFrom_2 T k) 0 0 111 _ [vI x23] U22
            refine j_blx (F := fX1) tb_X1 (nn_ _) bk_X1_countFrom_111 bs_X1_countFrom_111 hz (fun K hK => ?_)
            refine rg_i (by omega) ?_
            refine rg_i (by omega) ?_
            refine ix_i (by omega) ?_
            intro b24 b24b
            intro w25 w25b
            refine iy_i (by omega) (by omega) ?_
            refine x_nm (fun U26 hU26 => ?_)
            have e27 := up_f hU26
            intro w28 w28b
            refine ix_i (by omega) ?_
            intro b29 b29b
            have e30 : U26 435 0 ((g * 8) + (T 561 0 (T 432 0 k))) = U22 435 0 ((g * 8) + (T 561 0 (T 432 0 k))) := up_k hU26 (by exact Nat.ne_of_beq_eq_false rfl) 0 ((g * 8) + (T 561 0 (T 432 0 k)))
            rw [e30] at b29 b29b ⊢
            intro w31 w31b
            refine iy_i (by omega) (by omega) ?_
            refine x_nm (fun U32 hU32 => ?_)
            have e33 := up_f hU32
            refine iy_i (by omega) (by omega) ?_
            refine x_nm (fun U34 hU34 => ?_)
            have e35 := up_f hU34
            refine rg_i (by omega) ?_
            refine hK 22 [some (vR 101 0), some (vI k), some (vI (T 432 0 k)), some (vI (wr_ (v + x23))), some (vI (g + 1)), some (vI (((T 428 0 (T 432 0 k)) * 4) + g)), some (vI ((g * 8) + (T 561 0 (T 432 0 k)))), some (vI x23)] [] U34 ?_
            refine j_drq [some (vR 101 0), some (vI k), some (vI (T 432 0 k)), some (vI (wr_ (v + x23))), some (vI (g + 1)), none, none, none] (drq_s (drq_s (drq_s (drq_s (drq_s (drq_n (drq_n (drq_n drq_0)))))))) ?_
            refine ih_22 _ ?_ (wr_ (v + x23)) (g + 1) U34 (Nat.le_refl _) ?_ ?_
            · have hm_22 := hm_22 (); omega
            · exact fr_u (fr_u (fr_u (fr_t (fr_u (fr_u (fr_t (fr_0 _ _) (fr_s hf_22 rfl)) hU14 rfl) hU19 rfl) (fr_s fU22 rfl)) hU26 rfl) hU32 rfl) hU34 rfl
            · omega
  refine j_blx (F := fX1) tb_X1 (nn_ _) bk_X1_countFrom_0 bs_X1_countFrom_0 hz (fun K hK => ?_)
  intro b36 b36b
  refine And.intro (fun c37 => ?_) (fun c37 => ?_)
  · refine hK 10 _ [] T ?_
    refine j_blx (F := fX1) tb_X1 (nn_ _) bk_X1_countFrom_10 bs_X1_countFrom_10 hz (fun K hK => ?_)
    refine ix_i (by omega) ?_
    intro b38 b38b
    refine hK 22 [some (vR 101 0), some (vI k), some (vI (T 432 0 k)), some (vI 0), some (vI 0), none, none, none] [] T ?_
    refine c_22 _ 0 0 T (Nat.le_refl _) ?_ ?_
    · exact fr_0 _ _
    · omega
  · refine (show po_X1_countFrom_2 T k T (some (vI 1)) from ?_)
    exact ⟨_, rfl, fr_0 _ _, by omega⟩
def zX1_countFrom_3 : Zm := (RX1, cX1_countFrom, 8, (some .int), { frames := 4, cells := 0, slots := 0, locals := 108 })
set_option maxRecDepth 100000 in
theorem cl_X1_68_zX1_countFrom_2 : cv_ RX1 68 yX1_countFrom zX1_countFrom_2 1 1 := ⟨gi_V (lwq_6 (dqc_m (dqc_m (dqc_m (dqc_m (dqa_m (dqa_m (List.mem_of_getElem? (i := 2) rfl))))))) rfl : Cond.methodLink RX1 68 yX1_countFrom ∈ lw_g) (lwq_6 (dqc_m (dqc_m (dqc_m (dqc_m (dqa_m (dqa_m (List.mem_of_getElem? (i := 4) rfl))))))) rfl : Cond.instanceMethod yX1_countFrom ∈ lw_g) (lw_sel 81 rfl : Cond.selects yX1_countFrom.cls yX1_countFrom yX1_countFrom ∈ lw_g) (lwq_1 (dqa_m (List.mem_of_getElem? (i := 0) rfl)) rfl : Cond.initialized yX1_countFrom.cls ∈ lw_g) (lwq_6 (dqc_m (dqc_m (dqc_m (dqc_m (dqa_m (dqa_m (List.mem_of_getElem? (i := 5) rfl))))))) rfl : Cond.code yX1_countFrom cX1_countFrom 8 (some .int) ∈ lw_g), ⟨nmh_2.1, nmh_2.2, pdq_15⟩, ⟨_, _, rfl⟩⟩
abbrev po_X1_countFrom_3 (T : Zt) (k : Int) : Zt → Option Zv → Prop := fun T' r => ∃ x : Int, r = some (vI x) ∧ fr_ [(434, []), (435, []), (431, [])] T T' ∧ (-2147483648 ≤ x ∧ x ≤ 2147483647)
set_option maxHeartbeats 4000000 in
theorem ct_X1_countFrom_3 {T : Zt} {k : Int} (hlw : LW8_ T) (hk : 0 ≤ k ∧ 9 ≤ k) : Ct_ yX1_countFrom zX1_countFrom_3 T [vR 101 0, vI k] (po_X1_countFrom_3 T k) := by
  refine ct_of pn_1 rfl rfl (Nat.le_of_ble_eq_true rfl) (fun hT hav => ?_)
  have hr_k : -2147483648 ≤ k ∧ k ≤ 2147483647 := hav (vI k) (List.mem_cons_of_mem _ List.mem_cons_self)
  have hz : zX1_countFrom_3.2.2.2.1 = some .boolean → ∀ (T' : Zt) (x : Int), po_X1_countFrom_3 T k T' (some (vI x)) → 0 ≤ x ∧ x ≤ 1 := fun h => by cases h
  have hwc : 0 ≤ T 101 0 13 ∧ T 101 0 13 ≤ 12 := bd_f hT 101 13 tl_1_13 0
  have hgr : 0 ≤ T 101 0 1 ∧ T 101 0 1 ≤ 4 := bd_f hT 101 1 tl_1_1 0
  show J_ zX1_countFrom_3 T (po_X1_countFrom_3 T k) 0 0 0 [some (vR 101 0), some (vI k), none, none, none, none, none, none] [] T
  have c_22 : ∀ (nn : Nat) (v : Int) (g : Int) (T1 : Zt), ((4 - g).toNat) ≤ nn → (fr_ [(434, []), (435, []), (431, [])] T T1) → (0 ≤ g ∧ -2147483648 ≤ v ∧ v ≤ 2147483647 ∧ k < T 101 0 13) → J_ zX1_countFrom_3 T (po_X1_countFrom_3 T k) 0 0 22 [some (vR 101 0), some (vI k), some (vI (T 432 0 k)), some (vI v), some (vI g), none, none, none] [] T1 := by
    intro nn
    induction nn using Nat.strongRecOn with
    | _ nn ih_22 =>
      intro v g T1 hm_22 hf_22 i1
      replace hm_22 := fun (_ : Unit) => hm_22
      have hlk := hlw k (by omega) (by omega)
      have hwk : 0 ≤ T 432 0 k ∧ T 432 0 k ≤ 11 := bd_a hT 432 (by decide +kernel : ta_ 432 = some (1, some 12, 0, 11)) 0 (by omega)
      have hpk : (-1) ≤ T 428 0 (T 432 0 k) ∧ T 428 0 (T 432 0 k) ≤ 2 := bd_a hT 428 (by decide +kernel : ta_ 428 = some (1, some 12, (-1), 2)) 0 (by omega)
      refine j_blx (F := fX1) tb_X1 (nn_ _) bk_X1_countFrom_22 bs_X1_countFrom_22 hz (fun K hK => ?_)
      intro b1 b1b
      have e2 : T1 101 0 1 = T 101 0 1 := hf_22 101 0 1 rfl
      rw [e2] at b1 b1b ⊢
      refine And.intro (fun c3 => ?_) (fun c3 => ?_)
      · refine hK 159 _ [] T1 ?_
        refine j_blx (F := fX1) tb_X1 (nn_ _) bk_X1_countFrom_159 bs_X1_countFrom_159 hz (fun K hK => ?_)
        refine (show po_X1_countFrom_3 T k T1 (some (vI v)) from ?_)
        exact ⟨_, rfl, fr_t (fr_0 _ _) (fr_s hf_22 rfl), by omega⟩
      · refine ix_i (by omega) ?_
        intro b4 b4b
        have e5 : T1 428 0 (T 432 0 k) = T 428 0 (T 432 0 k) := hf_22 428 0 (T 432 0 k) rfl
        rw [e5] at b4 b4b ⊢
        refine rg_i (by omega) ?_
        refine rg_i (by omega) ?_
        refine rg_i (by omega) ?_
        refine ix_i (by omega) ?_
        intro b6 b6b
        have e7 : T1 561 0 (T 432 0 k) = T 561 0 (T 432 0 k) := hf_22 561 0 (T 432 0 k) rfl
        rw [e7] at b6 b6b ⊢
        refine rg_i (by omega) ?_
        refine ix_i (by omega) ?_
        intro b8 b8b
        refine And.intro (fun c9 => ?_) (fun c9 => ?_)
        · refine hK 153 [some (vR 101 0), some (vI k), some (vI (T 432 0 k)), some (vI v), some (vI g), some (vI (((T 428 0 (T 432 0 k)) * 4) + g)), some (vI ((g * 8) + (T 561 0 (T 432 0 k)))), none] [] T1 ?_
          refine j_blx (F := fX1) tb_X1 (nn_ _) bk_X1_countFrom_153 bs_X1_countFrom_153 hz (fun K hK => ?_)
          refine rg_i (by omega) ?_
          refine hK 22 [some (vR 101 0), some (vI k), some (vI (T 432 0 k)), some (vI v), some (vI (g + 1)), some (vI (((T 428 0 (T 432 0 k)) * 4) + g)), some (vI ((g * 8) + (T 561 0 (T 432 0 k)))), none] [] T1 ?_
          refine j_drq [some (vR 101 0), some (vI k), some (vI (T 432 0 k)), some (vI v), some (vI (g + 1)), none, none, none] (drq_s (drq_s (drq_s (drq_s (drq_s (drq_n (drq_n (drq_n drq_0)))))))) ?_
          refine ih_22 _ ?_ v (g + 1) T1 (Nat.le_refl _) ?_ ?_
          · have hm_22 := hm_22 (); omega
          · exact fr_t (fr_0 _ _) (fr_s hf_22 rfl)
          · omega
        · refine ix_i (by omega) ?_
          intro b10 b10b
          intro b11 b11b
          have e12 : T1 101 0 2 = T 101 0 2 := hf_22 101 0 2 rfl
          rw [e12] at b11 b11b ⊢
          refine And.intro (fun c13 => ?_) (fun c13 => ?_)
          · refine hK 153 [some (vR 101 0), some (vI k), some (vI (T 432 0 k)), some (vI v), some (vI g), some (vI (((T 428 0 (T 432 0 k)) * 4) + g)), some (vI ((g * 8) + (T 561 0 (T 432 0 k)))), none] [] T1 ?_
            refine j_blx (F := fX1) tb_X1 (nn_ _) bk_X1_countFrom_153 bs_X1_countFrom_153 hz (fun K hK => ?_)
            refine rg_i (by omega) ?_
            refine hK 22 [some (vR 101 0), some (vI k), some (vI (T 432 0 k)), some (vI v), some (vI (g + 1)), some (vI (((T 428 0 (T 432 0 k)) * 4) + g)), some (vI ((g * 8) + (T 561 0 (T 432 0 k)))), none] [] T1 ?_
            refine j_drq [some (vR 101 0), some (vI k), some (vI (T 432 0 k)), some (vI v), some (vI (g + 1)), none, none, none] (drq_s (drq_s (drq_s (drq_s (drq_s (drq_n (drq_n (drq_n drq_0)))))))) ?_
            refine ih_22 _ ?_ v (g + 1) T1 (Nat.le_refl _) ?_ ?_
            · have hm_22 := hm_22 (); omega
            · exact fr_t (fr_0 _ _) (fr_s hf_22 rfl)
            · omega
          · refine iy_i (by omega) (by omega) ?_
            refine x_nm (fun U14 hU14 => ?_)
            have e15 := up_f hU14
            refine ix_i (by omega) ?_
            intro b16 b16b
            have e17 : U14 435 0 ((g * 8) + (T 561 0 (T 432 0 k))) = T1 435 0 ((g * 8) + (T 561 0 (T 432 0 k))) := up_k hU14 (by exact Nat.ne_of_beq_eq_false rfl) 0 ((g * 8) + (T 561 0 (T 432 0 k)))
            rw [e17] at b16 b16b ⊢
            intro w18 w18b
            refine iy_i (by omega) (by omega) ?_
            refine x_nm (fun U19 hU19 => ?_)
            have e20 := up_f hU19
            refine rg_i (by omega) ?_
            refine hK 108 [some (vR 101 0), some (vI k), some (vI (T 432 0 k)), some (vI v), some (vI g), some (vI (((T 428 0 (T 432 0 k)) * 4) + g)), some (vI ((g * 8) + (T 561 0 (T 432 0 k)))), none] [vI (k + 1), vR 101 0] U19 ?_
            have e21 : U19 101 0 13 = T 101 0 13 := (up_k hU19 (by exact Nat.ne_of_beq_eq_false rfl) 0 13).trans ((up_k hU14 (by exact Nat.ne_of_beq_eq_false rfl) 0 13).trans (hf_22 101 0 13 rfl))
            refine j_callV (y := yX1_countFrom) (Yc := zX1_countFrom_2) (rest := []) [vI (k + 1)] (ct_X1_countFrom_2 (T := U19) (LW8_f hlw (show fr_ [(434, []), (435, []), (431, [])] T U19 from fr_u (fr_u (fr_t (fr_0 _ _) (fr_s hf_22 rfl)) hU14 rfl) hU19 rfl) ⟨rfl, fun _ => rfl, fun _ => rfl⟩) (by omega)) cl_X1_68_zX1_countFrom_2 (qd_c (by decide +kernel)) (nn_ _) rfl (rf_of rfl) (Nat.le_of_ble_eq_true rfl) (Nat.le_of_ble_eq_true rfl) (Nat.le_of_ble_eq_true rfl) rfl ?_
            rintro U22 _ ⟨x23, rfl, fU22, qU22⟩
            show J_ zX1_countFrom_3 T (po_X1_countFrom_3 T k) 0 0 111 _ [vI x23] U22
            refine j_blx (F := fX1) tb_X1 (nn_ _) bk_X1_countFrom_111 bs_X1_countFrom_111 hz (fun K hK => ?_)
            refine rg_i (by omega) ?_
            refine rg_i (by omega) ?_
            refine ix_i (by omega) ?_
            intro b24 b24b
            intro w25 w25b
            refine iy_i (by omega) (by omega) ?_
            refine x_nm (fun U26 hU26 => ?_)
            have e27 := up_f hU26
            intro w28 w28b
            refine ix_i (by omega) ?_
            intro b29 b29b
            have e30 : U26 435 0 ((g * 8) + (T 561 0 (T 432 0 k))) = U22 435 0 ((g * 8) + (T 561 0 (T 432 0 k))) := up_k hU26 (by exact Nat.ne_of_beq_eq_false rfl) 0 ((g * 8) + (T 561 0 (T 432 0 k)))
            rw [e30] at b29 b29b ⊢
            intro w31 w31b
            refine iy_i (by omega) (by omega) ?_
            refine x_nm (fun U32 hU32 => ?_)
            have e33 := up_f hU32
            refine iy_i (by omega) (by omega) ?_
            refine x_nm (fun U34 hU34 => ?_)
            have e35 := up_f hU34
            refine rg_i (by omega) ?_
            refine hK 22 [some (vR 101 0), some (vI k), some (vI (T 432 0 k)), some (vI (wr_ (v + x23))), some (vI (g + 1)), some (vI (((T 428 0 (T 432 0 k)) * 4) + g)), some (vI ((g * 8) + (T 561 0 (T 432 0 k)))), some (vI x23)] [] U34 ?_
            refine j_drq [some (vR 101 0), some (vI k), some (vI (T 432 0 k)), some (vI (wr_ (v + x23))), some (vI (g + 1)), none, none, none] (drq_s (drq_s (drq_s (drq_s (drq_s (drq_n (drq_n (drq_n drq_0)))))))) ?_
            refine ih_22 _ ?_ (wr_ (v + x23)) (g + 1) U34 (Nat.le_refl _) ?_ ?_
            · have hm_22 := hm_22 (); omega
            · exact fr_u (fr_u (fr_u (fr_t (fr_u (fr_u (fr_t (fr_0 _ _) (fr_s hf_22 rfl)) hU14 rfl) hU19 rfl) (fr_s fU22 rfl)) hU26 rfl) hU32 rfl) hU34 rfl
            · omega
  refine j_blx (F := fX1) tb_X1 (nn_ _) bk_X1_countFrom_0 bs_X1_countFrom_0 hz (fun K hK => ?_)
  intro b36 b36b
  refine And.intro (fun c37 => ?_) (fun c37 => ?_)
  · refine hK 10 _ [] T ?_
    refine j_blx (F := fX1) tb_X1 (nn_ _) bk_X1_countFrom_10 bs_X1_countFrom_10 hz (fun K hK => ?_)
    refine ix_i (by omega) ?_
    intro b38 b38b
    refine hK 22 [some (vR 101 0), some (vI k), some (vI (T 432 0 k)), some (vI 0), some (vI 0), none, none, none] [] T ?_
    refine c_22 _ 0 0 T (Nat.le_refl _) ?_ ?_
    · exact fr_0 _ _
    · omega
  · refine (show po_X1_countFrom_3 T k T (some (vI 1)) from ?_)
    exact ⟨_, rfl, fr_0 _ _, by omega⟩
def zX1_countFrom_4 : Zm := (RX1, cX1_countFrom, 8, (some .int), { frames := 5, cells := 0, slots := 0, locals := 135 })
set_option maxRecDepth 100000 in
theorem cl_X1_68_zX1_countFrom_3 : cv_ RX1 68 yX1_countFrom zX1_countFrom_3 1 1 := ⟨gi_V (lwq_6 (dqc_m (dqc_m (dqc_m (dqc_m (dqa_m (dqa_m (List.mem_of_getElem? (i := 2) rfl))))))) rfl : Cond.methodLink RX1 68 yX1_countFrom ∈ lw_g) (lwq_6 (dqc_m (dqc_m (dqc_m (dqc_m (dqa_m (dqa_m (List.mem_of_getElem? (i := 4) rfl))))))) rfl : Cond.instanceMethod yX1_countFrom ∈ lw_g) (lw_sel 81 rfl : Cond.selects yX1_countFrom.cls yX1_countFrom yX1_countFrom ∈ lw_g) (lwq_1 (dqa_m (List.mem_of_getElem? (i := 0) rfl)) rfl : Cond.initialized yX1_countFrom.cls ∈ lw_g) (lwq_6 (dqc_m (dqc_m (dqc_m (dqc_m (dqa_m (dqa_m (List.mem_of_getElem? (i := 5) rfl))))))) rfl : Cond.code yX1_countFrom cX1_countFrom 8 (some .int) ∈ lw_g), ⟨nmh_2.1, nmh_2.2, pdq_15⟩, ⟨_, _, rfl⟩⟩
abbrev po_X1_countFrom_4 (T : Zt) (k : Int) : Zt → Option Zv → Prop := fun T' r => ∃ x : Int, r = some (vI x) ∧ fr_ [(434, []), (435, []), (431, [])] T T' ∧ (-2147483648 ≤ x ∧ x ≤ 2147483647)
set_option maxHeartbeats 4000000 in
theorem ct_X1_countFrom_4 {T : Zt} {k : Int} (hlw : LW8_ T) (hk : 0 ≤ k ∧ 8 ≤ k) : Ct_ yX1_countFrom zX1_countFrom_4 T [vR 101 0, vI k] (po_X1_countFrom_4 T k) := by
  refine ct_of pn_1 rfl rfl (Nat.le_of_ble_eq_true rfl) (fun hT hav => ?_)
  have hr_k : -2147483648 ≤ k ∧ k ≤ 2147483647 := hav (vI k) (List.mem_cons_of_mem _ List.mem_cons_self)
  have hz : zX1_countFrom_4.2.2.2.1 = some .boolean → ∀ (T' : Zt) (x : Int), po_X1_countFrom_4 T k T' (some (vI x)) → 0 ≤ x ∧ x ≤ 1 := fun h => by cases h
  have hwc : 0 ≤ T 101 0 13 ∧ T 101 0 13 ≤ 12 := bd_f hT 101 13 tl_1_13 0
  have hgr : 0 ≤ T 101 0 1 ∧ T 101 0 1 ≤ 4 := bd_f hT 101 1 tl_1_1 0
  show J_ zX1_countFrom_4 T (po_X1_countFrom_4 T k) 0 0 0 [some (vR 101 0), some (vI k), none, none, none, none, none, none] [] T
  have c_22 : ∀ (nn : Nat) (v : Int) (g : Int) (T1 : Zt), ((4 - g).toNat) ≤ nn → (fr_ [(434, []), (435, []), (431, [])] T T1) → (0 ≤ g ∧ -2147483648 ≤ v ∧ v ≤ 2147483647 ∧ k < T 101 0 13) → J_ zX1_countFrom_4 T (po_X1_countFrom_4 T k) 0 0 22 [some (vR 101 0), some (vI k), some (vI (T 432 0 k)), some (vI v), some (vI g), none, none, none] [] T1 := by
    intro nn
    induction nn using Nat.strongRecOn with
    | _ nn ih_22 =>
      intro v g T1 hm_22 hf_22 i1
      replace hm_22 := fun (_ : Unit) => hm_22
      have hlk := hlw k (by omega) (by omega)
      have hwk : 0 ≤ T 432 0 k ∧ T 432 0 k ≤ 11 := bd_a hT 432 (by decide +kernel : ta_ 432 = some (1, some 12, 0, 11)) 0 (by omega)
      have hpk : (-1) ≤ T 428 0 (T 432 0 k) ∧ T 428 0 (T 432 0 k) ≤ 2 := bd_a hT 428 (by decide +kernel : ta_ 428 = some (1, some 12, (-1), 2)) 0 (by omega)
      refine j_blx (F := fX1) tb_X1 (nn_ _) bk_X1_countFrom_22 bs_X1_countFrom_22 hz (fun K hK => ?_)
      intro b1 b1b
      have e2 : T1 101 0 1 = T 101 0 1 := hf_22 101 0 1 rfl
      rw [e2] at b1 b1b ⊢
      refine And.intro (fun c3 => ?_) (fun c3 => ?_)
      · refine hK 159 _ [] T1 ?_
        refine j_blx (F := fX1) tb_X1 (nn_ _) bk_X1_countFrom_159 bs_X1_countFrom_159 hz (fun K hK => ?_)
        refine (show po_X1_countFrom_4 T k T1 (some (vI v)) from ?_)
        exact ⟨_, rfl, fr_t (fr_0 _ _) (fr_s hf_22 rfl), by omega⟩
      · refine ix_i (by omega) ?_
        intro b4 b4b
        have e5 : T1 428 0 (T 432 0 k) = T 428 0 (T 432 0 k) := hf_22 428 0 (T 432 0 k) rfl
        rw [e5] at b4 b4b ⊢
        refine rg_i (by omega) ?_
        refine rg_i (by omega) ?_
        refine rg_i (by omega) ?_
        refine ix_i (by omega) ?_
        intro b6 b6b
        have e7 : T1 561 0 (T 432 0 k) = T 561 0 (T 432 0 k) := hf_22 561 0 (T 432 0 k) rfl
        rw [e7] at b6 b6b ⊢
        refine rg_i (by omega) ?_
        refine ix_i (by omega) ?_
        intro b8 b8b
        refine And.intro (fun c9 => ?_) (fun c9 => ?_)
        · refine hK 153 [some (vR 101 0), some (vI k), some (vI (T 432 0 k)), some (vI v), some (vI g), some (vI (((T 428 0 (T 432 0 k)) * 4) + g)), some (vI ((g * 8) + (T 561 0 (T 432 0 k)))), none] [] T1 ?_
          refine j_blx (F := fX1) tb_X1 (nn_ _) bk_X1_countFrom_153 bs_X1_countFrom_153 hz (fun K hK => ?_)
          refine rg_i (by omega) ?_
          refine hK 22 [some (vR 101 0), some (vI k), some (vI (T 432 0 k)), some (vI v), some (vI (g + 1)), some (vI (((T 428 0 (T 432 0 k)) * 4) + g)), some (vI ((g * 8) + (T 561 0 (T 432 0 k)))), none] [] T1 ?_
          refine j_drq [some (vR 101 0), some (vI k), some (vI (T 432 0 k)), some (vI v), some (vI (g + 1)), none, none, none] (drq_s (drq_s (drq_s (drq_s (drq_s (drq_n (drq_n (drq_n drq_0)))))))) ?_
          refine ih_22 _ ?_ v (g + 1) T1 (Nat.le_refl _) ?_ ?_
          · have hm_22 := hm_22 (); omega
          · exact fr_t (fr_0 _ _) (fr_s hf_22 rfl)
          · omega
        · refine ix_i (by omega) ?_
          intro b10 b10b
          intro b11 b11b
          have e12 : T1 101 0 2 = T 101 0 2 := hf_22 101 0 2 rfl
          rw [e12] at b11 b11b ⊢
          refine And.intro (fun c13 => ?_) (fun c13 => ?_)
          · refine hK 153 [some (vR 101 0), some (vI k), some (vI (T 432 0 k)), some (vI v), some (vI g), some (vI (((T 428 0 (T 432 0 k)) * 4) + g)), some (vI ((g * 8) + (T 561 0 (T 432 0 k)))), none] [] T1 ?_
            refine j_blx (F := fX1) tb_X1 (nn_ _) bk_X1_countFrom_153 bs_X1_countFrom_153 hz (fun K hK => ?_)
            refine rg_i (by omega) ?_
            refine hK 22 [some (vR 101 0), some (vI k), some (vI (T 432 0 k)), some (vI v), some (vI (g + 1)), some (vI (((T 428 0 (T 432 0 k)) * 4) + g)), some (vI ((g * 8) + (T 561 0 (T 432 0 k)))), none] [] T1 ?_
            refine j_drq [some (vR 101 0), some (vI k), some (vI (T 432 0 k)), some (vI v), some (vI (g + 1)), none, none, none] (drq_s (drq_s (drq_s (drq_s (drq_s (drq_n (drq_n (drq_n drq_0)))))))) ?_
            refine ih_22 _ ?_ v (g + 1) T1 (Nat.le_refl _) ?_ ?_
            · have hm_22 := hm_22 (); omega
            · exact fr_t (fr_0 _ _) (fr_s hf_22 rfl)
            · omega
          · refine iy_i (by omega) (by omega) ?_
            refine x_nm (fun U14 hU14 => ?_)
            have e15 := up_f hU14
            refine ix_i (by omega) ?_
            intro b16 b16b
            have e17 : U14 435 0 ((g * 8) + (T 561 0 (T 432 0 k))) = T1 435 0 ((g * 8) + (T 561 0 (T 432 0 k))) := up_k hU14 (by exact Nat.ne_of_beq_eq_false rfl) 0 ((g * 8) + (T 561 0 (T 432 0 k)))
            rw [e17] at b16 b16b ⊢
            intro w18 w18b
            refine iy_i (by omega) (by omega) ?_
            refine x_nm (fun U19 hU19 => ?_)
            have e20 := up_f hU19
            refine rg_i (by omega) ?_
            refine hK 108 [some (vR 101 0), some (vI k), some (vI (T 432 0 k)), some (vI v), some (vI g), some (vI (((T 428 0 (T 432 0 k)) * 4) + g)), some (vI ((g * 8) + (T 561 0 (T 432 0 k)))), none] [vI (k + 1), vR 101 0] U19 ?_
            have e21 : U19 101 0 13 = T 101 0 13 := (up_k hU19 (by exact Nat.ne_of_beq_eq_false rfl) 0 13).trans ((up_k hU14 (by exact Nat.ne_of_beq_eq_false rfl) 0 13).trans (hf_22 101 0 13 rfl))
            refine j_callV (y := yX1_countFrom) (Yc := zX1_countFrom_3) (rest := []) [vI (k + 1)] (ct_X1_countFrom_3 (T := U19) (LW8_f hlw (show fr_ [(434, []), (435, []), (431, [])] T U19 from fr_u (fr_u (fr_t (fr_0 _ _) (fr_s hf_22 rfl)) hU14 rfl) hU19 rfl) ⟨rfl, fun _ => rfl, fun _ => rfl⟩) (by omega)) cl_X1_68_zX1_countFrom_3 (qd_c (by decide +kernel)) (nn_ _) rfl (rf_of rfl) (Nat.le_of_ble_eq_true rfl) (Nat.le_of_ble_eq_true rfl) (Nat.le_of_ble_eq_true rfl) rfl ?_
            rintro U22 _ ⟨x23, rfl, fU22, qU22⟩
            show J_ zX1_countFrom_4 T (po_X1_countFrom_4 T k) 0 0 111 _ [vI x23] U22
            refine j_blx (F := fX1) tb_X1 (nn_ _) bk_X1_countFrom_111 bs_X1_countFrom_111 hz (fun K hK => ?_)
            refine rg_i (by omega) ?_
            refine rg_i (by omega) ?_
            refine ix_i (by omega) ?_
            intro b24 b24b
            intro w25 w25b
            refine iy_i (by omega) (by omega) ?_
            refine x_nm (fun U26 hU26 => ?_)
            have e27 := up_f hU26
            intro w28 w28b
            refine ix_i (by omega) ?_
            intro b29 b29b
            have e30 : U26 435 0 ((g * 8) + (T 561 0 (T 432 0 k))) = U22 435 0 ((g * 8) + (T 561 0 (T 432 0 k))) := up_k hU26 (by exact Nat.ne_of_beq_eq_false rfl) 0 ((g * 8) + (T 561 0 (T 432 0 k)))
            rw [e30] at b29 b29b ⊢
            intro w31 w31b
            refine iy_i (by omega) (by omega) ?_
            refine x_nm (fun U32 hU32 => ?_)
            have e33 := up_f hU32
            refine iy_i (by omega) (by omega) ?_
            refine x_nm (fun U34 hU34 => ?_)
            have e35 := up_f hU34
            refine rg_i (by omega) ?_
            refine hK 22 [some (vR 101 0), some (vI k), some (vI (T 432 0 k)), some (vI (wr_ (v + x23))), some (vI (g + 1)), some (vI (((T 428 0 (T 432 0 k)) * 4) + g)), some (vI ((g * 8) + (T 561 0 (T 432 0 k)))), some (vI x23)] [] U34 ?_
            refine j_drq [some (vR 101 0), some (vI k), some (vI (T 432 0 k)), some (vI (wr_ (v + x23))), some (vI (g + 1)), none, none, none] (drq_s (drq_s (drq_s (drq_s (drq_s (drq_n (drq_n (drq_n drq_0)))))))) ?_
            refine ih_22 _ ?_ (wr_ (v + x23)) (g + 1) U34 (Nat.le_refl _) ?_ ?_
            · have hm_22 := hm_22 (); omega
            · exact fr_u (fr_u (fr_u (fr_t (fr_u (fr_u (fr_t (fr_0 _ _) (fr_s hf_22 rfl)) hU14 rfl) hU19 rfl) (fr_s fU22 rfl)) hU26 rfl) hU32 rfl) hU34 rfl
            · omega
  refine j_blx (F := fX1) tb_X1 (nn_ _) bk_X1_countFrom_0 bs_X1_countFrom_0 hz (fun K hK => ?_)
  intro b36 b36b
  refine And.intro (fun c37 => ?_) (fun c37 => ?_)
  · refine hK 10 _ [] T ?_
    refine j_blx (F := fX1) tb_X1 (nn_ _) bk_X1_countFrom_10 bs_X1_countFrom_10 hz (fun K hK => ?_)
    refine ix_i (by omega) ?_
    intro b38 b38b
    refine hK 22 [some (vR 101 0), some (vI k), some (vI (T 432 0 k)), some (vI 0), some (vI 0), none, none, none] [] T ?_
    refine c_22 _ 0 0 T (Nat.le_refl _) ?_ ?_
    · exact fr_0 _ _
    · omega
  · refine (show po_X1_countFrom_4 T k T (some (vI 1)) from ?_)
    exact ⟨_, rfl, fr_0 _ _, by omega⟩
def zX1_countFrom_5 : Zm := (RX1, cX1_countFrom, 8, (some .int), { frames := 6, cells := 0, slots := 0, locals := 162 })
set_option maxRecDepth 100000 in
theorem cl_X1_68_zX1_countFrom_4 : cv_ RX1 68 yX1_countFrom zX1_countFrom_4 1 1 := ⟨gi_V (lwq_6 (dqc_m (dqc_m (dqc_m (dqc_m (dqa_m (dqa_m (List.mem_of_getElem? (i := 2) rfl))))))) rfl : Cond.methodLink RX1 68 yX1_countFrom ∈ lw_g) (lwq_6 (dqc_m (dqc_m (dqc_m (dqc_m (dqa_m (dqa_m (List.mem_of_getElem? (i := 4) rfl))))))) rfl : Cond.instanceMethod yX1_countFrom ∈ lw_g) (lw_sel 81 rfl : Cond.selects yX1_countFrom.cls yX1_countFrom yX1_countFrom ∈ lw_g) (lwq_1 (dqa_m (List.mem_of_getElem? (i := 0) rfl)) rfl : Cond.initialized yX1_countFrom.cls ∈ lw_g) (lwq_6 (dqc_m (dqc_m (dqc_m (dqc_m (dqa_m (dqa_m (List.mem_of_getElem? (i := 5) rfl))))))) rfl : Cond.code yX1_countFrom cX1_countFrom 8 (some .int) ∈ lw_g), ⟨nmh_2.1, nmh_2.2, pdq_15⟩, ⟨_, _, rfl⟩⟩
abbrev po_X1_countFrom_5 (T : Zt) (k : Int) : Zt → Option Zv → Prop := fun T' r => ∃ x : Int, r = some (vI x) ∧ fr_ [(434, []), (435, []), (431, [])] T T' ∧ (-2147483648 ≤ x ∧ x ≤ 2147483647)
set_option maxHeartbeats 4000000 in
theorem ct_X1_countFrom_5 {T : Zt} {k : Int} (hlw : LW8_ T) (hk : 0 ≤ k ∧ 7 ≤ k) : Ct_ yX1_countFrom zX1_countFrom_5 T [vR 101 0, vI k] (po_X1_countFrom_5 T k) := by
  refine ct_of pn_1 rfl rfl (Nat.le_of_ble_eq_true rfl) (fun hT hav => ?_)
  have hr_k : -2147483648 ≤ k ∧ k ≤ 2147483647 := hav (vI k) (List.mem_cons_of_mem _ List.mem_cons_self)
  have hz : zX1_countFrom_5.2.2.2.1 = some .boolean → ∀ (T' : Zt) (x : Int), po_X1_countFrom_5 T k T' (some (vI x)) → 0 ≤ x ∧ x ≤ 1 := fun h => by cases h
  have hwc : 0 ≤ T 101 0 13 ∧ T 101 0 13 ≤ 12 := bd_f hT 101 13 tl_1_13 0
  have hgr : 0 ≤ T 101 0 1 ∧ T 101 0 1 ≤ 4 := bd_f hT 101 1 tl_1_1 0
  show J_ zX1_countFrom_5 T (po_X1_countFrom_5 T k) 0 0 0 [some (vR 101 0), some (vI k), none, none, none, none, none, none] [] T
  have c_22 : ∀ (nn : Nat) (v : Int) (g : Int) (T1 : Zt), ((4 - g).toNat) ≤ nn → (fr_ [(434, []), (435, []), (431, [])] T T1) → (0 ≤ g ∧ -2147483648 ≤ v ∧ v ≤ 2147483647 ∧ k < T 101 0 13) → J_ zX1_countFrom_5 T (po_X1_countFrom_5 T k) 0 0 22 [some (vR 101 0), some (vI k), some (vI (T 432 0 k)), some (vI v), some (vI g), none, none, none] [] T1 := by
    intro nn
    induction nn using Nat.strongRecOn with
    | _ nn ih_22 =>
      intro v g T1 hm_22 hf_22 i1
      replace hm_22 := fun (_ : Unit) => hm_22
      have hlk := hlw k (by omega) (by omega)
      have hwk : 0 ≤ T 432 0 k ∧ T 432 0 k ≤ 11 := bd_a hT 432 (by decide +kernel : ta_ 432 = some (1, some 12, 0, 11)) 0 (by omega)
      have hpk : (-1) ≤ T 428 0 (T 432 0 k) ∧ T 428 0 (T 432 0 k) ≤ 2 := bd_a hT 428 (by decide +kernel : ta_ 428 = some (1, some 12, (-1), 2)) 0 (by omega)
      refine j_blx (F := fX1) tb_X1 (nn_ _) bk_X1_countFrom_22 bs_X1_countFrom_22 hz (fun K hK => ?_)
      intro b1 b1b
      have e2 : T1 101 0 1 = T 101 0 1 := hf_22 101 0 1 rfl
      rw [e2] at b1 b1b ⊢
      refine And.intro (fun c3 => ?_) (fun c3 => ?_)
      · refine hK 159 _ [] T1 ?_
        refine j_blx (F := fX1) tb_X1 (nn_ _) bk_X1_countFrom_159 bs_X1_countFrom_159 hz (fun K hK => ?_)
        refine (show po_X1_countFrom_5 T k T1 (some (vI v)) from ?_)
        exact ⟨_, rfl, fr_t (fr_0 _ _) (fr_s hf_22 rfl), by omega⟩
      · refine ix_i (by omega) ?_
        intro b4 b4b
        have e5 : T1 428 0 (T 432 0 k) = T 428 0 (T 432 0 k) := hf_22 428 0 (T 432 0 k) rfl
        rw [e5] at b4 b4b ⊢
        refine rg_i (by omega) ?_
        refine rg_i (by omega) ?_
        refine rg_i (by omega) ?_
        refine ix_i (by omega) ?_
        intro b6 b6b
        have e7 : T1 561 0 (T 432 0 k) = T 561 0 (T 432 0 k) := hf_22 561 0 (T 432 0 k) rfl
        rw [e7] at b6 b6b ⊢
        refine rg_i (by omega) ?_
        refine ix_i (by omega) ?_
        intro b8 b8b
        refine And.intro (fun c9 => ?_) (fun c9 => ?_)
        · refine hK 153 [some (vR 101 0), some (vI k), some (vI (T 432 0 k)), some (vI v), some (vI g), some (vI (((T 428 0 (T 432 0 k)) * 4) + g)), some (vI ((g * 8) + (T 561 0 (T 432 0 k)))), none] [] T1 ?_
          refine j_blx (F := fX1) tb_X1 (nn_ _) bk_X1_countFrom_153 bs_X1_countFrom_153 hz (fun K hK => ?_)
          refine rg_i (by omega) ?_
          refine hK 22 [some (vR 101 0), some (vI k), some (vI (T 432 0 k)), some (vI v), some (vI (g + 1)), some (vI (((T 428 0 (T 432 0 k)) * 4) + g)), some (vI ((g * 8) + (T 561 0 (T 432 0 k)))), none] [] T1 ?_
          refine j_drq [some (vR 101 0), some (vI k), some (vI (T 432 0 k)), some (vI v), some (vI (g + 1)), none, none, none] (drq_s (drq_s (drq_s (drq_s (drq_s (drq_n (drq_n (drq_n drq_0)))))))) ?_
          refine ih_22 _ ?_ v (g + 1) T1 (Nat.le_refl _) ?_ ?_
          · have hm_22 := hm_22 (); omega
          · exact fr_t (fr_0 _ _) (fr_s hf_22 rfl)
          · omega
        · refine ix_i (by omega) ?_
          intro b10 b10b
          intro b11 b11b
          have e12 : T1 101 0 2 = T 101 0 2 := hf_22 101 0 2 rfl
          rw [e12] at b11 b11b ⊢
          refine And.intro (fun c13 => ?_) (fun c13 => ?_)
          · refine hK 153 [some (vR 101 0), some (vI k), some (vI (T 432 0 k)), some (vI v), some (vI g), some (vI (((T 428 0 (T 432 0 k)) * 4) + g)), some (vI ((g * 8) + (T 561 0 (T 432 0 k)))), none] [] T1 ?_
            refine j_blx (F := fX1) tb_X1 (nn_ _) bk_X1_countFrom_153 bs_X1_countFrom_153 hz (fun K hK => ?_)
            refine rg_i (by omega) ?_
            refine hK 22 [some (vR 101 0), some (vI k), some (vI (T 432 0 k)), some (vI v), some (vI (g + 1)), some (vI (((T 428 0 (T 432 0 k)) * 4) + g)), some (vI ((g * 8) + (T 561 0 (T 432 0 k)))), none] [] T1 ?_
            refine j_drq [some (vR 101 0), some (vI k), some (vI (T 432 0 k)), some (vI v), some (vI (g + 1)), none, none, none] (drq_s (drq_s (drq_s (drq_s (drq_s (drq_n (drq_n (drq_n drq_0)))))))) ?_
            refine ih_22 _ ?_ v (g + 1) T1 (Nat.le_refl _) ?_ ?_
            · have hm_22 := hm_22 (); omega
            · exact fr_t (fr_0 _ _) (fr_s hf_22 rfl)
            · omega
          · refine iy_i (by omega) (by omega) ?_
            refine x_nm (fun U14 hU14 => ?_)
            have e15 := up_f hU14
            refine ix_i (by omega) ?_
            intro b16 b16b
            have e17 : U14 435 0 ((g * 8) + (T 561 0 (T 432 0 k))) = T1 435 0 ((g * 8) + (T 561 0 (T 432 0 k))) := up_k hU14 (by exact Nat.ne_of_beq_eq_false rfl) 0 ((g * 8) + (T 561 0 (T 432 0 k)))
            rw [e17] at b16 b16b ⊢
            intro w18 w18b
            refine iy_i (by omega) (by omega) ?_
            refine x_nm (fun U19 hU19 => ?_)
            have e20 := up_f hU19
            refine rg_i (by omega) ?_
            refine hK 108 [some (vR 101 0), some (vI k), some (vI (T 432 0 k)), some (vI v), some (vI g), some (vI (((T 428 0 (T 432 0 k)) * 4) + g)), some (vI ((g * 8) + (T 561 0 (T 432 0 k)))), none] [vI (k + 1), vR 101 0] U19 ?_
            have e21 : U19 101 0 13 = T 101 0 13 := (up_k hU19 (by exact Nat.ne_of_beq_eq_false rfl) 0 13).trans ((up_k hU14 (by exact Nat.ne_of_beq_eq_false rfl) 0 13).trans (hf_22 101 0 13 rfl))
            refine j_callV (y := yX1_countFrom) (Yc := zX1_countFrom_4) (rest := []) [vI (k + 1)] (ct_X1_countFrom_4 (T := U19) (LW8_f hlw (show fr_ [(434, []), (435, []), (431, [])] T U19 from fr_u (fr_u (fr_t (fr_0 _ _) (fr_s hf_22 rfl)) hU14 rfl) hU19 rfl) ⟨rfl, fun _ => rfl, fun _ => rfl⟩) (by omega)) cl_X1_68_zX1_countFrom_4 (qd_c (by decide +kernel)) (nn_ _) rfl (rf_of rfl) (Nat.le_of_ble_eq_true rfl) (Nat.le_of_ble_eq_true rfl) (Nat.le_of_ble_eq_true rfl) rfl ?_
            rintro U22 _ ⟨x23, rfl, fU22, qU22⟩
            show J_ zX1_countFrom_5 T (po_X1_countFrom_5 T k) 0 0 111 _ [vI x23] U22
            refine j_blx (F := fX1) tb_X1 (nn_ _) bk_X1_countFrom_111 bs_X1_countFrom_111 hz (fun K hK => ?_)
            refine rg_i (by omega) ?_
            refine rg_i (by omega) ?_
            refine ix_i (by omega) ?_
            intro b24 b24b
            intro w25 w25b
            refine iy_i (by omega) (by omega) ?_
            refine x_nm (fun U26 hU26 => ?_)
            have e27 := up_f hU26
            intro w28 w28b
            refine ix_i (by omega) ?_
            intro b29 b29b
            have e30 : U26 435 0 ((g * 8) + (T 561 0 (T 432 0 k))) = U22 435 0 ((g * 8) + (T 561 0 (T 432 0 k))) := up_k hU26 (by exact Nat.ne_of_beq_eq_false rfl) 0 ((g * 8) + (T 561 0 (T 432 0 k)))
            rw [e30] at b29 b29b ⊢
            intro w31 w31b
            refine iy_i (by omega) (by omega) ?_
            refine x_nm (fun U32 hU32 => ?_)
            have e33 := up_f hU32
            refine iy_i (by omega) (by omega) ?_
            refine x_nm (fun U34 hU34 => ?_)
            have e35 := up_f hU34
            refine rg_i (by omega) ?_
            refine hK 22 [some (vR 101 0), some (vI k), some (vI (T 432 0 k)), some (vI (wr_ (v + x23))), some (vI (g + 1)), some (vI (((T 428 0 (T 432 0 k)) * 4) + g)), some (vI ((g * 8) + (T 561 0 (T 432 0 k)))), some (vI x23)] [] U34 ?_
            refine j_drq [some (vR 101 0), some (vI k), some (vI (T 432 0 k)), some (vI (wr_ (v + x23))), some (vI (g + 1)), none, none, none] (drq_s (drq_s (drq_s (drq_s (drq_s (drq_n (drq_n (drq_n drq_0)))))))) ?_
            refine ih_22 _ ?_ (wr_ (v + x23)) (g + 1) U34 (Nat.le_refl _) ?_ ?_
            · have hm_22 := hm_22 (); omega
            · exact fr_u (fr_u (fr_u (fr_t (fr_u (fr_u (fr_t (fr_0 _ _) (fr_s hf_22 rfl)) hU14 rfl) hU19 rfl) (fr_s fU22 rfl)) hU26 rfl) hU32 rfl) hU34 rfl
            · omega
  refine j_blx (F := fX1) tb_X1 (nn_ _) bk_X1_countFrom_0 bs_X1_countFrom_0 hz (fun K hK => ?_)
  intro b36 b36b
  refine And.intro (fun c37 => ?_) (fun c37 => ?_)
  · refine hK 10 _ [] T ?_
    refine j_blx (F := fX1) tb_X1 (nn_ _) bk_X1_countFrom_10 bs_X1_countFrom_10 hz (fun K hK => ?_)
    refine ix_i (by omega) ?_
    intro b38 b38b
    refine hK 22 [some (vR 101 0), some (vI k), some (vI (T 432 0 k)), some (vI 0), some (vI 0), none, none, none] [] T ?_
    refine c_22 _ 0 0 T (Nat.le_refl _) ?_ ?_
    · exact fr_0 _ _
    · omega
  · refine (show po_X1_countFrom_5 T k T (some (vI 1)) from ?_)
    exact ⟨_, rfl, fr_0 _ _, by omega⟩
def zX1_countFrom_6 : Zm := (RX1, cX1_countFrom, 8, (some .int), { frames := 7, cells := 0, slots := 0, locals := 189 })
set_option maxRecDepth 100000 in
theorem cl_X1_68_zX1_countFrom_5 : cv_ RX1 68 yX1_countFrom zX1_countFrom_5 1 1 := ⟨gi_V (lwq_6 (dqc_m (dqc_m (dqc_m (dqc_m (dqa_m (dqa_m (List.mem_of_getElem? (i := 2) rfl))))))) rfl : Cond.methodLink RX1 68 yX1_countFrom ∈ lw_g) (lwq_6 (dqc_m (dqc_m (dqc_m (dqc_m (dqa_m (dqa_m (List.mem_of_getElem? (i := 4) rfl))))))) rfl : Cond.instanceMethod yX1_countFrom ∈ lw_g) (lw_sel 81 rfl : Cond.selects yX1_countFrom.cls yX1_countFrom yX1_countFrom ∈ lw_g) (lwq_1 (dqa_m (List.mem_of_getElem? (i := 0) rfl)) rfl : Cond.initialized yX1_countFrom.cls ∈ lw_g) (lwq_6 (dqc_m (dqc_m (dqc_m (dqc_m (dqa_m (dqa_m (List.mem_of_getElem? (i := 5) rfl))))))) rfl : Cond.code yX1_countFrom cX1_countFrom 8 (some .int) ∈ lw_g), ⟨nmh_2.1, nmh_2.2, pdq_15⟩, ⟨_, _, rfl⟩⟩
abbrev po_X1_countFrom_6 (T : Zt) (k : Int) : Zt → Option Zv → Prop := fun T' r => ∃ x : Int, r = some (vI x) ∧ fr_ [(434, []), (435, []), (431, [])] T T' ∧ (-2147483648 ≤ x ∧ x ≤ 2147483647)
set_option maxHeartbeats 4000000 in
theorem ct_X1_countFrom_6 {T : Zt} {k : Int} (hlw : LW8_ T) (hk : 0 ≤ k ∧ 6 ≤ k) : Ct_ yX1_countFrom zX1_countFrom_6 T [vR 101 0, vI k] (po_X1_countFrom_6 T k) := by
  refine ct_of pn_1 rfl rfl (Nat.le_of_ble_eq_true rfl) (fun hT hav => ?_)
  have hr_k : -2147483648 ≤ k ∧ k ≤ 2147483647 := hav (vI k) (List.mem_cons_of_mem _ List.mem_cons_self)
  have hz : zX1_countFrom_6.2.2.2.1 = some .boolean → ∀ (T' : Zt) (x : Int), po_X1_countFrom_6 T k T' (some (vI x)) → 0 ≤ x ∧ x ≤ 1 := fun h => by cases h
  have hwc : 0 ≤ T 101 0 13 ∧ T 101 0 13 ≤ 12 := bd_f hT 101 13 tl_1_13 0
  have hgr : 0 ≤ T 101 0 1 ∧ T 101 0 1 ≤ 4 := bd_f hT 101 1 tl_1_1 0
  show J_ zX1_countFrom_6 T (po_X1_countFrom_6 T k) 0 0 0 [some (vR 101 0), some (vI k), none, none, none, none, none, none] [] T
  have c_22 : ∀ (nn : Nat) (v : Int) (g : Int) (T1 : Zt), ((4 - g).toNat) ≤ nn → (fr_ [(434, []), (435, []), (431, [])] T T1) → (0 ≤ g ∧ -2147483648 ≤ v ∧ v ≤ 2147483647 ∧ k < T 101 0 13) → J_ zX1_countFrom_6 T (po_X1_countFrom_6 T k) 0 0 22 [some (vR 101 0), some (vI k), some (vI (T 432 0 k)), some (vI v), some (vI g), none, none, none] [] T1 := by
    intro nn
    induction nn using Nat.strongRecOn with
    | _ nn ih_22 =>
      intro v g T1 hm_22 hf_22 i1
      replace hm_22 := fun (_ : Unit) => hm_22
      have hlk := hlw k (by omega) (by omega)
      have hwk : 0 ≤ T 432 0 k ∧ T 432 0 k ≤ 11 := bd_a hT 432 (by decide +kernel : ta_ 432 = some (1, some 12, 0, 11)) 0 (by omega)
      have hpk : (-1) ≤ T 428 0 (T 432 0 k) ∧ T 428 0 (T 432 0 k) ≤ 2 := bd_a hT 428 (by decide +kernel : ta_ 428 = some (1, some 12, (-1), 2)) 0 (by omega)
      refine j_blx (F := fX1) tb_X1 (nn_ _) bk_X1_countFrom_22 bs_X1_countFrom_22 hz (fun K hK => ?_)
      intro b1 b1b
      have e2 : T1 101 0 1 = T 101 0 1 := hf_22 101 0 1 rfl
      rw [e2] at b1 b1b ⊢
      refine And.intro (fun c3 => ?_) (fun c3 => ?_)
      · refine hK 159 _ [] T1 ?_
        refine j_blx (F := fX1) tb_X1 (nn_ _) bk_X1_countFrom_159 bs_X1_countFrom_159 hz (fun K hK => ?_)
        refine (show po_X1_countFrom_6 T k T1 (some (vI v)) from ?_)
        exact ⟨_, rfl, fr_t (fr_0 _ _) (fr_s hf_22 rfl), by omega⟩
      · refine ix_i (by omega) ?_
        intro b4 b4b
        have e5 : T1 428 0 (T 432 0 k) = T 428 0 (T 432 0 k) := hf_22 428 0 (T 432 0 k) rfl
        rw [e5] at b4 b4b ⊢
        refine rg_i (by omega) ?_
        refine rg_i (by omega) ?_
        refine rg_i (by omega) ?_
        refine ix_i (by omega) ?_
        intro b6 b6b
        have e7 : T1 561 0 (T 432 0 k) = T 561 0 (T 432 0 k) := hf_22 561 0 (T 432 0 k) rfl
        rw [e7] at b6 b6b ⊢
        refine rg_i (by omega) ?_
        refine ix_i (by omega) ?_
        intro b8 b8b
        refine And.intro (fun c9 => ?_) (fun c9 => ?_)
        · refine hK 153 [some (vR 101 0), some (vI k), some (vI (T 432 0 k)), some (vI v), some (vI g), some (vI (((T 428 0 (T 432 0 k)) * 4) + g)), some (vI ((g * 8) + (T 561 0 (T 432 0 k)))), none] [] T1 ?_
          refine j_blx (F := fX1) tb_X1 (nn_ _) bk_X1_countFrom_153 bs_X1_countFrom_153 hz (fun K hK => ?_)
          refine rg_i (by omega) ?_
          refine hK 22 [some (vR 101 0), some (vI k), some (vI (T 432 0 k)), some (vI v), some (vI (g + 1)), some (vI (((T 428 0 (T 432 0 k)) * 4) + g)), some (vI ((g * 8) + (T 561 0 (T 432 0 k)))), none] [] T1 ?_
          refine j_drq [some (vR 101 0), some (vI k), some (vI (T 432 0 k)), some (vI v), some (vI (g + 1)), none, none, none] (drq_s (drq_s (drq_s (drq_s (drq_s (drq_n (drq_n (drq_n drq_0)))))))) ?_
          refine ih_22 _ ?_ v (g + 1) T1 (Nat.le_refl _) ?_ ?_
          · have hm_22 := hm_22 (); omega
          · exact fr_t (fr_0 _ _) (fr_s hf_22 rfl)
          · omega
        · refine ix_i (by omega) ?_
          intro b10 b10b
          intro b11 b11b
          have e12 : T1 101 0 2 = T 101 0 2 := hf_22 101 0 2 rfl
          rw [e12] at b11 b11b ⊢
          refine And.intro (fun c13 => ?_) (fun c13 => ?_)
          · refine hK 153 [some (vR 101 0), some (vI k), some (vI (T 432 0 k)), some (vI v), some (vI g), some (vI (((T 428 0 (T 432 0 k)) * 4) + g)), some (vI ((g * 8) + (T 561 0 (T 432 0 k)))), none] [] T1 ?_
            refine j_blx (F := fX1) tb_X1 (nn_ _) bk_X1_countFrom_153 bs_X1_countFrom_153 hz (fun K hK => ?_)
            refine rg_i (by omega) ?_
            refine hK 22 [some (vR 101 0), some (vI k), some (vI (T 432 0 k)), some (vI v), some (vI (g + 1)), some (vI (((T 428 0 (T 432 0 k)) * 4) + g)), some (vI ((g * 8) + (T 561 0 (T 432 0 k)))), none] [] T1 ?_
            refine j_drq [some (vR 101 0), some (vI k), some (vI (T 432 0 k)), some (vI v), some (vI (g + 1)), none, none, none] (drq_s (drq_s (drq_s (drq_s (drq_s (drq_n (drq_n (drq_n drq_0)))))))) ?_
            refine ih_22 _ ?_ v (g + 1) T1 (Nat.le_refl _) ?_ ?_
            · have hm_22 := hm_22 (); omega
            · exact fr_t (fr_0 _ _) (fr_s hf_22 rfl)
            · omega
          · refine iy_i (by omega) (by omega) ?_
            refine x_nm (fun U14 hU14 => ?_)
            have e15 := up_f hU14
            refine ix_i (by omega) ?_
            intro b16 b16b
            have e17 : U14 435 0 ((g * 8) + (T 561 0 (T 432 0 k))) = T1 435 0 ((g * 8) + (T 561 0 (T 432 0 k))) := up_k hU14 (by exact Nat.ne_of_beq_eq_false rfl) 0 ((g * 8) + (T 561 0 (T 432 0 k)))
            rw [e17] at b16 b16b ⊢
            intro w18 w18b
            refine iy_i (by omega) (by omega) ?_
            refine x_nm (fun U19 hU19 => ?_)
            have e20 := up_f hU19
            refine rg_i (by omega) ?_
            refine hK 108 [some (vR 101 0), some (vI k), some (vI (T 432 0 k)), some (vI v), some (vI g), some (vI (((T 428 0 (T 432 0 k)) * 4) + g)), some (vI ((g * 8) + (T 561 0 (T 432 0 k)))), none] [vI (k + 1), vR 101 0] U19 ?_
            have e21 : U19 101 0 13 = T 101 0 13 := (up_k hU19 (by exact Nat.ne_of_beq_eq_false rfl) 0 13).trans ((up_k hU14 (by exact Nat.ne_of_beq_eq_false rfl) 0 13).trans (hf_22 101 0 13 rfl))
            refine j_callV (y := yX1_countFrom) (Yc := zX1_countFrom_5) (rest := []) [vI (k + 1)] (ct_X1_countFrom_5 (T := U19) (LW8_f hlw (show fr_ [(434, []), (435, []), (431, [])] T U19 from fr_u (fr_u (fr_t (fr_0 _ _) (fr_s hf_22 rfl)) hU14 rfl) hU19 rfl) ⟨rfl, fun _ => rfl, fun _ => rfl⟩) (by omega)) cl_X1_68_zX1_countFrom_5 (qd_c (by decide +kernel)) (nn_ _) rfl (rf_of rfl) (Nat.le_of_ble_eq_true rfl) (Nat.le_of_ble_eq_true rfl) (Nat.le_of_ble_eq_true rfl) rfl ?_
            rintro U22 _ ⟨x23, rfl, fU22, qU22⟩
            show J_ zX1_countFrom_6 T (po_X1_countFrom_6 T k) 0 0 111 _ [vI x23] U22
            refine j_blx (F := fX1) tb_X1 (nn_ _) bk_X1_countFrom_111 bs_X1_countFrom_111 hz (fun K hK => ?_)
            refine rg_i (by omega) ?_
            refine rg_i (by omega) ?_
            refine ix_i (by omega) ?_
            intro b24 b24b
            intro w25 w25b
            refine iy_i (by omega) (by omega) ?_
            refine x_nm (fun U26 hU26 => ?_)
            have e27 := up_f hU26
            intro w28 w28b
            refine ix_i (by omega) ?_
            intro b29 b29b
            have e30 : U26 435 0 ((g * 8) + (T 561 0 (T 432 0 k))) = U22 435 0 ((g * 8) + (T 561 0 (T 432 0 k))) := up_k hU26 (by exact Nat.ne_of_beq_eq_false rfl) 0 ((g * 8) + (T 561 0 (T 432 0 k)))
            rw [e30] at b29 b29b ⊢
            intro w31 w31b
            refine iy_i (by omega) (by omega) ?_
            refine x_nm (fun U32 hU32 => ?_)
            have e33 := up_f hU32
            refine iy_i (by omega) (by omega) ?_
            refine x_nm (fun U34 hU34 => ?_)
            have e35 := up_f hU34
            refine rg_i (by omega) ?_
            refine hK 22 [some (vR 101 0), some (vI k), some (vI (T 432 0 k)), some (vI (wr_ (v + x23))), some (vI (g + 1)), some (vI (((T 428 0 (T 432 0 k)) * 4) + g)), some (vI ((g * 8) + (T 561 0 (T 432 0 k)))), some (vI x23)] [] U34 ?_
            refine j_drq [some (vR 101 0), some (vI k), some (vI (T 432 0 k)), some (vI (wr_ (v + x23))), some (vI (g + 1)), none, none, none] (drq_s (drq_s (drq_s (drq_s (drq_s (drq_n (drq_n (drq_n drq_0)))))))) ?_
            refine ih_22 _ ?_ (wr_ (v + x23)) (g + 1) U34 (Nat.le_refl _) ?_ ?_
            · have hm_22 := hm_22 (); omega
            · exact fr_u (fr_u (fr_u (fr_t (fr_u (fr_u (fr_t (fr_0 _ _) (fr_s hf_22 rfl)) hU14 rfl) hU19 rfl) (fr_s fU22 rfl)) hU26 rfl) hU32 rfl) hU34 rfl
            · omega
  refine j_blx (F := fX1) tb_X1 (nn_ _) bk_X1_countFrom_0 bs_X1_countFrom_0 hz (fun K hK => ?_)
  intro b36 b36b
  refine And.intro (fun c37 => ?_) (fun c37 => ?_)
  · refine hK 10 _ [] T ?_
    refine j_blx (F := fX1) tb_X1 (nn_ _) bk_X1_countFrom_10 bs_X1_countFrom_10 hz (fun K hK => ?_)
    refine ix_i (by omega) ?_
    intro b38 b38b
    refine hK 22 [some (vR 101 0), some (vI k), some (vI (T 432 0 k)), some (vI 0), some (vI 0), none, none, none] [] T ?_
    refine c_22 _ 0 0 T (Nat.le_refl _) ?_ ?_
    · exact fr_0 _ _
    · omega
  · refine (show po_X1_countFrom_6 T k T (some (vI 1)) from ?_)
    exact ⟨_, rfl, fr_0 _ _, by omega⟩
def zX1_countFrom_7 : Zm := (RX1, cX1_countFrom, 8, (some .int), { frames := 8, cells := 0, slots := 0, locals := 216 })
set_option maxRecDepth 100000 in
theorem cl_X1_68_zX1_countFrom_6 : cv_ RX1 68 yX1_countFrom zX1_countFrom_6 1 1 := ⟨gi_V (lwq_6 (dqc_m (dqc_m (dqc_m (dqc_m (dqa_m (dqa_m (List.mem_of_getElem? (i := 2) rfl))))))) rfl : Cond.methodLink RX1 68 yX1_countFrom ∈ lw_g) (lwq_6 (dqc_m (dqc_m (dqc_m (dqc_m (dqa_m (dqa_m (List.mem_of_getElem? (i := 4) rfl))))))) rfl : Cond.instanceMethod yX1_countFrom ∈ lw_g) (lw_sel 81 rfl : Cond.selects yX1_countFrom.cls yX1_countFrom yX1_countFrom ∈ lw_g) (lwq_1 (dqa_m (List.mem_of_getElem? (i := 0) rfl)) rfl : Cond.initialized yX1_countFrom.cls ∈ lw_g) (lwq_6 (dqc_m (dqc_m (dqc_m (dqc_m (dqa_m (dqa_m (List.mem_of_getElem? (i := 5) rfl))))))) rfl : Cond.code yX1_countFrom cX1_countFrom 8 (some .int) ∈ lw_g), ⟨nmh_2.1, nmh_2.2, pdq_15⟩, ⟨_, _, rfl⟩⟩
abbrev po_X1_countFrom_7 (T : Zt) (k : Int) : Zt → Option Zv → Prop := fun T' r => ∃ x : Int, r = some (vI x) ∧ fr_ [(434, []), (435, []), (431, [])] T T' ∧ (-2147483648 ≤ x ∧ x ≤ 2147483647)
set_option maxHeartbeats 4000000 in
theorem ct_X1_countFrom_7 {T : Zt} {k : Int} (hlw : LW8_ T) (hk : 0 ≤ k ∧ 5 ≤ k) : Ct_ yX1_countFrom zX1_countFrom_7 T [vR 101 0, vI k] (po_X1_countFrom_7 T k) := by
  refine ct_of pn_1 rfl rfl (Nat.le_of_ble_eq_true rfl) (fun hT hav => ?_)
  have hr_k : -2147483648 ≤ k ∧ k ≤ 2147483647 := hav (vI k) (List.mem_cons_of_mem _ List.mem_cons_self)
  have hz : zX1_countFrom_7.2.2.2.1 = some .boolean → ∀ (T' : Zt) (x : Int), po_X1_countFrom_7 T k T' (some (vI x)) → 0 ≤ x ∧ x ≤ 1 := fun h => by cases h
  have hwc : 0 ≤ T 101 0 13 ∧ T 101 0 13 ≤ 12 := bd_f hT 101 13 tl_1_13 0
  have hgr : 0 ≤ T 101 0 1 ∧ T 101 0 1 ≤ 4 := bd_f hT 101 1 tl_1_1 0
  show J_ zX1_countFrom_7 T (po_X1_countFrom_7 T k) 0 0 0 [some (vR 101 0), some (vI k), none, none, none, none, none, none] [] T
  have c_22 : ∀ (nn : Nat) (v : Int) (g : Int) (T1 : Zt), ((4 - g).toNat) ≤ nn → (fr_ [(434, []), (435, []), (431, [])] T T1) → (0 ≤ g ∧ -2147483648 ≤ v ∧ v ≤ 2147483647 ∧ k < T 101 0 13) → J_ zX1_countFrom_7 T (po_X1_countFrom_7 T k) 0 0 22 [some (vR 101 0), some (vI k), some (vI (T 432 0 k)), some (vI v), some (vI g), none, none, none] [] T1 := by
    intro nn
    induction nn using Nat.strongRecOn with
    | _ nn ih_22 =>
      intro v g T1 hm_22 hf_22 i1
      replace hm_22 := fun (_ : Unit) => hm_22
      have hlk := hlw k (by omega) (by omega)
      have hwk : 0 ≤ T 432 0 k ∧ T 432 0 k ≤ 11 := bd_a hT 432 (by decide +kernel : ta_ 432 = some (1, some 12, 0, 11)) 0 (by omega)
      have hpk : (-1) ≤ T 428 0 (T 432 0 k) ∧ T 428 0 (T 432 0 k) ≤ 2 := bd_a hT 428 (by decide +kernel : ta_ 428 = some (1, some 12, (-1), 2)) 0 (by omega)
      refine j_blx (F := fX1) tb_X1 (nn_ _) bk_X1_countFrom_22 bs_X1_countFrom_22 hz (fun K hK => ?_)
      intro b1 b1b
      have e2 : T1 101 0 1 = T 101 0 1 := hf_22 101 0 1 rfl
      rw [e2] at b1 b1b ⊢
      refine And.intro (fun c3 => ?_) (fun c3 => ?_)
      · refine hK 159 _ [] T1 ?_
        refine j_blx (F := fX1) tb_X1 (nn_ _) bk_X1_countFrom_159 bs_X1_countFrom_159 hz (fun K hK => ?_)
        refine (show po_X1_countFrom_7 T k T1 (some (vI v)) from ?_)
        exact ⟨_, rfl, fr_t (fr_0 _ _) (fr_s hf_22 rfl), by omega⟩
      · refine ix_i (by omega) ?_
        intro b4 b4b
        have e5 : T1 428 0 (T 432 0 k) = T 428 0 (T 432 0 k) := hf_22 428 0 (T 432 0 k) rfl
        rw [e5] at b4 b4b ⊢
        refine rg_i (by omega) ?_
        refine rg_i (by omega) ?_
        refine rg_i (by omega) ?_
        refine ix_i (by omega) ?_
        intro b6 b6b
        have e7 : T1 561 0 (T 432 0 k) = T 561 0 (T 432 0 k) := hf_22 561 0 (T 432 0 k) rfl
        rw [e7] at b6 b6b ⊢
        refine rg_i (by omega) ?_
        refine ix_i (by omega) ?_
        intro b8 b8b
        refine And.intro (fun c9 => ?_) (fun c9 => ?_)
        · refine hK 153 [some (vR 101 0), some (vI k), some (vI (T 432 0 k)), some (vI v), some (vI g), some (vI (((T 428 0 (T 432 0 k)) * 4) + g)), some (vI ((g * 8) + (T 561 0 (T 432 0 k)))), none] [] T1 ?_
          refine j_blx (F := fX1) tb_X1 (nn_ _) bk_X1_countFrom_153 bs_X1_countFrom_153 hz (fun K hK => ?_)
          refine rg_i (by omega) ?_
          refine hK 22 [some (vR 101 0), some (vI k), some (vI (T 432 0 k)), some (vI v), some (vI (g + 1)), some (vI (((T 428 0 (T 432 0 k)) * 4) + g)), some (vI ((g * 8) + (T 561 0 (T 432 0 k)))), none] [] T1 ?_
          refine j_drq [some (vR 101 0), some (vI k), some (vI (T 432 0 k)), some (vI v), some (vI (g + 1)), none, none, none] (drq_s (drq_s (drq_s (drq_s (drq_s (drq_n (drq_n (drq_n drq_0)))))))) ?_
          refine ih_22 _ ?_ v (g + 1) T1 (Nat.le_refl _) ?_ ?_
          · have hm_22 := hm_22 (); omega
          · exact fr_t (fr_0 _ _) (fr_s hf_22 rfl)
          · omega
        · refine ix_i (by omega) ?_
          intro b10 b10b
          intro b11 b11b
          have e12 : T1 101 0 2 = T 101 0 2 := hf_22 101 0 2 rfl
          rw [e12] at b11 b11b ⊢
          refine And.intro (fun c13 => ?_) (fun c13 => ?_)
          · refine hK 153 [some (vR 101 0), some (vI k), some (vI (T 432 0 k)), some (vI v), some (vI g), some (vI (((T 428 0 (T 432 0 k)) * 4) + g)), some (vI ((g * 8) + (T 561 0 (T 432 0 k)))), none] [] T1 ?_
            refine j_blx (F := fX1) tb_X1 (nn_ _) bk_X1_countFrom_153 bs_X1_countFrom_153 hz (fun K hK => ?_)
            refine rg_i (by omega) ?_
            refine hK 22 [some (vR 101 0), some (vI k), some (vI (T 432 0 k)), some (vI v), some (vI (g + 1)), some (vI (((T 428 0 (T 432 0 k)) * 4) + g)), some (vI ((g * 8) + (T 561 0 (T 432 0 k)))), none] [] T1 ?_
            refine j_drq [some (vR 101 0), some (vI k), some (vI (T 432 0 k)), some (vI v), some (vI (g + 1)), none, none, none] (drq_s (drq_s (drq_s (drq_s (drq_s (drq_n (drq_n (drq_n drq_0)))))))) ?_
            refine ih_22 _ ?_ v (g + 1) T1 (Nat.le_refl _) ?_ ?_
            · have hm_22 := hm_22 (); omega
            · exact fr_t (fr_0 _ _) (fr_s hf_22 rfl)
            · omega
          · refine iy_i (by omega) (by omega) ?_
            refine x_nm (fun U14 hU14 => ?_)
            have e15 := up_f hU14
            refine ix_i (by omega) ?_
            intro b16 b16b
            have e17 : U14 435 0 ((g * 8) + (T 561 0 (T 432 0 k))) = T1 435 0 ((g * 8) + (T 561 0 (T 432 0 k))) := up_k hU14 (by exact Nat.ne_of_beq_eq_false rfl) 0 ((g * 8) + (T 561 0 (T 432 0 k)))
            rw [e17] at b16 b16b ⊢
            intro w18 w18b
            refine iy_i (by omega) (by omega) ?_
            refine x_nm (fun U19 hU19 => ?_)
            have e20 := up_f hU19
            refine rg_i (by omega) ?_
            refine hK 108 [some (vR 101 0), some (vI k), some (vI (T 432 0 k)), some (vI v), some (vI g), some (vI (((T 428 0 (T 432 0 k)) * 4) + g)), some (vI ((g * 8) + (T 561 0 (T 432 0 k)))), none] [vI (k + 1), vR 101 0] U19 ?_
            have e21 : U19 101 0 13 = T 101 0 13 := (up_k hU19 (by exact Nat.ne_of_beq_eq_false rfl) 0 13).trans ((up_k hU14 (by exact Nat.ne_of_beq_eq_false rfl) 0 13).trans (hf_22 101 0 13 rfl))
            refine j_callV (y := yX1_countFrom) (Yc := zX1_countFrom_6) (rest := []) [vI (k + 1)] (ct_X1_countFrom_6 (T := U19) (LW8_f hlw (show fr_ [(434, []), (435, []), (431, [])] T U19 from fr_u (fr_u (fr_t (fr_0 _ _) (fr_s hf_22 rfl)) hU14 rfl) hU19 rfl) ⟨rfl, fun _ => rfl, fun _ => rfl⟩) (by omega)) cl_X1_68_zX1_countFrom_6 (qd_c (by decide +kernel)) (nn_ _) rfl (rf_of rfl) (Nat.le_of_ble_eq_true rfl) (Nat.le_of_ble_eq_true rfl) (Nat.le_of_ble_eq_true rfl) rfl ?_
            rintro U22 _ ⟨x23, rfl, fU22, qU22⟩
            show J_ zX1_countFrom_7 T (po_X1_countFrom_7 T k) 0 0 111 _ [vI x23] U22
            refine j_blx (F := fX1) tb_X1 (nn_ _) bk_X1_countFrom_111 bs_X1_countFrom_111 hz (fun K hK => ?_)
            refine rg_i (by omega) ?_
            refine rg_i (by omega) ?_
            refine ix_i (by omega) ?_
            intro b24 b24b
            intro w25 w25b
            refine iy_i (by omega) (by omega) ?_
            refine x_nm (fun U26 hU26 => ?_)
            have e27 := up_f hU26
            intro w28 w28b
            refine ix_i (by omega) ?_
            intro b29 b29b
            have e30 : U26 435 0 ((g * 8) + (T 561 0 (T 432 0 k))) = U22 435 0 ((g * 8) + (T 561 0 (T 432 0 k))) := up_k hU26 (by exact Nat.ne_of_beq_eq_false rfl) 0 ((g * 8) + (T 561 0 (T 432 0 k)))
            rw [e30] at b29 b29b ⊢
            intro w31 w31b
            refine iy_i (by omega) (by omega) ?_
            refine x_nm (fun U32 hU32 => ?_)
            have e33 := up_f hU32
            refine iy_i (by omega) (by omega) ?_
            refine x_nm (fun U34 hU34 => ?_)
            have e35 := up_f hU34
            refine rg_i (by omega) ?_
            refine hK 22 [some (vR 101 0), some (vI k), some (vI (T 432 0 k)), some (vI (wr_ (v + x23))), some (vI (g + 1)), some (vI (((T 428 0 (T 432 0 k)) * 4) + g)), some (vI ((g * 8) + (T 561 0 (T 432 0 k)))), some (vI x23)] [] U34 ?_
            refine j_drq [some (vR 101 0), some (vI k), some (vI (T 432 0 k)), some (vI (wr_ (v + x23))), some (vI (g + 1)), none, none, none] (drq_s (drq_s (drq_s (drq_s (drq_s (drq_n (drq_n (drq_n drq_0)))))))) ?_
            refine ih_22 _ ?_ (wr_ (v + x23)) (g + 1) U34 (Nat.le_refl _) ?_ ?_
            · have hm_22 := hm_22 (); omega
            · exact fr_u (fr_u (fr_u (fr_t (fr_u (fr_u (fr_t (fr_0 _ _) (fr_s hf_22 rfl)) hU14 rfl) hU19 rfl) (fr_s fU22 rfl)) hU26 rfl) hU32 rfl) hU34 rfl
            · omega
  refine j_blx (F := fX1) tb_X1 (nn_ _) bk_X1_countFrom_0 bs_X1_countFrom_0 hz (fun K hK => ?_)
  intro b36 b36b
  refine And.intro (fun c37 => ?_) (fun c37 => ?_)
  · refine hK 10 _ [] T ?_
    refine j_blx (F := fX1) tb_X1 (nn_ _) bk_X1_countFrom_10 bs_X1_countFrom_10 hz (fun K hK => ?_)
    refine ix_i (by omega) ?_
    intro b38 b38b
    refine hK 22 [some (vR 101 0), some (vI k), some (vI (T 432 0 k)), some (vI 0), some (vI 0), none, none, none] [] T ?_
    refine c_22 _ 0 0 T (Nat.le_refl _) ?_ ?_
    · exact fr_0 _ _
    · omega
  · refine (show po_X1_countFrom_7 T k T (some (vI 1)) from ?_)
    exact ⟨_, rfl, fr_0 _ _, by omega⟩
def zX1_countFrom_8 : Zm := (RX1, cX1_countFrom, 8, (some .int), { frames := 9, cells := 0, slots := 0, locals := 243 })
set_option maxRecDepth 100000 in
theorem cl_X1_68_zX1_countFrom_7 : cv_ RX1 68 yX1_countFrom zX1_countFrom_7 1 1 := ⟨gi_V (lwq_6 (dqc_m (dqc_m (dqc_m (dqc_m (dqa_m (dqa_m (List.mem_of_getElem? (i := 2) rfl))))))) rfl : Cond.methodLink RX1 68 yX1_countFrom ∈ lw_g) (lwq_6 (dqc_m (dqc_m (dqc_m (dqc_m (dqa_m (dqa_m (List.mem_of_getElem? (i := 4) rfl))))))) rfl : Cond.instanceMethod yX1_countFrom ∈ lw_g) (lw_sel 81 rfl : Cond.selects yX1_countFrom.cls yX1_countFrom yX1_countFrom ∈ lw_g) (lwq_1 (dqa_m (List.mem_of_getElem? (i := 0) rfl)) rfl : Cond.initialized yX1_countFrom.cls ∈ lw_g) (lwq_6 (dqc_m (dqc_m (dqc_m (dqc_m (dqa_m (dqa_m (List.mem_of_getElem? (i := 5) rfl))))))) rfl : Cond.code yX1_countFrom cX1_countFrom 8 (some .int) ∈ lw_g), ⟨nmh_2.1, nmh_2.2, pdq_15⟩, ⟨_, _, rfl⟩⟩
abbrev po_X1_countFrom_8 (T : Zt) (k : Int) : Zt → Option Zv → Prop := fun T' r => ∃ x : Int, r = some (vI x) ∧ fr_ [(434, []), (435, []), (431, [])] T T' ∧ (-2147483648 ≤ x ∧ x ≤ 2147483647)
set_option maxHeartbeats 4000000 in
theorem ct_X1_countFrom_8 {T : Zt} {k : Int} (hlw : LW8_ T) (hk : 0 ≤ k ∧ 4 ≤ k) : Ct_ yX1_countFrom zX1_countFrom_8 T [vR 101 0, vI k] (po_X1_countFrom_8 T k) := by
  refine ct_of pn_1 rfl rfl (Nat.le_of_ble_eq_true rfl) (fun hT hav => ?_)
  have hr_k : -2147483648 ≤ k ∧ k ≤ 2147483647 := hav (vI k) (List.mem_cons_of_mem _ List.mem_cons_self)
  have hz : zX1_countFrom_8.2.2.2.1 = some .boolean → ∀ (T' : Zt) (x : Int), po_X1_countFrom_8 T k T' (some (vI x)) → 0 ≤ x ∧ x ≤ 1 := fun h => by cases h
  have hwc : 0 ≤ T 101 0 13 ∧ T 101 0 13 ≤ 12 := bd_f hT 101 13 tl_1_13 0
  have hgr : 0 ≤ T 101 0 1 ∧ T 101 0 1 ≤ 4 := bd_f hT 101 1 tl_1_1 0
  show J_ zX1_countFrom_8 T (po_X1_countFrom_8 T k) 0 0 0 [some (vR 101 0), some (vI k), none, none, none, none, none, none] [] T
  have c_22 : ∀ (nn : Nat) (v : Int) (g : Int) (T1 : Zt), ((4 - g).toNat) ≤ nn → (fr_ [(434, []), (435, []), (431, [])] T T1) → (0 ≤ g ∧ -2147483648 ≤ v ∧ v ≤ 2147483647 ∧ k < T 101 0 13) → J_ zX1_countFrom_8 T (po_X1_countFrom_8 T k) 0 0 22 [some (vR 101 0), some (vI k), some (vI (T 432 0 k)), some (vI v), some (vI g), none, none, none] [] T1 := by
    intro nn
    induction nn using Nat.strongRecOn with
    | _ nn ih_22 =>
      intro v g T1 hm_22 hf_22 i1
      replace hm_22 := fun (_ : Unit) => hm_22
      have hlk := hlw k (by omega) (by omega)
      have hwk : 0 ≤ T 432 0 k ∧ T 432 0 k ≤ 11 := bd_a hT 432 (by decide +kernel : ta_ 432 = some (1, some 12, 0, 11)) 0 (by omega)
      have hpk : (-1) ≤ T 428 0 (T 432 0 k) ∧ T 428 0 (T 432 0 k) ≤ 2 := bd_a hT 428 (by decide +kernel : ta_ 428 = some (1, some 12, (-1), 2)) 0 (by omega)
      refine j_blx (F := fX1) tb_X1 (nn_ _) bk_X1_countFrom_22 bs_X1_countFrom_22 hz (fun K hK => ?_)
      intro b1 b1b
      have e2 : T1 101 0 1 = T 101 0 1 := hf_22 101 0 1 rfl
      rw [e2] at b1 b1b ⊢
      refine And.intro (fun c3 => ?_) (fun c3 => ?_)
      · refine hK 159 _ [] T1 ?_
        refine j_blx (F := fX1) tb_X1 (nn_ _) bk_X1_countFrom_159 bs_X1_countFrom_159 hz (fun K hK => ?_)
        refine (show po_X1_countFrom_8 T k T1 (some (vI v)) from ?_)
        exact ⟨_, rfl, fr_t (fr_0 _ _) (fr_s hf_22 rfl), by omega⟩
      · refine ix_i (by omega) ?_
        intro b4 b4b
        have e5 : T1 428 0 (T 432 0 k) = T 428 0 (T 432 0 k) := hf_22 428 0 (T 432 0 k) rfl
        rw [e5] at b4 b4b ⊢
        refine rg_i (by omega) ?_
        refine rg_i (by omega) ?_
        refine rg_i (by omega) ?_
        refine ix_i (by omega) ?_
        intro b6 b6b
        have e7 : T1 561 0 (T 432 0 k) = T 561 0 (T 432 0 k) := hf_22 561 0 (T 432 0 k) rfl
        rw [e7] at b6 b6b ⊢
        refine rg_i (by omega) ?_
        refine ix_i (by omega) ?_
        intro b8 b8b
        refine And.intro (fun c9 => ?_) (fun c9 => ?_)
        · refine hK 153 [some (vR 101 0), some (vI k), some (vI (T 432 0 k)), some (vI v), some (vI g), some (vI (((T 428 0 (T 432 0 k)) * 4) + g)), some (vI ((g * 8) + (T 561 0 (T 432 0 k)))), none] [] T1 ?_
          refine j_blx (F := fX1) tb_X1 (nn_ _) bk_X1_countFrom_153 bs_X1_countFrom_153 hz (fun K hK => ?_)
          refine rg_i (by omega) ?_
          refine hK 22 [some (vR 101 0), some (vI k), some (vI (T 432 0 k)), some (vI v), some (vI (g + 1)), some (vI (((T 428 0 (T 432 0 k)) * 4) + g)), some (vI ((g * 8) + (T 561 0 (T 432 0 k)))), none] [] T1 ?_
          refine j_drq [some (vR 101 0), some (vI k), some (vI (T 432 0 k)), some (vI v), some (vI (g + 1)), none, none, none] (drq_s (drq_s (drq_s (drq_s (drq_s (drq_n (drq_n (drq_n drq_0)))))))) ?_
          refine ih_22 _ ?_ v (g + 1) T1 (Nat.le_refl _) ?_ ?_
          · have hm_22 := hm_22 (); omega
          · exact fr_t (fr_0 _ _) (fr_s hf_22 rfl)
          · omega
        · refine ix_i (by omega) ?_
          intro b10 b10b
          intro b11 b11b
          have e12 : T1 101 0 2 = T 101 0 2 := hf_22 101 0 2 rfl
          rw [e12] at b11 b11b ⊢
          refine And.intro (fun c13 => ?_) (fun c13 => ?_)
          · refine hK 153 [some (vR 101 0), some (vI k), some (vI (T 432 0 k)), some (vI v), some (vI g), some (vI (((T 428 0 (T 432 0 k)) * 4) + g)), some (vI ((g * 8) + (T 561 0 (T 432 0 k)))), none] [] T1 ?_
            refine j_blx (F := fX1) tb_X1 (nn_ _) bk_X1_countFrom_153 bs_X1_countFrom_153 hz (fun K hK => ?_)
            refine rg_i (by omega) ?_
            refine hK 22 [some (vR 101 0), some (vI k), some (vI (T 432 0 k)), some (vI v), some (vI (g + 1)), some (vI (((T 428 0 (T 432 0 k)) * 4) + g)), some (vI ((g * 8) + (T 561 0 (T 432 0 k)))), none] [] T1 ?_
            refine j_drq [some (vR 101 0), some (vI k), some (vI (T 432 0 k)), some (vI v), some (vI (g + 1)), none, none, none] (drq_s (drq_s (drq_s (drq_s (drq_s (drq_n (drq_n (drq_n drq_0)))))))) ?_
            refine ih_22 _ ?_ v (g + 1) T1 (Nat.le_refl _) ?_ ?_
            · have hm_22 := hm_22 (); omega
            · exact fr_t (fr_0 _ _) (fr_s hf_22 rfl)
            · omega
          · refine iy_i (by omega) (by omega) ?_
            refine x_nm (fun U14 hU14 => ?_)
            have e15 := up_f hU14
            refine ix_i (by omega) ?_
            intro b16 b16b
            have e17 : U14 435 0 ((g * 8) + (T 561 0 (T 432 0 k))) = T1 435 0 ((g * 8) + (T 561 0 (T 432 0 k))) := up_k hU14 (by exact Nat.ne_of_beq_eq_false rfl) 0 ((g * 8) + (T 561 0 (T 432 0 k)))
            rw [e17] at b16 b16b ⊢
            intro w18 w18b
            refine iy_i (by omega) (by omega) ?_
            refine x_nm (fun U19 hU19 => ?_)
            have e20 := up_f hU19
            refine rg_i (by omega) ?_
            refine hK 108 [some (vR 101 0), some (vI k), some (vI (T 432 0 k)), some (vI v), some (vI g), some (vI (((T 428 0 (T 432 0 k)) * 4) + g)), some (vI ((g * 8) + (T 561 0 (T 432 0 k)))), none] [vI (k + 1), vR 101 0] U19 ?_
            have e21 : U19 101 0 13 = T 101 0 13 := (up_k hU19 (by exact Nat.ne_of_beq_eq_false rfl) 0 13).trans ((up_k hU14 (by exact Nat.ne_of_beq_eq_false rfl) 0 13).trans (hf_22 101 0 13 rfl))
            refine j_callV (y := yX1_countFrom) (Yc := zX1_countFrom_7) (rest := []) [vI (k + 1)] (ct_X1_countFrom_7 (T := U19) (LW8_f hlw (show fr_ [(434, []), (435, []), (431, [])] T U19 from fr_u (fr_u (fr_t (fr_0 _ _) (fr_s hf_22 rfl)) hU14 rfl) hU19 rfl) ⟨rfl, fun _ => rfl, fun _ => rfl⟩) (by omega)) cl_X1_68_zX1_countFrom_7 (qd_c (by decide +kernel)) (nn_ _) rfl (rf_of rfl) (Nat.le_of_ble_eq_true rfl) (Nat.le_of_ble_eq_true rfl) (Nat.le_of_ble_eq_true rfl) rfl ?_
            rintro U22 _ ⟨x23, rfl, fU22, qU22⟩
            show J_ zX1_countFrom_8 T (po_X1_countFrom_8 T k) 0 0 111 _ [vI x23] U22
            refine j_blx (F := fX1) tb_X1 (nn_ _) bk_X1_countFrom_111 bs_X1_countFrom_111 hz (fun K hK => ?_)
            refine rg_i (by omega) ?_
            refine rg_i (by omega) ?_
            refine ix_i (by omega) ?_
            intro b24 b24b
            intro w25 w25b
            refine iy_i (by omega) (by omega) ?_
            refine x_nm (fun U26 hU26 => ?_)
            have e27 := up_f hU26
            intro w28 w28b
            refine ix_i (by omega) ?_
            intro b29 b29b
            have e30 : U26 435 0 ((g * 8) + (T 561 0 (T 432 0 k))) = U22 435 0 ((g * 8) + (T 561 0 (T 432 0 k))) := up_k hU26 (by exact Nat.ne_of_beq_eq_false rfl) 0 ((g * 8) + (T 561 0 (T 432 0 k)))
            rw [e30] at b29 b29b ⊢
            intro w31 w31b
            refine iy_i (by omega) (by omega) ?_
            refine x_nm (fun U32 hU32 => ?_)
            have e33 := up_f hU32
            refine iy_i (by omega) (by omega) ?_
            refine x_nm (fun U34 hU34 => ?_)
            have e35 := up_f hU34
            refine rg_i (by omega) ?_
            refine hK 22 [some (vR 101 0), some (vI k), some (vI (T 432 0 k)), some (vI (wr_ (v + x23))), some (vI (g + 1)), some (vI (((T 428 0 (T 432 0 k)) * 4) + g)), some (vI ((g * 8) + (T 561 0 (T 432 0 k)))), some (vI x23)] [] U34 ?_
            refine j_drq [some (vR 101 0), some (vI k), some (vI (T 432 0 k)), some (vI (wr_ (v + x23))), some (vI (g + 1)), none, none, none] (drq_s (drq_s (drq_s (drq_s (drq_s (drq_n (drq_n (drq_n drq_0)))))))) ?_
            refine ih_22 _ ?_ (wr_ (v + x23)) (g + 1) U34 (Nat.le_refl _) ?_ ?_
            · have hm_22 := hm_22 (); omega
            · exact fr_u (fr_u (fr_u (fr_t (fr_u (fr_u (fr_t (fr_0 _ _) (fr_s hf_22 rfl)) hU14 rfl) hU19 rfl) (fr_s fU22 rfl)) hU26 rfl) hU32 rfl) hU34 rfl
            · omega
  refine j_blx (F := fX1) tb_X1 (nn_ _) bk_X1_countFrom_0 bs_X1_countFrom_0 hz (fun K hK => ?_)
  intro b36 b36b
  refine And.intro (fun c37 => ?_) (fun c37 => ?_)
  · refine hK 10 _ [] T ?_
    refine j_blx (F := fX1) tb_X1 (nn_ _) bk_X1_countFrom_10 bs_X1_countFrom_10 hz (fun K hK => ?_)
    refine ix_i (by omega) ?_
    intro b38 b38b
    refine hK 22 [some (vR 101 0), some (vI k), some (vI (T 432 0 k)), some (vI 0), some (vI 0), none, none, none] [] T ?_
    refine c_22 _ 0 0 T (Nat.le_refl _) ?_ ?_
    · exact fr_0 _ _
    · omega
  · refine (show po_X1_countFrom_8 T k T (some (vI 1)) from ?_)
    exact ⟨_, rfl, fr_0 _ _, by omega⟩
def zX1_countFrom_9 : Zm := (RX1, cX1_countFrom, 8, (some .int), { frames := 10, cells := 0, slots := 0, locals := 270 })
set_option maxRecDepth 100000 in
theorem cl_X1_68_zX1_countFrom_8 : cv_ RX1 68 yX1_countFrom zX1_countFrom_8 1 1 := ⟨gi_V (lwq_6 (dqc_m (dqc_m (dqc_m (dqc_m (dqa_m (dqa_m (List.mem_of_getElem? (i := 2) rfl))))))) rfl : Cond.methodLink RX1 68 yX1_countFrom ∈ lw_g) (lwq_6 (dqc_m (dqc_m (dqc_m (dqc_m (dqa_m (dqa_m (List.mem_of_getElem? (i := 4) rfl))))))) rfl : Cond.instanceMethod yX1_countFrom ∈ lw_g) (lw_sel 81 rfl : Cond.selects yX1_countFrom.cls yX1_countFrom yX1_countFrom ∈ lw_g) (lwq_1 (dqa_m (List.mem_of_getElem? (i := 0) rfl)) rfl : Cond.initialized yX1_countFrom.cls ∈ lw_g) (lwq_6 (dqc_m (dqc_m (dqc_m (dqc_m (dqa_m (dqa_m (List.mem_of_getElem? (i := 5) rfl))))))) rfl : Cond.code yX1_countFrom cX1_countFrom 8 (some .int) ∈ lw_g), ⟨nmh_2.1, nmh_2.2, pdq_15⟩, ⟨_, _, rfl⟩⟩
abbrev po_X1_countFrom_9 (T : Zt) (k : Int) : Zt → Option Zv → Prop := fun T' r => ∃ x : Int, r = some (vI x) ∧ fr_ [(434, []), (435, []), (431, [])] T T' ∧ (-2147483648 ≤ x ∧ x ≤ 2147483647)
set_option maxHeartbeats 4000000 in
theorem ct_X1_countFrom_9 {T : Zt} {k : Int} (hlw : LW8_ T) (hk : 0 ≤ k ∧ 3 ≤ k) : Ct_ yX1_countFrom zX1_countFrom_9 T [vR 101 0, vI k] (po_X1_countFrom_9 T k) := by
  refine ct_of pn_1 rfl rfl (Nat.le_of_ble_eq_true rfl) (fun hT hav => ?_)
  have hr_k : -2147483648 ≤ k ∧ k ≤ 2147483647 := hav (vI k) (List.mem_cons_of_mem _ List.mem_cons_self)
  have hz : zX1_countFrom_9.2.2.2.1 = some .boolean → ∀ (T' : Zt) (x : Int), po_X1_countFrom_9 T k T' (some (vI x)) → 0 ≤ x ∧ x ≤ 1 := fun h => by cases h
  have hwc : 0 ≤ T 101 0 13 ∧ T 101 0 13 ≤ 12 := bd_f hT 101 13 tl_1_13 0
  have hgr : 0 ≤ T 101 0 1 ∧ T 101 0 1 ≤ 4 := bd_f hT 101 1 tl_1_1 0
  show J_ zX1_countFrom_9 T (po_X1_countFrom_9 T k) 0 0 0 [some (vR 101 0), some (vI k), none, none, none, none, none, none] [] T
  have c_22 : ∀ (nn : Nat) (v : Int) (g : Int) (T1 : Zt), ((4 - g).toNat) ≤ nn → (fr_ [(434, []), (435, []), (431, [])] T T1) → (0 ≤ g ∧ -2147483648 ≤ v ∧ v ≤ 2147483647 ∧ k < T 101 0 13) → J_ zX1_countFrom_9 T (po_X1_countFrom_9 T k) 0 0 22 [some (vR 101 0), some (vI k), some (vI (T 432 0 k)), some (vI v), some (vI g), none, none, none] [] T1 := by
    intro nn
    induction nn using Nat.strongRecOn with
    | _ nn ih_22 =>
      intro v g T1 hm_22 hf_22 i1
      replace hm_22 := fun (_ : Unit) => hm_22
      have hlk := hlw k (by omega) (by omega)
      have hwk : 0 ≤ T 432 0 k ∧ T 432 0 k ≤ 11 := bd_a hT 432 (by decide +kernel : ta_ 432 = some (1, some 12, 0, 11)) 0 (by omega)
      have hpk : (-1) ≤ T 428 0 (T 432 0 k) ∧ T 428 0 (T 432 0 k) ≤ 2 := bd_a hT 428 (by decide +kernel : ta_ 428 = some (1, some 12, (-1), 2)) 0 (by omega)
      refine j_blx (F := fX1) tb_X1 (nn_ _) bk_X1_countFrom_22 bs_X1_countFrom_22 hz (fun K hK => ?_)
      intro b1 b1b
      have e2 : T1 101 0 1 = T 101 0 1 := hf_22 101 0 1 rfl
      rw [e2] at b1 b1b ⊢
      refine And.intro (fun c3 => ?_) (fun c3 => ?_)
      · refine hK 159 _ [] T1 ?_
        refine j_blx (F := fX1) tb_X1 (nn_ _) bk_X1_countFrom_159 bs_X1_countFrom_159 hz (fun K hK => ?_)
        refine (show po_X1_countFrom_9 T k T1 (some (vI v)) from ?_)
        exact ⟨_, rfl, fr_t (fr_0 _ _) (fr_s hf_22 rfl), by omega⟩
      · refine ix_i (by omega) ?_
        intro b4 b4b
        have e5 : T1 428 0 (T 432 0 k) = T 428 0 (T 432 0 k) := hf_22 428 0 (T 432 0 k) rfl
        rw [e5] at b4 b4b ⊢
        refine rg_i (by omega) ?_
        refine rg_i (by omega) ?_
        refine rg_i (by omega) ?_
        refine ix_i (by omega) ?_
        intro b6 b6b
        have e7 : T1 561 0 (T 432 0 k) = T 561 0 (T 432 0 k) := hf_22 561 0 (T 432 0 k) rfl
        rw [e7] at b6 b6b ⊢
        refine rg_i (by omega) ?_
        refine ix_i (by omega) ?_
        intro b8 b8b
        refine And.intro (fun c9 => ?_) (fun c9 => ?_)
        · refine hK 153 [some (vR 101 0), some (vI k), some (vI (T 432 0 k)), some (vI v), some (vI g), some (vI (((T 428 0 (T 432 0 k)) * 4) + g)), some (vI ((g * 8) + (T 561 0 (T 432 0 k)))), none] [] T1 ?_
          refine j_blx (F := fX1) tb_X1 (nn_ _) bk_X1_countFrom_153 bs_X1_countFrom_153 hz (fun K hK => ?_)
          refine rg_i (by omega) ?_
          refine hK 22 [some (vR 101 0), some (vI k), some (vI (T 432 0 k)), some (vI v), some (vI (g + 1)), some (vI (((T 428 0 (T 432 0 k)) * 4) + g)), some (vI ((g * 8) + (T 561 0 (T 432 0 k)))), none] [] T1 ?_
          refine j_drq [some (vR 101 0), some (vI k), some (vI (T 432 0 k)), some (vI v), some (vI (g + 1)), none, none, none] (drq_s (drq_s (drq_s (drq_s (drq_s (drq_n (drq_n (drq_n drq_0)))))))) ?_
          refine ih_22 _ ?_ v (g + 1) T1 (Nat.le_refl _) ?_ ?_
          · have hm_22 := hm_22 (); omega
          · exact fr_t (fr_0 _ _) (fr_s hf_22 rfl)
          · omega
        · refine ix_i (by omega) ?_
          intro b10 b10b
          intro b11 b11b
          have e12 : T1 101 0 2 = T 101 0 2 := hf_22 101 0 2 rfl
          rw [e12] at b11 b11b ⊢
          refine And.intro (fun c13 => ?_) (fun c13 => ?_)
          · refine hK 153 [some (vR 101 0), some (vI k), some (vI (T 432 0 k)), some (vI v), some (vI g), some (vI (((T 428 0 (T 432 0 k)) * 4) + g)), some (vI ((g * 8) + (T 561 0 (T 432 0 k)))), none] [] T1 ?_
            refine j_blx (F := fX1) tb_X1 (nn_ _) bk_X1_countFrom_153 bs_X1_countFrom_153 hz (fun K hK => ?_)
            refine rg_i (by omega) ?_
            refine hK 22 [some (vR 101 0), some (vI k), some (vI (T 432 0 k)), some (vI v), some (vI (g + 1)), some (vI (((T 428 0 (T 432 0 k)) * 4) + g)), some (vI ((g * 8) + (T 561 0 (T 432 0 k)))), none] [] T1 ?_
            refine j_drq [some (vR 101 0), some (vI k), some (vI (T 432 0 k)), some (vI v), some (vI (g + 1)), none, none, none] (drq_s (drq_s (drq_s (drq_s (drq_s (drq_n (drq_n (drq_n drq_0)))))))) ?_
            refine ih_22 _ ?_ v (g + 1) T1 (Nat.le_refl _) ?_ ?_
            · have hm_22 := hm_22 (); omega
            · exact fr_t (fr_0 _ _) (fr_s hf_22 rfl)
            · omega
          · refine iy_i (by omega) (by omega) ?_
            refine x_nm (fun U14 hU14 => ?_)
            have e15 := up_f hU14
            refine ix_i (by omega) ?_
            intro b16 b16b
            have e17 : U14 435 0 ((g * 8) + (T 561 0 (T 432 0 k))) = T1 435 0 ((g * 8) + (T 561 0 (T 432 0 k))) := up_k hU14 (by exact Nat.ne_of_beq_eq_false rfl) 0 ((g * 8) + (T 561 0 (T 432 0 k)))
            rw [e17] at b16 b16b ⊢
            intro w18 w18b
            refine iy_i (by omega) (by omega) ?_
            refine x_nm (fun U19 hU19 => ?_)
            have e20 := up_f hU19
            refine rg_i (by omega) ?_
            refine hK 108 [some (vR 101 0), some (vI k), some (vI (T 432 0 k)), some (vI v), some (vI g), some (vI (((T 428 0 (T 432 0 k)) * 4) + g)), some (vI ((g * 8) + (T 561 0 (T 432 0 k)))), none] [vI (k + 1), vR 101 0] U19 ?_
            have e21 : U19 101 0 13 = T 101 0 13 := (up_k hU19 (by exact Nat.ne_of_beq_eq_false rfl) 0 13).trans ((up_k hU14 (by exact Nat.ne_of_beq_eq_false rfl) 0 13).trans (hf_22 101 0 13 rfl))
            refine j_callV (y := yX1_countFrom) (Yc := zX1_countFrom_8) (rest := []) [vI (k + 1)] (ct_X1_countFrom_8 (T := U19) (LW8_f hlw (show fr_ [(434, []), (435, []), (431, [])] T U19 from fr_u (fr_u (fr_t (fr_0 _ _) (fr_s hf_22 rfl)) hU14 rfl) hU19 rfl) ⟨rfl, fun _ => rfl, fun _ => rfl⟩) (by omega)) cl_X1_68_zX1_countFrom_8 (qd_c (by decide +kernel)) (nn_ _) rfl (rf_of rfl) (Nat.le_of_ble_eq_true rfl) (Nat.le_of_ble_eq_true rfl) (Nat.le_of_ble_eq_true rfl) rfl ?_
            rintro U22 _ ⟨x23, rfl, fU22, qU22⟩
            show J_ zX1_countFrom_9 T (po_X1_countFrom_9 T k) 0 0 111 _ [vI x23] U22
            refine j_blx (F := fX1) tb_X1 (nn_ _) bk_X1_countFrom_111 bs_X1_countFrom_111 hz (fun K hK => ?_)
            refine rg_i (by omega) ?_
            refine rg_i (by omega) ?_
            refine ix_i (by omega) ?_
            intro b24 b24b
            intro w25 w25b
            refine iy_i (by omega) (by omega) ?_
            refine x_nm (fun U26 hU26 => ?_)
            have e27 := up_f hU26
            intro w28 w28b
            refine ix_i (by omega) ?_
            intro b29 b29b
            have e30 : U26 435 0 ((g * 8) + (T 561 0 (T 432 0 k))) = U22 435 0 ((g * 8) + (T 561 0 (T 432 0 k))) := up_k hU26 (by exact Nat.ne_of_beq_eq_false rfl) 0 ((g * 8) + (T 561 0 (T 432 0 k)))
            rw [e30] at b29 b29b ⊢
            intro w31 w31b
            refine iy_i (by omega) (by omega) ?_
            refine x_nm (fun U32 hU32 => ?_)
            have e33 := up_f hU32
            refine iy_i (by omega) (by omega) ?_
            refine x_nm (fun U34 hU34 => ?_)
            have e35 := up_f hU34
            refine rg_i (by omega) ?_
            refine hK 22 [some (vR 101 0), some (vI k), some (vI (T 432 0 k)), some (vI (wr_ (v + x23))), some (vI (g + 1)), some (vI (((T 428 0 (T 432 0 k)) * 4) + g)), some (vI ((g * 8) + (T 561 0 (T 432 0 k)))), some (vI x23)] [] U34 ?_
            refine j_drq [some (vR 101 0), some (vI k), some (vI (T 432 0 k)), some (vI (wr_ (v + x23))), some (vI (g + 1)), none, none, none] (drq_s (drq_s (drq_s (drq_s (drq_s (drq_n (drq_n (drq_n drq_0)))))))) ?_
            refine ih_22 _ ?_ (wr_ (v + x23)) (g + 1) U34 (Nat.le_refl _) ?_ ?_
            · have hm_22 := hm_22 (); omega
            · exact fr_u (fr_u (fr_u (fr_t (fr_u (fr_u (fr_t (fr_0 _ _) (fr_s hf_22 rfl)) hU14 rfl) hU19 rfl) (fr_s fU22 rfl)) hU26 rfl) hU32 rfl) hU34 rfl
            · omega
  refine j_blx (F := fX1) tb_X1 (nn_ _) bk_X1_countFrom_0 bs_X1_countFrom_0 hz (fun K hK => ?_)
  intro b36 b36b
  refine And.intro (fun c37 => ?_) (fun c37 => ?_)
  · refine hK 10 _ [] T ?_
    refine j_blx (F := fX1) tb_X1 (nn_ _) bk_X1_countFrom_10 bs_X1_countFrom_10 hz (fun K hK => ?_)
    refine ix_i (by omega) ?_
    intro b38 b38b
    refine hK 22 [some (vR 101 0), some (vI k), some (vI (T 432 0 k)), some (vI 0), some (vI 0), none, none, none] [] T ?_
    refine c_22 _ 0 0 T (Nat.le_refl _) ?_ ?_
    · exact fr_0 _ _
    · omega
  · refine (show po_X1_countFrom_9 T k T (some (vI 1)) from ?_)
    exact ⟨_, rfl, fr_0 _ _, by omega⟩
def zX1_countFrom_10 : Zm := (RX1, cX1_countFrom, 8, (some .int), { frames := 11, cells := 0, slots := 0, locals := 297 })
set_option maxRecDepth 100000 in
theorem cl_X1_68_zX1_countFrom_9 : cv_ RX1 68 yX1_countFrom zX1_countFrom_9 1 1 := ⟨gi_V (lwq_6 (dqc_m (dqc_m (dqc_m (dqc_m (dqa_m (dqa_m (List.mem_of_getElem? (i := 2) rfl))))))) rfl : Cond.methodLink RX1 68 yX1_countFrom ∈ lw_g) (lwq_6 (dqc_m (dqc_m (dqc_m (dqc_m (dqa_m (dqa_m (List.mem_of_getElem? (i := 4) rfl))))))) rfl : Cond.instanceMethod yX1_countFrom ∈ lw_g) (lw_sel 81 rfl : Cond.selects yX1_countFrom.cls yX1_countFrom yX1_countFrom ∈ lw_g) (lwq_1 (dqa_m (List.mem_of_getElem? (i := 0) rfl)) rfl : Cond.initialized yX1_countFrom.cls ∈ lw_g) (lwq_6 (dqc_m (dqc_m (dqc_m (dqc_m (dqa_m (dqa_m (List.mem_of_getElem? (i := 5) rfl))))))) rfl : Cond.code yX1_countFrom cX1_countFrom 8 (some .int) ∈ lw_g), ⟨nmh_2.1, nmh_2.2, pdq_15⟩, ⟨_, _, rfl⟩⟩
abbrev po_X1_countFrom_10 (T : Zt) (k : Int) : Zt → Option Zv → Prop := fun T' r => ∃ x : Int, r = some (vI x) ∧ fr_ [(434, []), (435, []), (431, [])] T T' ∧ (-2147483648 ≤ x ∧ x ≤ 2147483647)
set_option maxHeartbeats 4000000 in
theorem ct_X1_countFrom_10 {T : Zt} {k : Int} (hlw : LW8_ T) (hk : 0 ≤ k ∧ 2 ≤ k) : Ct_ yX1_countFrom zX1_countFrom_10 T [vR 101 0, vI k] (po_X1_countFrom_10 T k) := by
  refine ct_of pn_1 rfl rfl (Nat.le_of_ble_eq_true rfl) (fun hT hav => ?_)
  have hr_k : -2147483648 ≤ k ∧ k ≤ 2147483647 := hav (vI k) (List.mem_cons_of_mem _ List.mem_cons_self)
  have hz : zX1_countFrom_10.2.2.2.1 = some .boolean → ∀ (T' : Zt) (x : Int), po_X1_countFrom_10 T k T' (some (vI x)) → 0 ≤ x ∧ x ≤ 1 := fun h => by cases h
  have hwc : 0 ≤ T 101 0 13 ∧ T 101 0 13 ≤ 12 := bd_f hT 101 13 tl_1_13 0
  have hgr : 0 ≤ T 101 0 1 ∧ T 101 0 1 ≤ 4 := bd_f hT 101 1 tl_1_1 0
  show J_ zX1_countFrom_10 T (po_X1_countFrom_10 T k) 0 0 0 [some (vR 101 0), some (vI k), none, none, none, none, none, none] [] T
  have c_22 : ∀ (nn : Nat) (v : Int) (g : Int) (T1 : Zt), ((4 - g).toNat) ≤ nn → (fr_ [(434, []), (435, []), (431, [])] T T1) → (0 ≤ g ∧ -2147483648 ≤ v ∧ v ≤ 2147483647 ∧ k < T 101 0 13) → J_ zX1_countFrom_10 T (po_X1_countFrom_10 T k) 0 0 22 [some (vR 101 0), some (vI k), some (vI (T 432 0 k)), some (vI v), some (vI g), none, none, none] [] T1 := by
    intro nn
    induction nn using Nat.strongRecOn with
    | _ nn ih_22 =>
      intro v g T1 hm_22 hf_22 i1
      replace hm_22 := fun (_ : Unit) => hm_22
      have hlk := hlw k (by omega) (by omega)
      have hwk : 0 ≤ T 432 0 k ∧ T 432 0 k ≤ 11 := bd_a hT 432 (by decide +kernel : ta_ 432 = some (1, some 12, 0, 11)) 0 (by omega)
      have hpk : (-1) ≤ T 428 0 (T 432 0 k) ∧ T 428 0 (T 432 0 k) ≤ 2 := bd_a hT 428 (by decide +kernel : ta_ 428 = some (1, some 12, (-1), 2)) 0 (by omega)
      refine j_blx (F := fX1) tb_X1 (nn_ _) bk_X1_countFrom_22 bs_X1_countFrom_22 hz (fun K hK => ?_)
      intro b1 b1b
      have e2 : T1 101 0 1 = T 101 0 1 := hf_22 101 0 1 rfl
      rw [e2] at b1 b1b ⊢
      refine And.intro (fun c3 => ?_) (fun c3 => ?_)
      · refine hK 159 _ [] T1 ?_
        refine j_blx (F := fX1) tb_X1 (nn_ _) bk_X1_countFrom_159 bs_X1_countFrom_159 hz (fun K hK => ?_)
        refine (show po_X1_countFrom_10 T k T1 (some (vI v)) from ?_)
        exact ⟨_, rfl, fr_t (fr_0 _ _) (fr_s hf_22 rfl), by omega⟩
      · refine ix_i (by omega) ?_
        intro b4 b4b
        have e5 : T1 428 0 (T 432 0 k) = T 428 0 (T 432 0 k) := hf_22 428 0 (T 432 0 k) rfl
        rw [e5] at b4 b4b ⊢
        refine rg_i (by omega) ?_
        refine rg_i (by omega) ?_
        refine rg_i (by omega) ?_
        refine ix_i (by omega) ?_
        intro b6 b6b
        have e7 : T1 561 0 (T 432 0 k) = T 561 0 (T 432 0 k) := hf_22 561 0 (T 432 0 k) rfl
        rw [e7] at b6 b6b ⊢
        refine rg_i (by omega) ?_
        refine ix_i (by omega) ?_
        intro b8 b8b
        refine And.intro (fun c9 => ?_) (fun c9 => ?_)
        · refine hK 153 [some (vR 101 0), some (vI k), some (vI (T 432 0 k)), some (vI v), some (vI g), some (vI (((T 428 0 (T 432 0 k)) * 4) + g)), some (vI ((g * 8) + (T 561 0 (T 432 0 k)))), none] [] T1 ?_
          refine j_blx (F := fX1) tb_X1 (nn_ _) bk_X1_countFrom_153 bs_X1_countFrom_153 hz (fun K hK => ?_)
          refine rg_i (by omega) ?_
          refine hK 22 [some (vR 101 0), some (vI k), some (vI (T 432 0 k)), some (vI v), some (vI (g + 1)), some (vI (((T 428 0 (T 432 0 k)) * 4) + g)), some (vI ((g * 8) + (T 561 0 (T 432 0 k)))), none] [] T1 ?_
          refine j_drq [some (vR 101 0), some (vI k), some (vI (T 432 0 k)), some (vI v), some (vI (g + 1)), none, none, none] (drq_s (drq_s (drq_s (drq_s (drq_s (drq_n (drq_n (drq_n drq_0)))))))) ?_
          refine ih_22 _ ?_ v (g + 1) T1 (Nat.le_refl _) ?_ ?_
          · have hm_22 := hm_22 (); omega
          · exact fr_t (fr_0 _ _) (fr_s hf_22 rfl)
          · omega
        · refine ix_i (by omega) ?_
          intro b10 b10b
          intro b11 b11b
          have e12 : T1 101 0 2 = T 101 0 2 := hf_22 101 0 2 rfl
          rw [e12] at b11 b11b ⊢
          refine And.intro (fun c13 => ?_) (fun c13 => ?_)
          · refine hK 153 [some (vR 101 0), some (vI k), some (vI (T 432 0 k)), some (vI v), some (vI g), some (vI (((T 428 0 (T 432 0 k)) * 4) + g)), some (vI ((g * 8) + (T 561 0 (T 432 0 k)))), none] [] T1 ?_
            refine j_blx (F := fX1) tb_X1 (nn_ _) bk_X1_countFrom_153 bs_X1_countFrom_153 hz (fun K hK => ?_)
            refine rg_i (by omega) ?_
            refine hK 22 [some (vR 101 0), some (vI k), some (vI (T 432 0 k)), some (vI v), some (vI (g + 1)), some (vI (((T 428 0 (T 432 0 k)) * 4) + g)), some (vI ((g * 8) + (T 561 0 (T 432 0 k)))), none] [] T1 ?_
            refine j_drq [some (vR 101 0), some (vI k), some (vI (T 432 0 k)), some (vI v), some (vI (g + 1)), none, none, none] (drq_s (drq_s (drq_s (drq_s (drq_s (drq_n (drq_n (drq_n drq_0)))))))) ?_
            refine ih_22 _ ?_ v (g + 1) T1 (Nat.le_refl _) ?_ ?_
            · have hm_22 := hm_22 (); omega
            · exact fr_t (fr_0 _ _) (fr_s hf_22 rfl)
            · omega
          · refine iy_i (by omega) (by omega) ?_
            refine x_nm (fun U14 hU14 => ?_)
            have e15 := up_f hU14
            refine ix_i (by omega) ?_
            intro b16 b16b
            have e17 : U14 435 0 ((g * 8) + (T 561 0 (T 432 0 k))) = T1 435 0 ((g * 8) + (T 561 0 (T 432 0 k))) := up_k hU14 (by exact Nat.ne_of_beq_eq_false rfl) 0 ((g * 8) + (T 561 0 (T 432 0 k)))
            rw [e17] at b16 b16b ⊢
            intro w18 w18b
            refine iy_i (by omega) (by omega) ?_
            refine x_nm (fun U19 hU19 => ?_)
            have e20 := up_f hU19
            refine rg_i (by omega) ?_
            refine hK 108 [some (vR 101 0), some (vI k), some (vI (T 432 0 k)), some (vI v), some (vI g), some (vI (((T 428 0 (T 432 0 k)) * 4) + g)), some (vI ((g * 8) + (T 561 0 (T 432 0 k)))), none] [vI (k + 1), vR 101 0] U19 ?_
            have e21 : U19 101 0 13 = T 101 0 13 := (up_k hU19 (by exact Nat.ne_of_beq_eq_false rfl) 0 13).trans ((up_k hU14 (by exact Nat.ne_of_beq_eq_false rfl) 0 13).trans (hf_22 101 0 13 rfl))
            refine j_callV (y := yX1_countFrom) (Yc := zX1_countFrom_9) (rest := []) [vI (k + 1)] (ct_X1_countFrom_9 (T := U19) (LW8_f hlw (show fr_ [(434, []), (435, []), (431, [])] T U19 from fr_u (fr_u (fr_t (fr_0 _ _) (fr_s hf_22 rfl)) hU14 rfl) hU19 rfl) ⟨rfl, fun _ => rfl, fun _ => rfl⟩) (by omega)) cl_X1_68_zX1_countFrom_9 (qd_c (by decide +kernel)) (nn_ _) rfl (rf_of rfl) (Nat.le_of_ble_eq_true rfl) (Nat.le_of_ble_eq_true rfl) (Nat.le_of_ble_eq_true rfl) rfl ?_
            rintro U22 _ ⟨x23, rfl, fU22, qU22⟩
            show J_ zX1_countFrom_10 T (po_X1_countFrom_10 T k) 0 0 111 _ [vI x23] U22
            refine j_blx (F := fX1) tb_X1 (nn_ _) bk_X1_countFrom_111 bs_X1_countFrom_111 hz (fun K hK => ?_)
            refine rg_i (by omega) ?_
            refine rg_i (by omega) ?_
            refine ix_i (by omega) ?_
            intro b24 b24b
            intro w25 w25b
            refine iy_i (by omega) (by omega) ?_
            refine x_nm (fun U26 hU26 => ?_)
            have e27 := up_f hU26
            intro w28 w28b
            refine ix_i (by omega) ?_
            intro b29 b29b
            have e30 : U26 435 0 ((g * 8) + (T 561 0 (T 432 0 k))) = U22 435 0 ((g * 8) + (T 561 0 (T 432 0 k))) := up_k hU26 (by exact Nat.ne_of_beq_eq_false rfl) 0 ((g * 8) + (T 561 0 (T 432 0 k)))
            rw [e30] at b29 b29b ⊢
            intro w31 w31b
            refine iy_i (by omega) (by omega) ?_
            refine x_nm (fun U32 hU32 => ?_)
            have e33 := up_f hU32
            refine iy_i (by omega) (by omega) ?_
            refine x_nm (fun U34 hU34 => ?_)
            have e35 := up_f hU34
            refine rg_i (by omega) ?_
            refine hK 22 [some (vR 101 0), some (vI k), some (vI (T 432 0 k)), some (vI (wr_ (v + x23))), some (vI (g + 1)), some (vI (((T 428 0 (T 432 0 k)) * 4) + g)), some (vI ((g * 8) + (T 561 0 (T 432 0 k)))), some (vI x23)] [] U34 ?_
            refine j_drq [some (vR 101 0), some (vI k), some (vI (T 432 0 k)), some (vI (wr_ (v + x23))), some (vI (g + 1)), none, none, none] (drq_s (drq_s (drq_s (drq_s (drq_s (drq_n (drq_n (drq_n drq_0)))))))) ?_
            refine ih_22 _ ?_ (wr_ (v + x23)) (g + 1) U34 (Nat.le_refl _) ?_ ?_
            · have hm_22 := hm_22 (); omega
            · exact fr_u (fr_u (fr_u (fr_t (fr_u (fr_u (fr_t (fr_0 _ _) (fr_s hf_22 rfl)) hU14 rfl) hU19 rfl) (fr_s fU22 rfl)) hU26 rfl) hU32 rfl) hU34 rfl
            · omega
  refine j_blx (F := fX1) tb_X1 (nn_ _) bk_X1_countFrom_0 bs_X1_countFrom_0 hz (fun K hK => ?_)
  intro b36 b36b
  refine And.intro (fun c37 => ?_) (fun c37 => ?_)
  · refine hK 10 _ [] T ?_
    refine j_blx (F := fX1) tb_X1 (nn_ _) bk_X1_countFrom_10 bs_X1_countFrom_10 hz (fun K hK => ?_)
    refine ix_i (by omega) ?_
    intro b38 b38b
    refine hK 22 [some (vR 101 0), some (vI k), some (vI (T 432 0 k)), some (vI 0), some (vI 0), none, none, none] [] T ?_
    refine c_22 _ 0 0 T (Nat.le_refl _) ?_ ?_
    · exact fr_0 _ _
    · omega
  · refine (show po_X1_countFrom_10 T k T (some (vI 1)) from ?_)
    exact ⟨_, rfl, fr_0 _ _, by omega⟩
def zX1_countFrom_11 : Zm := (RX1, cX1_countFrom, 8, (some .int), { frames := 12, cells := 0, slots := 0, locals := 324 })
set_option maxRecDepth 100000 in
theorem cl_X1_68_zX1_countFrom_10 : cv_ RX1 68 yX1_countFrom zX1_countFrom_10 1 1 := ⟨gi_V (lwq_6 (dqc_m (dqc_m (dqc_m (dqc_m (dqa_m (dqa_m (List.mem_of_getElem? (i := 2) rfl))))))) rfl : Cond.methodLink RX1 68 yX1_countFrom ∈ lw_g) (lwq_6 (dqc_m (dqc_m (dqc_m (dqc_m (dqa_m (dqa_m (List.mem_of_getElem? (i := 4) rfl))))))) rfl : Cond.instanceMethod yX1_countFrom ∈ lw_g) (lw_sel 81 rfl : Cond.selects yX1_countFrom.cls yX1_countFrom yX1_countFrom ∈ lw_g) (lwq_1 (dqa_m (List.mem_of_getElem? (i := 0) rfl)) rfl : Cond.initialized yX1_countFrom.cls ∈ lw_g) (lwq_6 (dqc_m (dqc_m (dqc_m (dqc_m (dqa_m (dqa_m (List.mem_of_getElem? (i := 5) rfl))))))) rfl : Cond.code yX1_countFrom cX1_countFrom 8 (some .int) ∈ lw_g), ⟨nmh_2.1, nmh_2.2, pdq_15⟩, ⟨_, _, rfl⟩⟩
abbrev po_X1_countFrom_11 (T : Zt) (k : Int) : Zt → Option Zv → Prop := fun T' r => ∃ x : Int, r = some (vI x) ∧ fr_ [(434, []), (435, []), (431, [])] T T' ∧ (-2147483648 ≤ x ∧ x ≤ 2147483647)
set_option maxHeartbeats 4000000 in
theorem ct_X1_countFrom_11 {T : Zt} {k : Int} (hlw : LW8_ T) (hk : 0 ≤ k ∧ 1 ≤ k) : Ct_ yX1_countFrom zX1_countFrom_11 T [vR 101 0, vI k] (po_X1_countFrom_11 T k) := by
  refine ct_of pn_1 rfl rfl (Nat.le_of_ble_eq_true rfl) (fun hT hav => ?_)
  have hr_k : -2147483648 ≤ k ∧ k ≤ 2147483647 := hav (vI k) (List.mem_cons_of_mem _ List.mem_cons_self)
  have hz : zX1_countFrom_11.2.2.2.1 = some .boolean → ∀ (T' : Zt) (x : Int), po_X1_countFrom_11 T k T' (some (vI x)) → 0 ≤ x ∧ x ≤ 1 := fun h => by cases h
  have hwc : 0 ≤ T 101 0 13 ∧ T 101 0 13 ≤ 12 := bd_f hT 101 13 tl_1_13 0
  have hgr : 0 ≤ T 101 0 1 ∧ T 101 0 1 ≤ 4 := bd_f hT 101 1 tl_1_1 0
  show J_ zX1_countFrom_11 T (po_X1_countFrom_11 T k) 0 0 0 [some (vR 101 0), some (vI k), none, none, none, none, none, none] [] T
  have c_22 : ∀ (nn : Nat) (v : Int) (g : Int) (T1 : Zt), ((4 - g).toNat) ≤ nn → (fr_ [(434, []), (435, []), (431, [])] T T1) → (0 ≤ g ∧ -2147483648 ≤ v ∧ v ≤ 2147483647 ∧ k < T 101 0 13) → J_ zX1_countFrom_11 T (po_X1_countFrom_11 T k) 0 0 22 [some (vR 101 0), some (vI k), some (vI (T 432 0 k)), some (vI v), some (vI g), none, none, none] [] T1 := by
    intro nn
    induction nn using Nat.strongRecOn with
    | _ nn ih_22 =>
      intro v g T1 hm_22 hf_22 i1
      replace hm_22 := fun (_ : Unit) => hm_22
      have hlk := hlw k (by omega) (by omega)
      have hwk : 0 ≤ T 432 0 k ∧ T 432 0 k ≤ 11 := bd_a hT 432 (by decide +kernel : ta_ 432 = some (1, some 12, 0, 11)) 0 (by omega)
      have hpk : (-1) ≤ T 428 0 (T 432 0 k) ∧ T 428 0 (T 432 0 k) ≤ 2 := bd_a hT 428 (by decide +kernel : ta_ 428 = some (1, some 12, (-1), 2)) 0 (by omega)
      refine j_blx (F := fX1) tb_X1 (nn_ _) bk_X1_countFrom_22 bs_X1_countFrom_22 hz (fun K hK => ?_)
      intro b1 b1b
      have e2 : T1 101 0 1 = T 101 0 1 := hf_22 101 0 1 rfl
      rw [e2] at b1 b1b ⊢
      refine And.intro (fun c3 => ?_) (fun c3 => ?_)
      · refine hK 159 _ [] T1 ?_
        refine j_blx (F := fX1) tb_X1 (nn_ _) bk_X1_countFrom_159 bs_X1_countFrom_159 hz (fun K hK => ?_)
        refine (show po_X1_countFrom_11 T k T1 (some (vI v)) from ?_)
        exact ⟨_, rfl, fr_t (fr_0 _ _) (fr_s hf_22 rfl), by omega⟩
      · refine ix_i (by omega) ?_
        intro b4 b4b
        have e5 : T1 428 0 (T 432 0 k) = T 428 0 (T 432 0 k) := hf_22 428 0 (T 432 0 k) rfl
        rw [e5] at b4 b4b ⊢
        refine rg_i (by omega) ?_
        refine rg_i (by omega) ?_
        refine rg_i (by omega) ?_
        refine ix_i (by omega) ?_
        intro b6 b6b
        have e7 : T1 561 0 (T 432 0 k) = T 561 0 (T 432 0 k) := hf_22 561 0 (T 432 0 k) rfl
        rw [e7] at b6 b6b ⊢
        refine rg_i (by omega) ?_
        refine ix_i (by omega) ?_
        intro b8 b8b
        refine And.intro (fun c9 => ?_) (fun c9 => ?_)
        · refine hK 153 [some (vR 101 0), some (vI k), some (vI (T 432 0 k)), some (vI v), some (vI g), some (vI (((T 428 0 (T 432 0 k)) * 4) + g)), some (vI ((g * 8) + (T 561 0 (T 432 0 k)))), none] [] T1 ?_
          refine j_blx (F := fX1) tb_X1 (nn_ _) bk_X1_countFrom_153 bs_X1_countFrom_153 hz (fun K hK => ?_)
          refine rg_i (by omega) ?_
          refine hK 22 [some (vR 101 0), some (vI k), some (vI (T 432 0 k)), some (vI v), some (vI (g + 1)), some (vI (((T 428 0 (T 432 0 k)) * 4) + g)), some (vI ((g * 8) + (T 561 0 (T 432 0 k)))), none] [] T1 ?_
          refine j_drq [some (vR 101 0), some (vI k), some (vI (T 432 0 k)), some (vI v), some (vI (g + 1)), none, none, none] (drq_s (drq_s (drq_s (drq_s (drq_s (drq_n (drq_n (drq_n drq_0)))))))) ?_
          refine ih_22 _ ?_ v (g + 1) T1 (Nat.le_refl _) ?_ ?_
          · have hm_22 := hm_22 (); omega
          · exact fr_t (fr_0 _ _) (fr_s hf_22 rfl)
          · omega
        · refine ix_i (by omega) ?_
          intro b10 b10b
          intro b11 b11b
          have e12 : T1 101 0 2 = T 101 0 2 := hf_22 101 0 2 rfl
          rw [e12] at b11 b11b ⊢
          refine And.intro (fun c13 => ?_) (fun c13 => ?_)
          · refine hK 153 [some (vR 101 0), some (vI k), some (vI (T 432 0 k)), some (vI v), some (vI g), some (vI (((T 428 0 (T 432 0 k)) * 4) + g)), some (vI ((g * 8) + (T 561 0 (T 432 0 k)))), none] [] T1 ?_
            refine j_blx (F := fX1) tb_X1 (nn_ _) bk_X1_countFrom_153 bs_X1_countFrom_153 hz (fun K hK => ?_)
            refine rg_i (by omega) ?_
            refine hK 22 [some (vR 101 0), some (vI k), some (vI (T 432 0 k)), some (vI v), some (vI (g + 1)), some (vI (((T 428 0 (T 432 0 k)) * 4) + g)), some (vI ((g * 8) + (T 561 0 (T 432 0 k)))), none] [] T1 ?_
            refine j_drq [some (vR 101 0), some (vI k), some (vI (T 432 0 k)), some (vI v), some (vI (g + 1)), none, none, none] (drq_s (drq_s (drq_s (drq_s (drq_s (drq_n (drq_n (drq_n drq_0)))))))) ?_
            refine ih_22 _ ?_ v (g + 1) T1 (Nat.le_refl _) ?_ ?_
            · have hm_22 := hm_22 (); omega
            · exact fr_t (fr_0 _ _) (fr_s hf_22 rfl)
            · omega
          · refine iy_i (by omega) (by omega) ?_
            refine x_nm (fun U14 hU14 => ?_)
            have e15 := up_f hU14
            refine ix_i (by omega) ?_
            intro b16 b16b
            have e17 : U14 435 0 ((g * 8) + (T 561 0 (T 432 0 k))) = T1 435 0 ((g * 8) + (T 561 0 (T 432 0 k))) := up_k hU14 (by exact Nat.ne_of_beq_eq_false rfl) 0 ((g * 8) + (T 561 0 (T 432 0 k)))
            rw [e17] at b16 b16b ⊢
            intro w18 w18b
            refine iy_i (by omega) (by omega) ?_
            refine x_nm (fun U19 hU19 => ?_)
            have e20 := up_f hU19
            refine rg_i (by omega) ?_
            refine hK 108 [some (vR 101 0), some (vI k), some (vI (T 432 0 k)), some (vI v), some (vI g), some (vI (((T 428 0 (T 432 0 k)) * 4) + g)), some (vI ((g * 8) + (T 561 0 (T 432 0 k)))), none] [vI (k + 1), vR 101 0] U19 ?_
            have e21 : U19 101 0 13 = T 101 0 13 := (up_k hU19 (by exact Nat.ne_of_beq_eq_false rfl) 0 13).trans ((up_k hU14 (by exact Nat.ne_of_beq_eq_false rfl) 0 13).trans (hf_22 101 0 13 rfl))
            refine j_callV (y := yX1_countFrom) (Yc := zX1_countFrom_10) (rest := []) [vI (k + 1)] (ct_X1_countFrom_10 (T := U19) (LW8_f hlw (show fr_ [(434, []), (435, []), (431, [])] T U19 from fr_u (fr_u (fr_t (fr_0 _ _) (fr_s hf_22 rfl)) hU14 rfl) hU19 rfl) ⟨rfl, fun _ => rfl, fun _ => rfl⟩) (by omega)) cl_X1_68_zX1_countFrom_10 (qd_c (by decide +kernel)) (nn_ _) rfl (rf_of rfl) (Nat.le_of_ble_eq_true rfl) (Nat.le_of_ble_eq_true rfl) (Nat.le_of_ble_eq_true rfl) rfl ?_
            rintro U22 _ ⟨x23, rfl, fU22, qU22⟩
            show J_ zX1_countFrom_11 T (po_X1_countFrom_11 T k) 0 0 111 _ [vI x23] U22
            refine j_blx (F := fX1) tb_X1 (nn_ _) bk_X1_countFrom_111 bs_X1_countFrom_111 hz (fun K hK => ?_)
            refine rg_i (by omega) ?_
            refine rg_i (by omega) ?_
            refine ix_i (by omega) ?_
            intro b24 b24b
            intro w25 w25b
            refine iy_i (by omega) (by omega) ?_
            refine x_nm (fun U26 hU26 => ?_)
            have e27 := up_f hU26
            intro w28 w28b
            refine ix_i (by omega) ?_
            intro b29 b29b
            have e30 : U26 435 0 ((g * 8) + (T 561 0 (T 432 0 k))) = U22 435 0 ((g * 8) + (T 561 0 (T 432 0 k))) := up_k hU26 (by exact Nat.ne_of_beq_eq_false rfl) 0 ((g * 8) + (T 561 0 (T 432 0 k)))
            rw [e30] at b29 b29b ⊢
            intro w31 w31b
            refine iy_i (by omega) (by omega) ?_
            refine x_nm (fun U32 hU32 => ?_)
            have e33 := up_f hU32
            refine iy_i (by omega) (by omega) ?_
            refine x_nm (fun U34 hU34 => ?_)
            have e35 := up_f hU34
            refine rg_i (by omega) ?_
            refine hK 22 [some (vR 101 0), some (vI k), some (vI (T 432 0 k)), some (vI (wr_ (v + x23))), some (vI (g + 1)), some (vI (((T 428 0 (T 432 0 k)) * 4) + g)), some (vI ((g * 8) + (T 561 0 (T 432 0 k)))), some (vI x23)] [] U34 ?_
            refine j_drq [some (vR 101 0), some (vI k), some (vI (T 432 0 k)), some (vI (wr_ (v + x23))), some (vI (g + 1)), none, none, none] (drq_s (drq_s (drq_s (drq_s (drq_s (drq_n (drq_n (drq_n drq_0)))))))) ?_
            refine ih_22 _ ?_ (wr_ (v + x23)) (g + 1) U34 (Nat.le_refl _) ?_ ?_
            · have hm_22 := hm_22 (); omega
            · exact fr_u (fr_u (fr_u (fr_t (fr_u (fr_u (fr_t (fr_0 _ _) (fr_s hf_22 rfl)) hU14 rfl) hU19 rfl) (fr_s fU22 rfl)) hU26 rfl) hU32 rfl) hU34 rfl
            · omega
  refine j_blx (F := fX1) tb_X1 (nn_ _) bk_X1_countFrom_0 bs_X1_countFrom_0 hz (fun K hK => ?_)
  intro b36 b36b
  refine And.intro (fun c37 => ?_) (fun c37 => ?_)
  · refine hK 10 _ [] T ?_
    refine j_blx (F := fX1) tb_X1 (nn_ _) bk_X1_countFrom_10 bs_X1_countFrom_10 hz (fun K hK => ?_)
    refine ix_i (by omega) ?_
    intro b38 b38b
    refine hK 22 [some (vR 101 0), some (vI k), some (vI (T 432 0 k)), some (vI 0), some (vI 0), none, none, none] [] T ?_
    refine c_22 _ 0 0 T (Nat.le_refl _) ?_ ?_
    · exact fr_0 _ _
    · omega
  · refine (show po_X1_countFrom_11 T k T (some (vI 1)) from ?_)
    exact ⟨_, rfl, fr_0 _ _, by omega⟩
def zX1_countFrom_12 : Zm := (RX1, cX1_countFrom, 8, (some .int), { frames := 13, cells := 0, slots := 0, locals := 351 })
set_option maxRecDepth 100000 in
theorem cl_X1_68_zX1_countFrom_11 : cv_ RX1 68 yX1_countFrom zX1_countFrom_11 1 1 := ⟨gi_V (lwq_6 (dqc_m (dqc_m (dqc_m (dqc_m (dqa_m (dqa_m (List.mem_of_getElem? (i := 2) rfl))))))) rfl : Cond.methodLink RX1 68 yX1_countFrom ∈ lw_g) (lwq_6 (dqc_m (dqc_m (dqc_m (dqc_m (dqa_m (dqa_m (List.mem_of_getElem? (i := 4) rfl))))))) rfl : Cond.instanceMethod yX1_countFrom ∈ lw_g) (lw_sel 81 rfl : Cond.selects yX1_countFrom.cls yX1_countFrom yX1_countFrom ∈ lw_g) (lwq_1 (dqa_m (List.mem_of_getElem? (i := 0) rfl)) rfl : Cond.initialized yX1_countFrom.cls ∈ lw_g) (lwq_6 (dqc_m (dqc_m (dqc_m (dqc_m (dqa_m (dqa_m (List.mem_of_getElem? (i := 5) rfl))))))) rfl : Cond.code yX1_countFrom cX1_countFrom 8 (some .int) ∈ lw_g), ⟨nmh_2.1, nmh_2.2, pdq_15⟩, ⟨_, _, rfl⟩⟩
abbrev po_X1_countFrom_12 (T : Zt) (k : Int) : Zt → Option Zv → Prop := fun T' r => ∃ x : Int, r = some (vI x) ∧ fr_ [(434, []), (435, []), (431, [])] T T' ∧ (-2147483648 ≤ x ∧ x ≤ 2147483647)
set_option maxHeartbeats 4000000 in
theorem ct_X1_countFrom_12 {T : Zt} {k : Int} (hlw : LW8_ T) (hk : 0 ≤ k ∧ 0 ≤ k) : Ct_ yX1_countFrom zX1_countFrom_12 T [vR 101 0, vI k] (po_X1_countFrom_12 T k) := by
  refine ct_of pn_1 rfl rfl (Nat.le_of_ble_eq_true rfl) (fun hT hav => ?_)
  have hr_k : -2147483648 ≤ k ∧ k ≤ 2147483647 := hav (vI k) (List.mem_cons_of_mem _ List.mem_cons_self)
  have hz : zX1_countFrom_12.2.2.2.1 = some .boolean → ∀ (T' : Zt) (x : Int), po_X1_countFrom_12 T k T' (some (vI x)) → 0 ≤ x ∧ x ≤ 1 := fun h => by cases h
  have hwc : 0 ≤ T 101 0 13 ∧ T 101 0 13 ≤ 12 := bd_f hT 101 13 tl_1_13 0
  have hgr : 0 ≤ T 101 0 1 ∧ T 101 0 1 ≤ 4 := bd_f hT 101 1 tl_1_1 0
  show J_ zX1_countFrom_12 T (po_X1_countFrom_12 T k) 0 0 0 [some (vR 101 0), some (vI k), none, none, none, none, none, none] [] T
  have c_22 : ∀ (nn : Nat) (v : Int) (g : Int) (T1 : Zt), ((4 - g).toNat) ≤ nn → (fr_ [(434, []), (435, []), (431, [])] T T1) → (0 ≤ g ∧ -2147483648 ≤ v ∧ v ≤ 2147483647 ∧ k < T 101 0 13) → J_ zX1_countFrom_12 T (po_X1_countFrom_12 T k) 0 0 22 [some (vR 101 0), some (vI k), some (vI (T 432 0 k)), some (vI v), some (vI g), none, none, none] [] T1 := by
    intro nn
    induction nn using Nat.strongRecOn with
    | _ nn ih_22 =>
      intro v g T1 hm_22 hf_22 i1
      replace hm_22 := fun (_ : Unit) => hm_22
      have hlk := hlw k (by omega) (by omega)
      have hwk : 0 ≤ T 432 0 k ∧ T 432 0 k ≤ 11 := bd_a hT 432 (by decide +kernel : ta_ 432 = some (1, some 12, 0, 11)) 0 (by omega)
      have hpk : (-1) ≤ T 428 0 (T 432 0 k) ∧ T 428 0 (T 432 0 k) ≤ 2 := bd_a hT 428 (by decide +kernel : ta_ 428 = some (1, some 12, (-1), 2)) 0 (by omega)
      refine j_blx (F := fX1) tb_X1 (nn_ _) bk_X1_countFrom_22 bs_X1_countFrom_22 hz (fun K hK => ?_)
      intro b1 b1b
      have e2 : T1 101 0 1 = T 101 0 1 := hf_22 101 0 1 rfl
      rw [e2] at b1 b1b ⊢
      refine And.intro (fun c3 => ?_) (fun c3 => ?_)
      · refine hK 159 _ [] T1 ?_
        refine j_blx (F := fX1) tb_X1 (nn_ _) bk_X1_countFrom_159 bs_X1_countFrom_159 hz (fun K hK => ?_)
        refine (show po_X1_countFrom_12 T k T1 (some (vI v)) from ?_)
        exact ⟨_, rfl, fr_t (fr_0 _ _) (fr_s hf_22 rfl), by omega⟩
      · refine ix_i (by omega) ?_
        intro b4 b4b
        have e5 : T1 428 0 (T 432 0 k) = T 428 0 (T 432 0 k) := hf_22 428 0 (T 432 0 k) rfl
        rw [e5] at b4 b4b ⊢
        refine rg_i (by omega) ?_
        refine rg_i (by omega) ?_
        refine rg_i (by omega) ?_
        refine ix_i (by omega) ?_
        intro b6 b6b
        have e7 : T1 561 0 (T 432 0 k) = T 561 0 (T 432 0 k) := hf_22 561 0 (T 432 0 k) rfl
        rw [e7] at b6 b6b ⊢
        refine rg_i (by omega) ?_
        refine ix_i (by omega) ?_
        intro b8 b8b
        refine And.intro (fun c9 => ?_) (fun c9 => ?_)
        · refine hK 153 [some (vR 101 0), some (vI k), some (vI (T 432 0 k)), some (vI v), some (vI g), some (vI (((T 428 0 (T 432 0 k)) * 4) + g)), some (vI ((g * 8) + (T 561 0 (T 432 0 k)))), none] [] T1 ?_
          refine j_blx (F := fX1) tb_X1 (nn_ _) bk_X1_countFrom_153 bs_X1_countFrom_153 hz (fun K hK => ?_)
          refine rg_i (by omega) ?_
          refine hK 22 [some (vR 101 0), some (vI k), some (vI (T 432 0 k)), some (vI v), some (vI (g + 1)), some (vI (((T 428 0 (T 432 0 k)) * 4) + g)), some (vI ((g * 8) + (T 561 0 (T 432 0 k)))), none] [] T1 ?_
          refine j_drq [some (vR 101 0), some (vI k), some (vI (T 432 0 k)), some (vI v), some (vI (g + 1)), none, none, none] (drq_s (drq_s (drq_s (drq_s (drq_s (drq_n (drq_n (drq_n drq_0)))))))) ?_
          refine ih_22 _ ?_ v (g + 1) T1 (Nat.le_refl _) ?_ ?_
          · have hm_22 := hm_22 (); omega
          · exact fr_t (fr_0 _ _) (fr_s hf_22 rfl)
          · omega
        · refine ix_i (by omega) ?_
          intro b10 b10b
          intro b11 b11b
          have e12 : T1 101 0 2 = T 101 0 2 := hf_22 101 0 2 rfl
          rw [e12] at b11 b11b ⊢
          refine And.intro (fun c13 => ?_) (fun c13 => ?_)
          · refine hK 153 [some (vR 101 0), some (vI k), some (vI (T 432 0 k)), some (vI v), some (vI g), some (vI (((T 428 0 (T 432 0 k)) * 4) + g)), some (vI ((g * 8) + (T 561 0 (T 432 0 k)))), none] [] T1 ?_
            refine j_blx (F := fX1) tb_X1 (nn_ _) bk_X1_countFrom_153 bs_X1_countFrom_153 hz (fun K hK => ?_)
            refine rg_i (by omega) ?_
            refine hK 22 [some (vR 101 0), some (vI k), some (vI (T 432 0 k)), some (vI v), some (vI (g + 1)), some (vI (((T 428 0 (T 432 0 k)) * 4) + g)), some (vI ((g * 8) + (T 561 0 (T 432 0 k)))), none] [] T1 ?_
            refine j_drq [some (vR 101 0), some (vI k), some (vI (T 432 0 k)), some (vI v), some (vI (g + 1)), none, none, none] (drq_s (drq_s (drq_s (drq_s (drq_s (drq_n (drq_n (drq_n drq_0)))))))) ?_
            refine ih_22 _ ?_ v (g + 1) T1 (Nat.le_refl _) ?_ ?_
            · have hm_22 := hm_22 (); omega
            · exact fr_t (fr_0 _ _) (fr_s hf_22 rfl)
            · omega
          · refine iy_i (by omega) (by omega) ?_
            refine x_nm (fun U14 hU14 => ?_)
            have e15 := up_f hU14
            refine ix_i (by omega) ?_
            intro b16 b16b
            have e17 : U14 435 0 ((g * 8) + (T 561 0 (T 432 0 k))) = T1 435 0 ((g * 8) + (T 561 0 (T 432 0 k))) := up_k hU14 (by exact Nat.ne_of_beq_eq_false rfl) 0 ((g * 8) + (T 561 0 (T 432 0 k)))
            rw [e17] at b16 b16b ⊢
            intro w18 w18b
            refine iy_i (by omega) (by omega) ?_
            refine x_nm (fun U19 hU19 => ?_)
            have e20 := up_f hU19
            refine rg_i (by omega) ?_
            refine hK 108 [some (vR 101 0), some (vI k), some (vI (T 432 0 k)), some (vI v), some (vI g), some (vI (((T 428 0 (T 432 0 k)) * 4) + g)), some (vI ((g * 8) + (T 561 0 (T 432 0 k)))), none] [vI (k + 1), vR 101 0] U19 ?_
            have e21 : U19 101 0 13 = T 101 0 13 := (up_k hU19 (by exact Nat.ne_of_beq_eq_false rfl) 0 13).trans ((up_k hU14 (by exact Nat.ne_of_beq_eq_false rfl) 0 13).trans (hf_22 101 0 13 rfl))
            refine j_callV (y := yX1_countFrom) (Yc := zX1_countFrom_11) (rest := []) [vI (k + 1)] (ct_X1_countFrom_11 (T := U19) (LW8_f hlw (show fr_ [(434, []), (435, []), (431, [])] T U19 from fr_u (fr_u (fr_t (fr_0 _ _) (fr_s hf_22 rfl)) hU14 rfl) hU19 rfl) ⟨rfl, fun _ => rfl, fun _ => rfl⟩) (by omega)) cl_X1_68_zX1_countFrom_11 (qd_c (by decide +kernel)) (nn_ _) rfl (rf_of rfl) (Nat.le_of_ble_eq_true rfl) (Nat.le_of_ble_eq_true rfl) (Nat.le_of_ble_eq_true rfl) rfl ?_
            rintro U22 _ ⟨x23, rfl, fU22, qU22⟩
            show J_ zX1_countFrom_12 T (po_X1_countFrom_12 T k) 0 0 111 _ [vI x23] U22
            refine j_blx (F := fX1) tb_X1 (nn_ _) bk_X1_countFrom_111 bs_X1_countFrom_111 hz (fun K hK => ?_)
            refine rg_i (by omega) ?_
            refine rg_i (by omega) ?_
            refine ix_i (by omega) ?_
            intro b24 b24b
            intro w25 w25b
            refine iy_i (by omega) (by omega) ?_
            refine x_nm (fun U26 hU26 => ?_)
            have e27 := up_f hU26
            intro w28 w28b
            refine ix_i (by omega) ?_
            intro b29 b29b
            have e30 : U26 435 0 ((g * 8) + (T 561 0 (T 432 0 k))) = U22 435 0 ((g * 8) + (T 561 0 (T 432 0 k))) := up_k hU26 (by exact Nat.ne_of_beq_eq_false rfl) 0 ((g * 8) + (T 561 0 (T 432 0 k)))
            rw [e30] at b29 b29b ⊢
            intro w31 w31b
            refine iy_i (by omega) (by omega) ?_
            refine x_nm (fun U32 hU32 => ?_)
            have e33 := up_f hU32
            refine iy_i (by omega) (by omega) ?_
            refine x_nm (fun U34 hU34 => ?_)
            have e35 := up_f hU34
            refine rg_i (by omega) ?_
            refine hK 22 [some (vR 101 0), some (vI k), some (vI (T 432 0 k)), some (vI (wr_ (v + x23))), some (vI (g + 1)), some (vI (((T 428 0 (T 432 0 k)) * 4) + g)), some (vI ((g * 8) + (T 561 0 (T 432 0 k)))), some (vI x23)] [] U34 ?_
            refine j_drq [some (vR 101 0), some (vI k), some (vI (T 432 0 k)), some (vI (wr_ (v + x23))), some (vI (g + 1)), none, none, none] (drq_s (drq_s (drq_s (drq_s (drq_s (drq_n (drq_n (drq_n drq_0)))))))) ?_
            refine ih_22 _ ?_ (wr_ (v + x23)) (g + 1) U34 (Nat.le_refl _) ?_ ?_
            · have hm_22 := hm_22 (); omega
            · exact fr_u (fr_u (fr_u (fr_t (fr_u (fr_u (fr_t (fr_0 _ _) (fr_s hf_22 rfl)) hU14 rfl) hU19 rfl) (fr_s fU22 rfl)) hU26 rfl) hU32 rfl) hU34 rfl
            · omega
  refine j_blx (F := fX1) tb_X1 (nn_ _) bk_X1_countFrom_0 bs_X1_countFrom_0 hz (fun K hK => ?_)
  intro b36 b36b
  refine And.intro (fun c37 => ?_) (fun c37 => ?_)
  · refine hK 10 _ [] T ?_
    refine j_blx (F := fX1) tb_X1 (nn_ _) bk_X1_countFrom_10 bs_X1_countFrom_10 hz (fun K hK => ?_)
    refine ix_i (by omega) ?_
    intro b38 b38b
    refine hK 22 [some (vR 101 0), some (vI k), some (vI (T 432 0 k)), some (vI 0), some (vI 0), none, none, none] [] T ?_
    refine c_22 _ 0 0 T (Nat.le_refl _) ?_ ?_
    · exact fr_0 _ _
    · omega
  · refine (show po_X1_countFrom_12 T k T (some (vI 1)) from ?_)
    exact ⟨_, rfl, fr_0 _ _, by omega⟩
abbrev cX1_refresh : ByteArray := prog_3_method_4_code
def yX1_refresh : MethodName := ⟨RX1, "refresh", "()V"⟩
def zX1_refresh : Zm := (RX1, cX1_refresh, 3, none, { frames := 14, cells := 0, slots := 0, locals := 378 })
theorem bk_X1_refresh_46 : ck_ fX1 none cX1_refresh 46 [.iload 2, .iconst 12, .if_icmp .ge 155, .aload 0, .tableswitch 0 1 8 #[], .iload 2, .iaload, .iload 1, .if_icmp .ne 95, .aload 0, .tableswitch 0 1 9 #[], .iload 2, .iaload, .iconst (-1), .if_icmp .ne 95, .aload 0, .tableswitch 0 1 12 #[], .aload 0, .tableswitch 0 1 13 #[], .iload 2, .iastore, .aload 0, .dup, .tableswitch 0 1 13 #[], .iconst 1, .iadd, .tableswitch 1 1 13 #[], .goto 149] 95 = true := qck_r (nn_ _) (by decide +kernel)
theorem bs_X1_refresh_46 {P : Zt → Option Zv → Prop} (K : Int → Zl → List Zv → Zt → Prop) : sx_ K P [.iload 2, .iconst 12, .if_icmp .ge 155, .aload 0, .tableswitch 0 1 8 #[], .iload 2, .iaload, .iload 1, .if_icmp .ne 95, .aload 0, .tableswitch 0 1 9 #[], .iload 2, .iaload, .iconst (-1), .if_icmp .ne 95, .aload 0, .tableswitch 0 1 12 #[], .aload 0, .tableswitch 0 1 13 #[], .iload 2, .iastore, .aload 0, .dup, .tableswitch 0 1 13 #[], .iconst 1, .iadd, .tableswitch 1 1 13 #[], .goto 149] 95 = x_iload 2 (x_iconst 12 (x_if_icmp .ge 155 K (x_aload 0 (x_g1 101 428 (x_iload 2 (x_iaload (x_iload 1 (x_if_icmp .ne 95 K (x_aload 0 (x_g1 101 429 (x_iload 2 (x_iaload (x_iconst (-1) (x_if_icmp .ne 95 K (x_aload 0 (x_g1 101 432 (x_aload 0 (x_g0 101 13 0 12 (x_iload 2 (x_iastore (x_aload 0 (x_dup (x_g0 101 13 0 12 (x_iconst 1 (x_iadd (x_p 101 13 0 12 (x_goto 149 K))))))))))))))))))))))))))) := ((xe_iload 2).trans (congrArg (x_iload 2) ((xe_iconst 12).trans (congrArg (x_iconst 12) ((xe_if_icmp .ge 155).trans (congrArg (x_if_icmp .ge 155 K) ((xe_aload 0).trans (congrArg (x_aload 0) ((xe_g1 (kk := 101) rfl tl_1_8).trans (congrArg (x_g1 101 428) ((xe_iload 2).trans (congrArg (x_iload 2) ((xe_iaload).trans (congrArg (x_iaload) ((xe_iload 1).trans (congrArg (x_iload 1) ((xe_if_icmp .ne 95).trans (congrArg (x_if_icmp .ne 95 K) ((xe_aload 0).trans (congrArg (x_aload 0) ((xe_g1 (kk := 101) rfl tl_1_9).trans (congrArg (x_g1 101 429) ((xe_iload 2).trans (congrArg (x_iload 2) ((xe_iaload).trans (congrArg (x_iaload) ((xe_iconst (-1)).trans (congrArg (x_iconst (-1)) ((xe_if_icmp .ne 95).trans (congrArg (x_if_icmp .ne 95 K) ((xe_aload 0).trans (congrArg (x_aload 0) ((xe_g1 (kk := 101) rfl tl_1_12).trans (congrArg (x_g1 101 432) ((xe_aload 0).trans (congrArg (x_aload 0) ((xe_g0 (kk := 101) rfl tl_1_13).trans (congrArg (x_g0 101 13 0 12) ((xe_iload 2).trans (congrArg (x_iload 2) ((xe_iastore).trans (congrArg (x_iastore) ((xe_aload 0).trans (congrArg (x_aload 0) ((xe_dup).trans (congrArg (x_dup) ((xe_g0 (kk := 101) rfl tl_1_13).trans (congrArg (x_g0 101 13 0 12) ((xe_iconst 1).trans (congrArg (x_iconst 1) ((xe_iadd).trans (congrArg (x_iadd) ((xe_p (kk := 101) rfl tl_1_13).trans (congrArg (x_p 101 13 0 12) (xe_goto 149)))))))))))))))))))))))))))))))))))))))))))))))))))))))
theorem bk_X1_refresh_155 : ck_ fX1 none cX1_refresh 155 [.iinc 1 1, .goto 39] 161 = true := qck_r (nn_ _) (by decide +kernel)
theorem bs_X1_refresh_155 {P : Zt → Option Zv → Prop} (K : Int → Zl → List Zv → Zt → Prop) : sx_ K P [.iinc 1 1, .goto 39] 161 = x_iinc 1 1 (x_goto 39 K) := ((xe_iinc 1 1).trans (congrArg (x_iinc 1 1) (xe_goto 39)))
theorem bk_X1_refresh_95 : ck_ fX1 none cX1_refresh 95 [.aload 0, .tableswitch 0 1 8 #[], .iload 2, .iaload, .iload 1, .if_icmp .ne 149, .aload 0, .tableswitch 0 1 14 #[], .iload 1, .iconst 4, .imul, .aload 0, .tableswitch 0 1 9 #[], .iload 2, .iaload, .iadd, .iconst 1, .iastore, .aload 0, .tableswitch 0 1 15 #[], .aload 0, .tableswitch 0 1 9 #[], .iload 2, .iaload, .iconst 8, .imul, .aload 0, .tableswitch 0 1 0 #[], .tableswitch 0 8 1 #[], .iload 2, .iaload, .iadd, .dup2, .iaload, .iconst 1, .fadd, .iastore, .iinc 2 1, .goto 46] 155 = true := qck_r (nn_ _) (by decide +kernel)
theorem bs_X1_refresh_95 {P : Zt → Option Zv → Prop} (K : Int → Zl → List Zv → Zt → Prop) : sx_ K P [.aload 0, .tableswitch 0 1 8 #[], .iload 2, .iaload, .iload 1, .if_icmp .ne 149, .aload 0, .tableswitch 0 1 14 #[], .iload 1, .iconst 4, .imul, .aload 0, .tableswitch 0 1 9 #[], .iload 2, .iaload, .iadd, .iconst 1, .iastore, .aload 0, .tableswitch 0 1 15 #[], .aload 0, .tableswitch 0 1 9 #[], .iload 2, .iaload, .iconst 8, .imul, .aload 0, .tableswitch 0 1 0 #[], .tableswitch 0 8 1 #[], .iload 2, .iaload, .iadd, .dup2, .iaload, .iconst 1, .fadd, .iastore, .iinc 2 1, .goto 46] 155 = x_aload 0 (x_g1 101 428 (x_iload 2 (x_iaload (x_iload 1 (x_if_icmp .ne 149 K (x_aload 0 (x_g1 101 434 (x_iload 1 (x_iconst 4 (x_imul (x_aload 0 (x_g1 101 429 (x_iload 2 (x_iaload (x_iadd (x_iconst 1 (x_iastore (x_aload 0 (x_g1 101 435 (x_aload 0 (x_g1 101 429 (x_iload 2 (x_iaload (x_iconst 8 (x_imul (x_aload 0 (x_g1 101 108 (x_g1 108 561 (x_iload 2 (x_iaload (x_iadd (x_dup2 (x_iaload (x_iconst 1 (x_fadd (x_iastore (x_iinc 2 1 (x_goto 46 K)))))))))))))))))))))))))))))))))))))) := ((xe_aload 0).trans (congrArg (x_aload 0) ((xe_g1 (kk := 101) rfl tl_1_8).trans (congrArg (x_g1 101 428) ((xe_iload 2).trans (congrArg (x_iload 2) ((xe_iaload).trans (congrArg (x_iaload) ((xe_iload 1).trans (congrArg (x_iload 1) ((xe_if_icmp .ne 149).trans (congrArg (x_if_icmp .ne 149 K) ((xe_aload 0).trans (congrArg (x_aload 0) ((xe_g1 (kk := 101) rfl tl_1_14).trans (congrArg (x_g1 101 434) ((xe_iload 1).trans (congrArg (x_iload 1) ((xe_iconst 4).trans (congrArg (x_iconst 4) ((xe_imul).trans (congrArg (x_imul) ((xe_aload 0).trans (congrArg (x_aload 0) ((xe_g1 (kk := 101) rfl tl_1_9).trans (congrArg (x_g1 101 429) ((xe_iload 2).trans (congrArg (x_iload 2) ((xe_iaload).trans (congrArg (x_iaload) ((xe_iadd).trans (congrArg (x_iadd) ((xe_iconst 1).trans (congrArg (x_iconst 1) ((xe_iastore).trans (congrArg (x_iastore) ((xe_aload 0).trans (congrArg (x_aload 0) ((xe_g1 (kk := 101) rfl tl_1_15).trans (congrArg (x_g1 101 435) ((xe_aload 0).trans (congrArg (x_aload 0) ((xe_g1 (kk := 101) rfl tl_1_9).trans (congrArg (x_g1 101 429) ((xe_iload 2).trans (congrArg (x_iload 2) ((xe_iaload).trans (congrArg (x_iaload) ((xe_iconst 8).trans (congrArg (x_iconst 8) ((xe_imul).trans (congrArg (x_imul) ((xe_aload 0).trans (congrArg (x_aload 0) ((xe_g1 (kk := 101) rfl tl_1_0).trans (congrArg (x_g1 101 108) ((xe_g1 (kk := 108) rfl tl_8_1).trans (congrArg (x_g1 108 561) ((xe_iload 2).trans (congrArg (x_iload 2) ((xe_iaload).trans (congrArg (x_iaload) ((xe_iadd).trans (congrArg (x_iadd) ((xe_dup2).trans (congrArg (x_dup2) ((xe_iaload).trans (congrArg (x_iaload) ((xe_iconst 1).trans (congrArg (x_iconst 1) ((xe_fadd).trans (congrArg (x_fadd) ((xe_iastore).trans (congrArg (x_iastore) ((xe_iinc 2 1).trans (congrArg (x_iinc 2 1) (xe_goto 46)))))))))))))))))))))))))))))))))))))))))))))))))))))))))))))))))))))))))))))
theorem bk_X1_refresh_149 : ck_ fX1 none cX1_refresh 149 [.iinc 2 1, .goto 46] 155 = true := qck_r (nn_ _) (by decide +kernel)
theorem bs_X1_refresh_149 {P : Zt → Option Zv → Prop} (K : Int → Zl → List Zv → Zt → Prop) : sx_ K P [.iinc 2 1, .goto 46] 155 = x_iinc 2 1 (x_goto 46 K) := ((xe_iinc 2 1).trans (congrArg (x_iinc 2 1) (xe_goto 46)))
theorem bk_X1_refresh_39 : ck_ fX1 none cX1_refresh 39 [.iload 1, .iconst 3, .if_icmp .ge 161, .iconst 0, .istore 2] 46 = true := qck_r (nn_ _) (by decide +kernel)
theorem bs_X1_refresh_39 {P : Zt → Option Zv → Prop} (K : Int → Zl → List Zv → Zt → Prop) : sx_ K P [.iload 1, .iconst 3, .if_icmp .ge 161, .iconst 0, .istore 2] 46 = x_iload 1 (x_iconst 3 (x_if_icmp .ge 161 K (x_iconst 0 (x_istore 2 (K 46))))) := ((xe_iload 1).trans (congrArg (x_iload 1) ((xe_iconst 3).trans (congrArg (x_iconst 3) ((xe_if_icmp .ge 161).trans (congrArg (x_if_icmp .ge 161 K) ((xe_iconst 0).trans (congrArg (x_iconst 0) ((xe_istore 2).trans (congrArg (x_istore 2) xe_nil))))))))))
theorem bk_X1_refresh_161 : ck_ fX1 none cX1_refresh 161 [.aload 0, .aload 0, .iconst 0] 164 = true := qck_r (nn_ _) (by decide +kernel)
theorem bs_X1_refresh_161 {P : Zt → Option Zv → Prop} (K : Int → Zl → List Zv → Zt → Prop) : sx_ K P [.aload 0, .aload 0, .iconst 0] 164 = x_aload 0 (x_aload 0 (x_iconst 0 (K 164))) := ((xe_aload 0).trans (congrArg (x_aload 0) ((xe_aload 0).trans (congrArg (x_aload 0) ((xe_iconst 0).trans (congrArg (x_iconst 0) xe_nil))))))
set_option maxRecDepth 100000 in
theorem cl_X1_68_zX1_countFrom_12 : cv_ RX1 68 yX1_countFrom zX1_countFrom_12 1 1 := ⟨gi_V (lwq_6 (dqc_m (dqc_m (dqc_m (dqc_m (dqa_m (dqa_m (List.mem_of_getElem? (i := 2) rfl))))))) rfl : Cond.methodLink RX1 68 yX1_countFrom ∈ lw_g) (lwq_6 (dqc_m (dqc_m (dqc_m (dqc_m (dqa_m (dqa_m (List.mem_of_getElem? (i := 4) rfl))))))) rfl : Cond.instanceMethod yX1_countFrom ∈ lw_g) (lw_sel 81 rfl : Cond.selects yX1_countFrom.cls yX1_countFrom yX1_countFrom ∈ lw_g) (lwq_1 (dqa_m (List.mem_of_getElem? (i := 0) rfl)) rfl : Cond.initialized yX1_countFrom.cls ∈ lw_g) (lwq_6 (dqc_m (dqc_m (dqc_m (dqc_m (dqa_m (dqa_m (List.mem_of_getElem? (i := 5) rfl))))))) rfl : Cond.code yX1_countFrom cX1_countFrom 8 (some .int) ∈ lw_g), ⟨nmh_2.1, nmh_2.2, pdq_15⟩, ⟨_, _, rfl⟩⟩
theorem bk_X1_refresh_167 : ck_ fX1 none cX1_refresh 167 [.tableswitch 1 1 6 #[], .aload 0, .iconst 1, .tableswitch 1 1 7 #[], .return_] 176 = true := qck_r (nn_ _) (by decide +kernel)
theorem bs_X1_refresh_167 {P : Zt → Option Zv → Prop} (K : Int → Zl → List Zv → Zt → Prop) : sx_ K P [.tableswitch 1 1 6 #[], .aload 0, .iconst 1, .tableswitch 1 1 7 #[], .return_] 176 = x_p 101 6 (-2147483648) 2147483647 (x_aload 0 (x_iconst 1 (x_p 101 7 0 1 (x_return_ P)))) := ((xe_p (kk := 101) rfl tl_1_6).trans (congrArg (x_p 101 6 (-2147483648) 2147483647) ((xe_aload 0).trans (congrArg (x_aload 0) ((xe_iconst 1).trans (congrArg (x_iconst 1) ((xe_p (kk := 101) rfl tl_1_7).trans (congrArg (x_p 101 7 0 1) (xe_return_)))))))))
theorem bk_X1_refresh_0 : ck_ fX1 none cX1_refresh 0 [.aload 0, .tableswitch 0 1 7 #[], .ifCond .eq 8, .return_] 8 = true := qck_r (nn_ _) (by decide +kernel)
theorem bs_X1_refresh_0 {P : Zt → Option Zv → Prop} (K : Int → Zl → List Zv → Zt → Prop) : sx_ K P [.aload 0, .tableswitch 0 1 7 #[], .ifCond .eq 8, .return_] 8 = x_aload 0 (x_g0 101 7 0 1 (x_ifCond .eq 8 K (x_return_ P))) := ((xe_aload 0).trans (congrArg (x_aload 0) ((xe_g0 (kk := 101) rfl tl_1_7).trans (congrArg (x_g0 101 7 0 1) ((xe_ifCond .eq 8).trans (congrArg (x_ifCond .eq 8 K) (xe_return_)))))))
theorem bk_X1_refresh_8 : ck_ fX1 none cX1_refresh 8 [.aload 0, .tableswitch 0 1 11 #[], .iconst 0] 13 = true := qck_r (nn_ _) (by decide +kernel)
theorem bs_X1_refresh_8 {P : Zt → Option Zv → Prop} (K : Int → Zl → List Zv → Zt → Prop) : sx_ K P [.aload 0, .tableswitch 0 1 11 #[], .iconst 0] 13 = x_aload 0 (x_g1 101 431 (x_iconst 0 (K 13))) := ((xe_aload 0).trans (congrArg (x_aload 0) ((xe_g1 (kk := 101) rfl tl_1_11).trans (congrArg (x_g1 101 431) ((xe_iconst 0).trans (congrArg (x_iconst 0) xe_nil))))))
theorem bk_X1_refresh_16 : ck_ fX1 none cX1_refresh 16 [.aload 0, .tableswitch 0 1 14 #[], .iconst 0] 21 = true := qck_r (nn_ _) (by decide +kernel)
theorem bs_X1_refresh_16 {P : Zt → Option Zv → Prop} (K : Int → Zl → List Zv → Zt → Prop) : sx_ K P [.aload 0, .tableswitch 0 1 14 #[], .iconst 0] 21 = x_aload 0 (x_g1 101 434 (x_iconst 0 (K 21))) := ((xe_aload 0).trans (congrArg (x_aload 0) ((xe_g1 (kk := 101) rfl tl_1_14).trans (congrArg (x_g1 101 434) ((xe_iconst 0).trans (congrArg (x_iconst 0) xe_nil))))))
theorem bk_X1_refresh_24 : ck_ fX1 none cX1_refresh 24 [.aload 0, .tableswitch 0 1 15 #[], .iconst 0] 29 = true := qck_r (nn_ _) (by decide +kernel)
theorem bs_X1_refresh_24 {P : Zt → Option Zv → Prop} (K : Int → Zl → List Zv → Zt → Prop) : sx_ K P [.aload 0, .tableswitch 0 1 15 #[], .iconst 0] 29 = x_aload 0 (x_g1 101 435 (x_iconst 0 (K 29))) := ((xe_aload 0).trans (congrArg (x_aload 0) ((xe_g1 (kk := 101) rfl tl_1_15).trans (congrArg (x_g1 101 435) ((xe_iconst 0).trans (congrArg (x_iconst 0) xe_nil))))))
theorem bk_X1_refresh_32 : ck_ fX1 none cX1_refresh 32 [.aload 0, .iconst 0, .tableswitch 1 1 13 #[], .iconst 0, .istore 1] 39 = true := qck_r (nn_ _) (by decide +kernel)
theorem bs_X1_refresh_32 {P : Zt → Option Zv → Prop} (K : Int → Zl → List Zv → Zt → Prop) : sx_ K P [.aload 0, .iconst 0, .tableswitch 1 1 13 #[], .iconst 0, .istore 1] 39 = x_aload 0 (x_iconst 0 (x_p 101 13 0 12 (x_iconst 0 (x_istore 1 (K 39))))) := ((xe_aload 0).trans (congrArg (x_aload 0) ((xe_iconst 0).trans (congrArg (x_iconst 0) ((xe_p (kk := 101) rfl tl_1_13).trans (congrArg (x_p 101 13 0 12) ((xe_iconst 0).trans (congrArg (x_iconst 0) ((xe_istore 1).trans (congrArg (x_istore 1) xe_nil))))))))))
abbrev po_X1_refresh (T : Zt) : Zt → Option Zv → Prop := fun T' r => r = none ∧ fr_ [(101, [13, 6, 7]), (434, []), (435, []), (431, []), (432, [])] T T' ∧ (0 = (0 : Int))
set_option maxHeartbeats 4000000 in
theorem ct_X1_refresh {T : Zt} : Ct_ yX1_refresh zX1_refresh T [vR 101 0] (po_X1_refresh T) := by
  refine ct_of pn_1 rfl rfl (Nat.le_of_ble_eq_true rfl) (fun hT hav => ?_)
  have hz : zX1_refresh.2.2.2.1 = some .boolean → ∀ (T' : Zt) (x : Int), po_X1_refresh T T' (some (vI x)) → 0 ≤ x ∧ x ≤ 1 := fun h => by cases h
  show J_ zX1_refresh T (po_X1_refresh T) 0 0 0 [some (vR 101 0), none, none] [] T
  have c_39 : ∀ (nn : Nat) (p : Int) (T1 : Zt), ((3 - p).toNat) ≤ nn → (fr_ [(101, [13]), (434, []), (435, []), (431, []), (432, [])] T T1) → (0 ≤ p ∧ p ≤ 3) → (LW8_ T1) → (T1 101 0 13 ≤ cw8_ (T 428 0) p 0) → J_ zX1_refresh T (po_X1_refresh T) 0 0 39 [some (vR 101 0), some (vI p), none] [] T1 := by
    intro nn
    induction nn using Nat.strongRecOn with
    | _ nn ih_39 =>
      intro p T1 hm_39 hf_39 i1 lw1 cw1
      replace hm_39 := fun (_ : Unit) => hm_39
      have c_46 : ∀ (nn : Nat) (c : Int) (T2 : Zt), ((12 - c).toNat) ≤ nn → (fr_ [(101, [13]), (434, []), (435, []), (431, []), (432, [])] T T2) → (0 ≤ c ∧ c ≤ 12 ∧ p < 3) → (LW8_ T2) → (T2 101 0 13 ≤ cw8_ (T 428 0) p c) → J_ zX1_refresh T (po_X1_refresh T) 0 0 46 [some (vR 101 0), some (vI p), some (vI c)] [] T2 := by
        intro nn
        induction nn using Nat.strongRecOn with
        | _ nn ih_46 =>
          intro c T2 hm_46 hf_46 i2 lw2 cw2
          replace hm_46 := fun (_ : Unit) => hm_46
          refine j_blx (F := fX1) tb_X1 (nn_ _) bk_X1_refresh_46 bs_X1_refresh_46 hz (fun K hK => ?_)
          refine And.intro (fun c1 => ?_) (fun c1 => ?_)
          · refine hK 155 _ [] T2 ?_
            refine j_blx (F := fX1) tb_X1 (nn_ _) bk_X1_refresh_155 bs_X1_refresh_155 hz (fun K hK => ?_)
            refine rg_i (by omega) ?_
            refine hK 39 [some (vR 101 0), some (vI (p + 1)), some (vI c)] [] T2 ?_
            refine j_drq [some (vR 101 0), some (vI (p + 1)), none] (drq_s (drq_s (drq_n drq_0))) ?_
            refine ih_39 _ ?_ (p + 1) T2 (Nat.le_refl _) ?_ ?_ ?_ ?_
            · have hm_39 := hm_39 (); omega
            · exact fr_t (fr_0 _ _) (fr_s hf_46 rfl)
            · omega
            · exact lw2
            · rw [← cw8_n (by omega) (show c = 12 by omega)]; exact cw2
          · refine ix_i (by omega) ?_
            intro b2 b2b
            have e3 : T2 428 0 c = T 428 0 c := hf_46 428 0 c rfl
            rw [e3] at b2 b2b ⊢
            refine And.intro (fun c4 => ?_) (fun c4 => ?_)
            · refine hK 95 [some (vR 101 0), some (vI p), some (vI c)] [] T2 ?_
              refine j_blx (F := fX1) tb_X1 (nn_ _) bk_X1_refresh_95 bs_X1_refresh_95 hz (fun K hK => ?_)
              refine ix_i (by omega) ?_
              intro b5 b5b
              have e6 : T2 428 0 c = T 428 0 c := hf_46 428 0 c rfl
              rw [e6] at b5 b5b ⊢
              refine And.intro (fun c7 => ?_) (fun c7 => ?_)
              · refine hK 149 _ [] T2 ?_
                refine j_blx (F := fX1) tb_X1 (nn_ _) bk_X1_refresh_149 bs_X1_refresh_149 hz (fun K hK => ?_)
                refine rg_i (by omega) ?_
                refine hK 46 [some (vR 101 0), some (vI p), some (vI (c + 1))] [] T2 ?_
                refine ih_46 _ ?_ (c + 1) T2 (Nat.le_refl _) ?_ ?_ ?_ ?_
                · have hm_46 := hm_46 (); omega
                · exact fr_t (fr_0 _ _) (fr_s hf_46 rfl)
                · omega
                · exact lw2
                · exact Int.le_trans cw2 (cw8_i (by omega))
              · refine rg_i (by omega) ?_
                refine ix_i (by omega) ?_
                intro b8 b8b
                have e9 : T2 429 0 c = T 429 0 c := hf_46 429 0 c rfl
                rw [e9] at b8 b8b ⊢
                refine rg_i (by omega) ?_
                refine iy_i (by omega) (by omega) ?_
                refine x_nm (fun U10 hU10 => ?_)
                have e11 := up_f hU10
                refine ix_i (by omega) ?_
                intro b12 b12b
                have e13 : U10 429 0 c = T 429 0 c := (up_k hU10 (by exact Nat.ne_of_beq_eq_false rfl) 0 c).trans (hf_46 429 0 c rfl)
                rw [e13] at b12 b12b ⊢
                refine rg_i (by omega) ?_
                refine ix_i (by omega) ?_
                intro b14 b14b
                have e15 : U10 561 0 c = T 561 0 c := (up_k hU10 (by exact Nat.ne_of_beq_eq_false rfl) 0 c).trans (hf_46 561 0 c rfl)
                rw [e15] at b14 b14b ⊢
                refine rg_i (by omega) ?_
                refine ix_i (by omega) ?_
                intro b16 b16b
                have e17 : U10 435 0 (((T 429 0 c) * 8) + (T 561 0 c)) = T2 435 0 (((T 429 0 c) * 8) + (T 561 0 c)) := up_k hU10 (by exact Nat.ne_of_beq_eq_false rfl) 0 (((T 429 0 c) * 8) + (T 561 0 c))
                rw [e17] at b16 b16b ⊢
                intro w18 w18b
                refine iy_i (by omega) (by omega) ?_
                refine x_nm (fun U19 hU19 => ?_)
                have e20 := up_f hU19
                refine rg_i (by omega) ?_
                refine hK 46 _ [] U19 ?_
                have e21 : U19 101 0 13 = T2 101 0 13 := (up_k hU19 (by exact Nat.ne_of_beq_eq_false rfl) 0 13).trans (up_k hU10 (by exact Nat.ne_of_beq_eq_false rfl) 0 13)
                refine ih_46 _ ?_ (c + 1) U19 (Nat.le_refl _) ?_ ?_ ?_ ?_
                · have hm_46 := hm_46 (); omega
                · exact fr_u (fr_u (fr_t (fr_0 _ _) (fr_s hf_46 rfl)) hU10 rfl) hU19 rfl
                · omega
                · intro j a b
                  rw [show U19 101 0 13 = T2 101 0 13 from (up_k hU19 (by exact Nat.ne_of_beq_eq_false rfl) _ _).trans (up_k hU10 (by exact Nat.ne_of_beq_eq_false rfl) _ _)] at b
                  rw [show U19 432 0 j = T2 432 0 j from (up_k hU19 (by exact Nat.ne_of_beq_eq_false rfl) _ _).trans (up_k hU10 (by exact Nat.ne_of_beq_eq_false rfl) _ _), show ∀ y, U19 428 0 y = T2 428 0 y from fun y => (up_k hU19 (by exact Nat.ne_of_beq_eq_false rfl) _ _).trans (up_k hU10 (by exact Nat.ne_of_beq_eq_false rfl) _ _)]
                  exact lw2 j a b
                · rw [show U19 101 0 13 = T2 101 0 13 from (up_k hU19 (by exact Nat.ne_of_beq_eq_false rfl) _ _).trans (up_k hU10 (by exact Nat.ne_of_beq_eq_false rfl) _ _)]
                  exact Int.le_trans cw2 (cw8_i (by omega))
            · refine ix_i (by omega) ?_
              intro b22 b22b
              have e23 : T2 429 0 c = T 429 0 c := hf_46 429 0 c rfl
              rw [e23] at b22 b22b ⊢
              refine And.intro (fun c24 => ?_) (fun c24 => ?_)
              · refine hK 95 _ [] T2 ?_
                refine j_blx (F := fX1) tb_X1 (nn_ _) bk_X1_refresh_95 bs_X1_refresh_95 hz (fun K hK => ?_)
                refine ix_i (by omega) ?_
                intro b25 b25b
                have e26 : T2 428 0 c = T 428 0 c := hf_46 428 0 c rfl
                rw [e26] at b25 b25b ⊢
                refine And.intro (fun c27 => ?_) (fun c27 => ?_)
                · refine hK 149 _ [] T2 ?_
                  refine j_blx (F := fX1) tb_X1 (nn_ _) bk_X1_refresh_149 bs_X1_refresh_149 hz (fun K hK => ?_)
                  refine rg_i (by omega) ?_
                  refine hK 46 [some (vR 101 0), some (vI p), some (vI (c + 1))] [] T2 ?_
                  refine ih_46 _ ?_ (c + 1) T2 (Nat.le_refl _) ?_ ?_ ?_ ?_
                  · have hm_46 := hm_46 (); omega
                  · exact fr_t (fr_0 _ _) (fr_s hf_46 rfl)
                  · omega
                  · exact lw2
                  · exact Int.le_trans cw2 (cw8_i (by omega))
                · refine rg_i (by omega) ?_
                  refine ix_i (by omega) ?_
                  intro b28 b28b
                  have e29 : T2 429 0 c = T 429 0 c := hf_46 429 0 c rfl
                  rw [e29] at b28 b28b ⊢
                  refine rg_i (by omega) ?_
                  refine iy_i (by omega) (by omega) ?_
                  refine x_nm (fun U30 hU30 => ?_)
                  have e31 := up_f hU30
                  refine ix_i (by omega) ?_
                  intro b32 b32b
                  have e33 : U30 429 0 c = T 429 0 c := (up_k hU30 (by exact Nat.ne_of_beq_eq_false rfl) 0 c).trans (hf_46 429 0 c rfl)
                  rw [e33] at b32 b32b ⊢
                  refine rg_i (by omega) ?_
                  refine ix_i (by omega) ?_
                  intro b34 b34b
                  have e35 : U30 561 0 c = T 561 0 c := (up_k hU30 (by exact Nat.ne_of_beq_eq_false rfl) 0 c).trans (hf_46 561 0 c rfl)
                  rw [e35] at b34 b34b ⊢
                  refine rg_i (by omega) ?_
                  refine ix_i (by omega) ?_
                  intro b36 b36b
                  have e37 : U30 435 0 (((T 429 0 c) * 8) + (T 561 0 c)) = T2 435 0 (((T 429 0 c) * 8) + (T 561 0 c)) := up_k hU30 (by exact Nat.ne_of_beq_eq_false rfl) 0 (((T 429 0 c) * 8) + (T 561 0 c))
                  rw [e37] at b36 b36b ⊢
                  intro w38 w38b
                  refine iy_i (by omega) (by omega) ?_
                  refine x_nm (fun U39 hU39 => ?_)
                  have e40 := up_f hU39
                  refine rg_i (by omega) ?_
                  refine hK 46 _ [] U39 ?_
                  have e41 : U39 101 0 13 = T2 101 0 13 := (up_k hU39 (by exact Nat.ne_of_beq_eq_false rfl) 0 13).trans (up_k hU30 (by exact Nat.ne_of_beq_eq_false rfl) 0 13)
                  refine ih_46 _ ?_ (c + 1) U39 (Nat.le_refl _) ?_ ?_ ?_ ?_
                  · have hm_46 := hm_46 (); omega
                  · exact fr_u (fr_u (fr_t (fr_0 _ _) (fr_s hf_46 rfl)) hU30 rfl) hU39 rfl
                  · omega
                  · intro j a b
                    rw [show U39 101 0 13 = T2 101 0 13 from (up_k hU39 (by exact Nat.ne_of_beq_eq_false rfl) _ _).trans (up_k hU30 (by exact Nat.ne_of_beq_eq_false rfl) _ _)] at b
                    rw [show U39 432 0 j = T2 432 0 j from (up_k hU39 (by exact Nat.ne_of_beq_eq_false rfl) _ _).trans (up_k hU30 (by exact Nat.ne_of_beq_eq_false rfl) _ _), show ∀ y, U39 428 0 y = T2 428 0 y from fun y => (up_k hU39 (by exact Nat.ne_of_beq_eq_false rfl) _ _).trans (up_k hU30 (by exact Nat.ne_of_beq_eq_false rfl) _ _)]
                    exact lw2 j a b
                  · rw [show U39 101 0 13 = T2 101 0 13 from (up_k hU39 (by exact Nat.ne_of_beq_eq_false rfl) _ _).trans (up_k hU30 (by exact Nat.ne_of_beq_eq_false rfl) _ _)]
                    exact Int.le_trans cw2 (cw8_i (by omega))
              · intro b42 b42b
                have y0 := cw8_s (w := T 428 0) (p := p) (c := c) (by omega) (by omega) (by omega)
                refine iy_i (by omega) (by omega) ?_
                refine x_nm (fun U43 hU43 => ?_)
                have e44 := up_f hU43
                intro b45 b45b
                have e46 : U43 101 0 13 = T2 101 0 13 := up_k hU43 (by exact Nat.ne_of_beq_eq_false rfl) 0 13
                rw [e46] at b45 b45b ⊢
                refine rg_i (by omega) ?_
                refine bd_i (by omega) ?_
                refine x_nm (fun U47 hU47 => ?_)
                have e48 := up_f hU47
                refine hK 149 _ [] U47 ?_
                refine j_blx (F := fX1) tb_X1 (nn_ _) bk_X1_refresh_149 bs_X1_refresh_149 hz (fun K hK => ?_)
                refine rg_i (by omega) ?_
                refine hK 46 [some (vR 101 0), some (vI p), some (vI (c + 1))] [] U47 ?_
                have e49 : U47 101 0 13 = (T2 101 0 13) + 1 := up_f hU47
                refine ih_46 _ ?_ (c + 1) U47 (Nat.le_refl _) ?_ ?_ ?_ ?_
                · have hm_46 := hm_46 (); omega
                · exact fr_u (fr_u (fr_t (fr_0 _ _) (fr_s hf_46 rfl)) hU43 rfl) hU47 rfl
                · omega
                · intro j a b
                  have y1 : U47 101 0 13 = T2 101 0 13 + 1 := by have := up_f hU47; omega
                  have y2 : ∀ j, U47 432 0 j = U43 432 0 j := fun j => up_k hU47 (by exact Nat.ne_of_beq_eq_false rfl) _ _
                  have y3 : ∀ j, U47 428 0 j = T2 428 0 j := fun j => (up_k hU47 (by exact Nat.ne_of_beq_eq_false rfl) _ _).trans (up_k hU43 (by exact Nat.ne_of_beq_eq_false rfl) _ _)
                  rw [y3, y2]
                  by_cases z : j = T2 101 0 13
                  · rw [z, up_f hU43]; rw [hf_46 428 0 c rfl]; omega
                  · rw [up_g hU43 (fun q => z q.2.2)]; exact lw2 j a (by omega)
                · have y1 := up_f hU47
                  have y2 := (cw8_s (w := T 428 0) (p := p) (c := c) (by omega) (by omega) (by rw [← hf_46 428 0 c rfl]; omega)).1
                  have y3 : T2 101 0 13 ≤ _ := cw2
                  omega
      refine j_blx (F := fX1) tb_X1 (nn_ _) bk_X1_refresh_39 bs_X1_refresh_39 hz (fun K hK => ?_)
      refine And.intro (fun c50 => ?_) (fun c50 => ?_)
      · refine hK 161 _ [] T1 ?_
        refine j_blx (F := fX1) tb_X1 (nn_ _) bk_X1_refresh_161 bs_X1_refresh_161 hz (fun K hK => ?_)
        refine hK 164 _ [vI 0, vR 101 0, vR 101 0] T1 ?_
        refine j_callV (y := yX1_countFrom) (Yc := zX1_countFrom_12) (rest := [vR 101 0]) [vI 0] (ct_X1_countFrom_12 (T := T1) lw1 (by omega)) cl_X1_68_zX1_countFrom_12 (qd_c (by decide +kernel)) (nn_ _) rfl (rf_of rfl) (Nat.le_of_ble_eq_true rfl) (Nat.le_of_ble_eq_true rfl) (Nat.le_of_ble_eq_true rfl) rfl ?_
        rintro U51 _ ⟨x52, rfl, fU51, qU51⟩
        show J_ zX1_refresh T (po_X1_refresh T) 0 0 167 _ [vI x52, vR 101 0] U51
        refine j_blx (F := fX1) tb_X1 (nn_ _) bk_X1_refresh_167 bs_X1_refresh_167 hz (fun K hK => ?_)
        refine bd_i (by omega) ?_
        refine x_nm (fun U53 hU53 => ?_)
        have e54 := up_f hU53
        refine bd_i (by omega) ?_
        refine x_nm (fun U55 hU55 => ?_)
        have e56 := up_f hU55
        refine (show po_X1_refresh T U55 (none) from ?_)
        exact ⟨rfl, fr_u (fr_u (fr_t (fr_t (fr_0 _ _) (fr_s hf_39 rfl)) (fr_s fU51 rfl)) hU53 rfl) hU55 rfl, by rfl⟩
      · refine hK 46 [some (vR 101 0), some (vI p), some (vI 0)] [] T1 ?_
        refine c_46 _ 0 T1 (Nat.le_refl _) ?_ ?_ ?_ ?_
        · exact fr_t (fr_0 _ _) (fr_s hf_39 rfl)
        · omega
        · exact lw1
        · exact cw1
  refine j_blx (F := fX1) tb_X1 (nn_ _) bk_X1_refresh_0 bs_X1_refresh_0 hz (fun K hK => ?_)
  intro b57 b57b
  refine And.intro (fun c58 => ?_) (fun c58 => ?_)
  · refine hK 8 _ [] T ?_
    refine j_blx (F := fX1) tb_X1 (nn_ _) bk_X1_refresh_8 bs_X1_refresh_8 hz (fun K hK => ?_)
    refine hK 13 _ [vI 0, vR 431 0] T ?_
    refine j_callS (y := yJ7_fill_53178) (Yc := zJ7_fill_53178) (rest := []) [vR 431 0, vI 0] (ct_J7_fill_431 (T := T) (by omega)) cl_X1_54 (qd_c (by decide +kernel)) (nn_ _) rfl (rf_of rfl) (Nat.le_of_ble_eq_true rfl) (Nat.le_of_ble_eq_true rfl) (Nat.le_of_ble_eq_true rfl) rfl ?_
    rintro U59 _ ⟨rfl, fU59, qU59o, qU59⟩
    show J_ zX1_refresh T (po_X1_refresh T) 0 0 16 _ [] U59
    refine j_blx (F := fX1) tb_X1 (nn_ _) bk_X1_refresh_16 bs_X1_refresh_16 hz (fun K hK => ?_)
    refine hK 21 _ [vI 0, vR 434 0] U59 ?_
    refine j_callS (y := yJ7_fill_53178) (Yc := zJ7_fill_53178) (rest := []) [vR 434 0, vI 0] (ct_J7_fill_434 (T := U59) (by omega)) cl_X1_54 (qd_c (by decide +kernel)) (nn_ _) rfl (rf_of rfl) (Nat.le_of_ble_eq_true rfl) (Nat.le_of_ble_eq_true rfl) (Nat.le_of_ble_eq_true rfl) rfl ?_
    rintro U60 _ ⟨rfl, fU60, qU60o, qU60⟩
    show J_ zX1_refresh T (po_X1_refresh T) 0 0 24 _ [] U60
    refine j_blx (F := fX1) tb_X1 (nn_ _) bk_X1_refresh_24 bs_X1_refresh_24 hz (fun K hK => ?_)
    refine hK 29 _ [vI 0, vR 435 0] U60 ?_
    refine j_callS (y := yJ7_fill_53178) (Yc := zJ7_fill_53178) (rest := []) [vR 435 0, vI 0] (ct_J7_fill_435 (T := U60) (by omega)) cl_X1_54 (qd_c (by decide +kernel)) (nn_ _) rfl (rf_of rfl) (Nat.le_of_ble_eq_true rfl) (Nat.le_of_ble_eq_true rfl) (Nat.le_of_ble_eq_true rfl) rfl ?_
    rintro U61 _ ⟨rfl, fU61, qU61o, qU61⟩
    show J_ zX1_refresh T (po_X1_refresh T) 0 0 32 _ [] U61
    refine j_blx (F := fX1) tb_X1 (nn_ _) bk_X1_refresh_32 bs_X1_refresh_32 hz (fun K hK => ?_)
    refine bd_i (by omega) ?_
    refine x_nm (fun U62 hU62 => ?_)
    have e63 := up_f hU62
    refine hK 39 [some (vR 101 0), some (vI 0), none] [] U62 ?_
    have e64 : U62 101 0 13 = 0 := up_f hU62
    refine c_39 _ 0 U62 (Nat.le_refl _) ?_ ?_ ?_ ?_
    · exact fr_u (fr_t (fr_t (fr_t (fr_0 _ _) (fr_s fU59 rfl)) (fr_s fU60 rfl)) (fr_s fU61 rfl)) hU62 rfl
    · omega
    · exact fun j a b => absurd b (by have := up_f hU62; omega)
    · have y1 := up_f hU62
      rw [y1]; unfold cw8_; omega
  · refine (show po_X1_refresh T T (none) from ?_)
    exact ⟨rfl, fr_0 _ _, by rfl⟩
abbrev cX10_ways : ByteArray := prog_1_method_38_code
def yX10_ways : MethodName := ⟨RX10, "ways", "()I"⟩
def zX10_ways : Zm := (RX10, cX10_ways, 1, (some .int), { frames := 15, cells := 0, slots := 0, locals := 400 })
theorem bk_X10_ways_0 : ck_ fX10 (some .int) cX10_ways 0 [.aload 0, .tableswitch 0 10 5 #[], .tableswitch 0 1 1 #[], .ifCond .ne 13, .iconst (-4), .ireturn] 13 = true := qck_r (nn_ _) (by decide +kernel)
theorem bs_X10_ways_0 {P : Zt → Option Zv → Prop} (K : Int → Zl → List Zv → Zt → Prop) : sx_ K P [.aload 0, .tableswitch 0 10 5 #[], .tableswitch 0 1 1 #[], .ifCond .ne 13, .iconst (-4), .ireturn] 13 = x_aload 0 (x_g1 110 101 (x_g0 101 1 0 4 (x_ifCond .ne 13 K (x_iconst (-4) (x_ireturn P))))) := ((xe_aload 0).trans (congrArg (x_aload 0) ((xe_g1 (kk := 110) rfl tl_10_5).trans (congrArg (x_g1 110 101) ((xe_g0 (kk := 101) rfl tl_1_1).trans (congrArg (x_g0 101 1 0 4) ((xe_ifCond .ne 13).trans (congrArg (x_ifCond .ne 13 K) ((xe_iconst (-4)).trans (congrArg (x_iconst (-4)) (xe_ireturn)))))))))))
theorem bk_X10_ways_13 : ck_ fX10 (some .int) cX10_ways 13 [.aload 0, .tableswitch 0 10 5 #[]] 17 = true := qck_r (nn_ _) (by decide +kernel)
theorem bs_X10_ways_13 {P : Zt → Option Zv → Prop} (K : Int → Zl → List Zv → Zt → Prop) : sx_ K P [.aload 0, .tableswitch 0 10 5 #[]] 17 = x_aload 0 (x_g1 110 101 (K 17)) := ((xe_aload 0).trans (congrArg (x_aload 0) ((xe_g1 (kk := 110) rfl tl_10_5).trans (congrArg (x_g1 110 101) xe_nil))))
set_option maxRecDepth 100000 in
theorem cl_X10_399 : cv_ RX10 399 yX1_refresh zX1_refresh 1 0 := ⟨gi_V (lwq_6 (dqc_m (dqc_m (dqc_m (dqc_m (dqa_m (List.mem_of_getElem? (i := 6) rfl)))))) rfl : Cond.methodLink RX10 399 yX1_refresh ∈ lw_g) (lwq_6 (dqc_m (dqc_m (dqc_m (dqc_m (dqa_m (List.mem_of_getElem? (i := 7) rfl)))))) rfl : Cond.instanceMethod yX1_refresh ∈ lw_g) (lwq_6 (dqc_m (dqc_m (dqc_m (dqc_m (dqa_m (dqa_m (List.mem_of_getElem? (i := 0) rfl))))))) rfl : Cond.selects yX1_refresh.cls yX1_refresh yX1_refresh ∈ lw_g) (lwq_1 (dqa_m (List.mem_of_getElem? (i := 0) rfl)) rfl : Cond.initialized yX1_refresh.cls ∈ lw_g) (lwq_6 (dqc_m (dqc_m (dqc_m (dqc_m (dqa_m (dqa_m (List.mem_of_getElem? (i := 1) rfl))))))) rfl : Cond.code yX1_refresh cX1_refresh 3 none ∈ lw_g), ⟨nmh_2.1, nmh_2.2, pdq_1⟩, ⟨_, _, rfl⟩⟩
theorem bk_X10_ways_20 : ck_ fX10 (some .int) cX10_ways 20 [.aload 0, .tableswitch 0 10 5 #[], .tableswitch 0 1 6 #[], .ireturn] 28 = true := qck_r (nn_ _) (by decide +kernel)
theorem bs_X10_ways_20 {P : Zt → Option Zv → Prop} (K : Int → Zl → List Zv → Zt → Prop) : sx_ K P [.aload 0, .tableswitch 0 10 5 #[], .tableswitch 0 1 6 #[], .ireturn] 28 = x_aload 0 (x_g1 110 101 (x_g0 101 6 (-2147483648) 2147483647 (x_ireturn P))) := ((xe_aload 0).trans (congrArg (x_aload 0) ((xe_g1 (kk := 110) rfl tl_10_5).trans (congrArg (x_g1 110 101) ((xe_g0 (kk := 101) rfl tl_1_6).trans (congrArg (x_g0 101 6 (-2147483648) 2147483647) (xe_ireturn)))))))
abbrev po_X10_ways (T : Zt) : Zt → Option Zv → Prop := fun T' r => ∃ x : Int, r = some (vI x) ∧ fr_ [(101, [13, 6, 7]), (434, []), (435, []), (431, []), (432, [])] T T' ∧ (x = x)
set_option maxHeartbeats 4000000 in
theorem ct_X10_ways {T : Zt} : Ct_ yX10_ways zX10_ways T [vR 110 0] (po_X10_ways T) := by
  refine ct_of pn_10 rfl rfl (Nat.le_of_ble_eq_true rfl) (fun hT hav => ?_)
  have hz : zX10_ways.2.2.2.1 = some .boolean → ∀ (T' : Zt) (x : Int), po_X10_ways T T' (some (vI x)) → 0 ≤ x ∧ x ≤ 1 := fun h => by cases h
  show J_ zX10_ways T (po_X10_ways T) 0 0 0 [some (vR 110 0)] [] T
  refine j_blx (F := fX10) tb_X10 (nn_ _) bk_X10_ways_0 bs_X10_ways_0 hz (fun K hK => ?_)
  intro b1 b1b
  refine And.intro (fun c2 => ?_) (fun c2 => ?_)
  · refine hK 13 _ [] T ?_
    refine j_blx (F := fX10) tb_X10 (nn_ _) bk_X10_ways_13 bs_X10_ways_13 hz (fun K hK => ?_)
    refine hK 17 _ [vR 101 0] T ?_
    refine j_callV (y := yX1_refresh) (Yc := zX1_refresh) (rest := []) [] (ct_X1_refresh (T := T)) cl_X10_399 (qd_c (by decide +kernel)) (nn_ _) rfl (rf_of rfl) (Nat.le_of_ble_eq_true rfl) (Nat.le_of_ble_eq_true rfl) (Nat.le_of_ble_eq_true rfl) rfl ?_
    rintro U3 _ ⟨rfl, fU3, _⟩
    show J_ zX10_ways T (po_X10_ways T) 0 0 20 _ [] U3
    refine j_blx (F := fX10) tb_X10 (nn_ _) bk_X10_ways_20 bs_X10_ways_20 hz (fun K hK => ?_)
    intro b4 b4b
    refine (show po_X10_ways T U3 (some (vI (U3 101 0 6))) from ?_)
    exact ⟨_, rfl, fr_t (fr_0 _ _) (fr_s fU3 rfl), by rfl⟩
  · refine (show po_X10_ways T T (some (vI (-4))) from ?_)
    exact ⟨_, rfl, fr_0 _ _, by rfl⟩
abbrev cX10_chance : ByteArray := prog_1_method_39_code
def yX10_chance : MethodName := ⟨RX10, "chance", "(II)I"⟩
def zX10_chance : Zm := (RX10, cX10_chance, 3, (some .int), { frames := 15, cells := 0, slots := 0, locals := 400 })
theorem bk_X10_chance_0 : ck_ fX10 (some .int) cX10_chance 0 [.aload 0, .iload 1] 2 = true := qck_r (nn_ _) (by decide +kernel)
theorem bs_X10_chance_0 {P : Zt → Option Zv → Prop} (K : Int → Zl → List Zv → Zt → Prop) : sx_ K P [.aload 0, .iload 1] 2 = x_aload 0 (x_iload 1 (K 2)) := ((xe_aload 0).trans (congrArg (x_aload 0) ((xe_iload 1).trans (congrArg (x_iload 1) xe_nil))))
theorem bk_X10_chance_5 : ck_ fX10 (some .int) cX10_chance 5 [.ifCond .eq 31, .aload 0, .tableswitch 0 10 5 #[], .tableswitch 0 1 1 #[], .ifCond .eq 31, .aload 0, .tableswitch 0 10 5 #[], .tableswitch 0 1 8 #[], .iload 1, .iaload, .iconst (-1), .if_icmp .ne 34, .iconst (-2), .ireturn] 34 = true := qck_r (nn_ _) (by decide +kernel)
theorem bs_X10_chance_5 {P : Zt → Option Zv → Prop} (K : Int → Zl → List Zv → Zt → Prop) : sx_ K P [.ifCond .eq 31, .aload 0, .tableswitch 0 10 5 #[], .tableswitch 0 1 1 #[], .ifCond .eq 31, .aload 0, .tableswitch 0 10 5 #[], .tableswitch 0 1 8 #[], .iload 1, .iaload, .iconst (-1), .if_icmp .ne 34, .iconst (-2), .ireturn] 34 = x_ifCond .eq 31 K (x_aload 0 (x_g1 110 101 (x_g0 101 1 0 4 (x_ifCond .eq 31 K (x_aload 0 (x_g1 110 101 (x_g1 101 428 (x_iload 1 (x_iaload (x_iconst (-1) (x_if_icmp .ne 34 K (x_iconst (-2) (x_ireturn P))))))))))))) := ((xe_ifCond .eq 31).trans (congrArg (x_ifCond .eq 31 K) ((xe_aload 0).trans (congrArg (x_aload 0) ((xe_g1 (kk := 110) rfl tl_10_5).trans (congrArg (x_g1 110 101) ((xe_g0 (kk := 101) rfl tl_1_1).trans (congrArg (x_g0 101 1 0 4) ((xe_ifCond .eq 31).trans (congrArg (x_ifCond .eq 31 K) ((xe_aload 0).trans (congrArg (x_aload 0) ((xe_g1 (kk := 110) rfl tl_10_5).trans (congrArg (x_g1 110 101) ((xe_g1 (kk := 101) rfl tl_1_8).trans (congrArg (x_g1 101 428) ((xe_iload 1).trans (congrArg (x_iload 1) ((xe_iaload).trans (congrArg (x_iaload) ((xe_iconst (-1)).trans (congrArg (x_iconst (-1)) ((xe_if_icmp .ne 34).trans (congrArg (x_if_icmp .ne 34 K) ((xe_iconst (-2)).trans (congrArg (x_iconst (-2)) (xe_ireturn)))))))))))))))))))))))))))
theorem bk_X10_chance_31 : ck_ fX10 (some .int) cX10_chance 31 [.iconst (-2), .ireturn] 34 = true := qck_r (nn_ _) (by decide +kernel)
theorem bs_X10_chance_31 {P : Zt → Option Zv → Prop} (K : Int → Zl → List Zv → Zt → Prop) : sx_ K P [.iconst (-2), .ireturn] 34 = x_iconst (-2) (x_ireturn P) := ((xe_iconst (-2)).trans (congrArg (x_iconst (-2)) (xe_ireturn)))
theorem bk_X10_chance_34 : ck_ fX10 (some .int) cX10_chance 34 [.iload 2, .aload 0, .tableswitch 0 10 5 #[], .tableswitch 0 1 1 #[]] 42 = true := qck_r (nn_ _) (by decide +kernel)
theorem bs_X10_chance_34 {P : Zt → Option Zv → Prop} (K : Int → Zl → List Zv → Zt → Prop) : sx_ K P [.iload 2, .aload 0, .tableswitch 0 10 5 #[], .tableswitch 0 1 1 #[]] 42 = x_iload 2 (x_aload 0 (x_g1 110 101 (x_g0 101 1 0 4 (K 42)))) := ((xe_iload 2).trans (congrArg (x_iload 2) ((xe_aload 0).trans (congrArg (x_aload 0) ((xe_g1 (kk := 110) rfl tl_10_5).trans (congrArg (x_g1 110 101) ((xe_g0 (kk := 101) rfl tl_1_1).trans (congrArg (x_g0 101 1 0 4) xe_nil))))))))
theorem bk_X10_chance_45 : ck_ fX10 (some .int) cX10_chance 45 [.ifCond .ne 51, .iconst (-3), .ireturn] 51 = true := qck_r (nn_ _) (by decide +kernel)
theorem bs_X10_chance_45 {P : Zt → Option Zv → Prop} (K : Int → Zl → List Zv → Zt → Prop) : sx_ K P [.ifCond .ne 51, .iconst (-3), .ireturn] 51 = x_ifCond .ne 51 K (x_iconst (-3) (x_ireturn P)) := ((xe_ifCond .ne 51).trans (congrArg (x_ifCond .ne 51 K) ((xe_iconst (-3)).trans (congrArg (x_iconst (-3)) (xe_ireturn)))))
theorem bk_X10_chance_51 : ck_ fX10 (some .int) cX10_chance 51 [.aload 0, .tableswitch 0 10 5 #[]] 55 = true := qck_r (nn_ _) (by decide +kernel)
theorem bs_X10_chance_51 {P : Zt → Option Zv → Prop} (K : Int → Zl → List Zv → Zt → Prop) : sx_ K P [.aload 0, .tableswitch 0 10 5 #[]] 55 = x_aload 0 (x_g1 110 101 (K 55)) := ((xe_aload 0).trans (congrArg (x_aload 0) ((xe_g1 (kk := 110) rfl tl_10_5).trans (congrArg (x_g1 110 101) xe_nil))))
theorem bk_X10_chance_58 : ck_ fX10 (some .int) cX10_chance 58 [.aload 0, .tableswitch 0 10 5 #[], .iload 1, .iload 2] 64 = true := qck_r (nn_ _) (by decide +kernel)
theorem bs_X10_chance_58 {P : Zt → Option Zv → Prop} (K : Int → Zl → List Zv → Zt → Prop) : sx_ K P [.aload 0, .tableswitch 0 10 5 #[], .iload 1, .iload 2] 64 = x_aload 0 (x_g1 110 101 (x_iload 1 (x_iload 2 (K 64)))) := ((xe_aload 0).trans (congrArg (x_aload 0) ((xe_g1 (kk := 110) rfl tl_10_5).trans (congrArg (x_g1 110 101) ((xe_iload 1).trans (congrArg (x_iload 1) ((xe_iload 2).trans (congrArg (x_iload 2) xe_nil))))))))
set_option maxRecDepth 100000 in
theorem cl_X10_405 : cv_ RX10 405 yX1_waysWith zX1_waysWith 1 2 := ⟨gi_V (lwq_6 (dqc_m (dqc_m (dqc_m (dqc_m (dqa_m (dqa_m (dqa_m (List.mem_of_getElem? (i := 2) rfl)))))))) rfl : Cond.methodLink RX10 405 yX1_waysWith ∈ lw_g) (lwq_6 (dqc_m (dqc_m (dqc_m (dqc_m (dqa_m (dqa_m (dqa_m (List.mem_of_getElem? (i := 3) rfl)))))))) rfl : Cond.instanceMethod yX1_waysWith ∈ lw_g) (lwq_6 (dqc_m (dqc_m (dqc_m (dqc_m (dqa_m (dqa_m (dqa_m (List.mem_of_getElem? (i := 4) rfl)))))))) rfl : Cond.selects yX1_waysWith.cls yX1_waysWith yX1_waysWith ∈ lw_g) (lwq_1 (dqa_m (List.mem_of_getElem? (i := 0) rfl)) rfl : Cond.initialized yX1_waysWith.cls ∈ lw_g) (lwq_6 (dqc_m (dqc_m (dqc_m (dqc_m (dqa_m (dqa_m (dqa_m (List.mem_of_getElem? (i := 5) rfl)))))))) rfl : Cond.code yX1_waysWith cX1_waysWith 3 (some .int) ∈ lw_g), ⟨nmh_2.1, nmh_2.2, pdq_4⟩, ⟨_, _, rfl⟩⟩
theorem bk_X10_chance_67 : ck_ fX10 (some .int) cX10_chance 67 [.ireturn] 68 = true := qck_r (nn_ _) (by decide +kernel)
theorem bs_X10_chance_67 {P : Zt → Option Zv → Prop} (K : Int → Zl → List Zv → Zt → Prop) : sx_ K P [.ireturn] 68 = x_ireturn P := (xe_ireturn)
abbrev po_X10_chance (T : Zt) (c g : Int) : Zt → Option Zv → Prop := fun T' r => ∃ x : Int, r = some (vI x) ∧ fr_ [(101, [13, 6, 7]), (434, []), (435, []), (431, []), (432, [])] T T' ∧ (x = x)
set_option maxHeartbeats 4000000 in
theorem ct_X10_chance {T : Zt} {c g : Int} : Ct_ yX10_chance zX10_chance T [vR 110 0, vI c, vI g] (po_X10_chance T c g) := by
  refine ct_of pn_10 rfl rfl (Nat.le_of_ble_eq_true rfl) (fun hT hav => ?_)
  have hr_c : -2147483648 ≤ c ∧ c ≤ 2147483647 := hav (vI c) (List.mem_cons_of_mem _ List.mem_cons_self)
  have hr_g : -2147483648 ≤ g ∧ g ≤ 2147483647 := hav (vI g) (List.mem_cons_of_mem _ (List.mem_cons_of_mem _ List.mem_cons_self))
  have hz : zX10_chance.2.2.2.1 = some .boolean → ∀ (T' : Zt) (x : Int), po_X10_chance T c g T' (some (vI x)) → 0 ≤ x ∧ x ≤ 1 := fun h => by cases h
  have hb_clubs : 0 ≤ T 108 0 2 ∧ T 108 0 2 ≤ 12 := bd_f hT 108 2 tl_8_2 0
  have hgr : 0 ≤ T 101 0 1 ∧ T 101 0 1 ≤ 4 := bd_f hT 101 1 tl_1_1 0
  show J_ zX10_chance T (po_X10_chance T c g) 0 0 0 [some (vR 110 0), some (vI c), some (vI g)] [] T
  refine j_blx (F := fX10) tb_X10 (nn_ _) bk_X10_chance_0 bs_X10_chance_0 hz (fun K hK => ?_)
  refine hK 2 _ [vI c, vR 110 0] T ?_
  refine j_callV (y := yX10_isClub) (Yc := zX10_isClub) (rest := []) [vI c] (ct_X10_isClub (T := T)) cl_X10_137 (qd_c (by decide +kernel)) (nn_ _) rfl (rf_of rfl) (Nat.le_of_ble_eq_true rfl) (Nat.le_of_ble_eq_true rfl) (Nat.le_of_ble_eq_true rfl) rfl ?_
  rintro _ _ ⟨rfl, x1, rfl, hx1⟩
  show J_ zX10_chance T (po_X10_chance T c g) 0 0 5 _ [vI x1] T
  refine j_blx (F := fX10) tb_X10 (nn_ _) bk_X10_chance_5 bs_X10_chance_5 hz (fun K hK => ?_)
  refine And.intro (fun c2 => ?_) (fun c2 => ?_)
  · replace hx1 := hx1.resolve_left (fun z => absurd (c2.symm.trans z.1) (by decide))
    clear c2
    refine hK 31 _ [] T ?_
    refine j_blx (F := fX10) tb_X10 (nn_ _) bk_X10_chance_31 bs_X10_chance_31 hz (fun K hK => ?_)
    refine (show po_X10_chance T c g T (some (vI (-2))) from ?_)
    exact ⟨_, rfl, fr_0 _ _, by rfl⟩
  · replace hx1 := hx1.resolve_right (fun z => c2 z.1)
    clear c2
    intro b3 b3b
    refine And.intro (fun c4 => ?_) (fun c4 => ?_)
    · refine hK 31 _ [] T ?_
      refine j_blx (F := fX10) tb_X10 (nn_ _) bk_X10_chance_31 bs_X10_chance_31 hz (fun K hK => ?_)
      refine (show po_X10_chance T c g T (some (vI (-2))) from ?_)
      exact ⟨_, rfl, fr_0 _ _, by rfl⟩
    · refine ix_i (by omega) ?_
      intro b5 b5b
      refine And.intro (fun c6 => ?_) (fun c6 => ?_)
      · refine hK 34 _ [] T ?_
        refine j_blx (F := fX10) tb_X10 (nn_ _) bk_X10_chance_34 bs_X10_chance_34 hz (fun K hK => ?_)
        intro b7 b7b
        refine hK 42 _ [vI (T 101 0 1), vI g] T ?_
        refine j_callS (y := yX10_isBelow) (Yc := zX10_isBelow) (rest := []) [vI g, vI (T 101 0 1)] (ct_X10_isBelow (T := T)) cl_X10_115 (qd_c (by decide +kernel)) (nn_ _) rfl (rf_of rfl) (Nat.le_of_ble_eq_true rfl) (Nat.le_of_ble_eq_true rfl) (Nat.le_of_ble_eq_true rfl) rfl ?_
        rintro _ _ ⟨rfl, x8, rfl, hx8⟩
        show J_ zX10_chance T (po_X10_chance T c g) 0 0 45 _ [vI x8] T
        refine j_blx (F := fX10) tb_X10 (nn_ _) bk_X10_chance_45 bs_X10_chance_45 hz (fun K hK => ?_)
        refine And.intro (fun c9 => ?_) (fun c9 => ?_)
        · replace hx8 := hx8.resolve_right (fun z => c9 z.1)
          clear c9
          refine hK 51 _ [] T ?_
          refine j_blx (F := fX10) tb_X10 (nn_ _) bk_X10_chance_51 bs_X10_chance_51 hz (fun K hK => ?_)
          refine hK 55 _ [vR 101 0] T ?_
          refine j_callV (y := yX1_refresh) (Yc := zX1_refresh) (rest := []) [] (ct_X1_refresh (T := T)) cl_X10_399 (qd_c (by decide +kernel)) (nn_ _) rfl (rf_of rfl) (Nat.le_of_ble_eq_true rfl) (Nat.le_of_ble_eq_true rfl) (Nat.le_of_ble_eq_true rfl) rfl ?_
          rintro U10 _ ⟨rfl, fU10, _⟩
          show J_ zX10_chance T (po_X10_chance T c g) 0 0 58 _ [] U10
          refine j_blx (F := fX10) tb_X10 (nn_ _) bk_X10_chance_58 bs_X10_chance_58 hz (fun K hK => ?_)
          refine hK 64 _ [vI g, vI c, vR 101 0] U10 ?_
          refine j_callV (y := yX1_waysWith) (Yc := zX1_waysWith) (rest := []) [vI c, vI g] (ct_X1_waysWith (T := U10) (by omega) (by omega)) cl_X10_405 (qd_c (by decide +kernel)) (nn_ _) rfl (rf_of rfl) (Nat.le_of_ble_eq_true rfl) (Nat.le_of_ble_eq_true rfl) (Nat.le_of_ble_eq_true rfl) rfl ?_
          rintro _ _ ⟨rfl, x11, rfl, hx11⟩
          show J_ zX10_chance T (po_X10_chance T c g) 0 0 67 _ [vI x11] U10
          refine j_blx (F := fX10) tb_X10 (nn_ _) bk_X10_chance_67 bs_X10_chance_67 hz (fun K hK => ?_)
          refine (show po_X10_chance T c g U10 (some (vI x11)) from ?_)
          exact ⟨_, rfl, fr_t (fr_0 _ _) (fr_s fU10 rfl), by rfl⟩
        · replace hx8 := hx8.resolve_left (fun z => absurd (c9.symm.trans z.1) (by decide))
          clear c9
          refine (show po_X10_chance T c g T (some (vI (-3))) from ?_)
          exact ⟨_, rfl, fr_0 _ _, by rfl⟩
      · refine (show po_X10_chance T c g T (some (vI (-2))) from ?_)
        exact ⟨_, rfl, fr_0 _ _, by rfl⟩
abbrev cX10_ball : ByteArray := prog_1_method_40_code
def yX10_ball : MethodName := ⟨RX10, "ball", "(IZ)I"⟩
def zX10_ball : Zm := (RX10, cX10_ball, 4, (some .int), { frames := 15, cells := 0, slots := 0, locals := 400 })
theorem bk_X10_ball_0 : ck_ fX10 (some .int) cX10_ball 0 [.aload 0, .tableswitch 0 10 5 #[], .tableswitch 0 1 1 #[], .ifCond .eq 27, .aload 0, .tableswitch 0 10 5 #[], .tableswitch 0 1 4 #[], .aload 0, .tableswitch 0 10 5 #[], .tableswitch 0 1 3 #[], .if_icmp .lt 30, .iconst (-4), .ireturn] 30 = true := qck_r (nn_ _) (by decide +kernel)
theorem bs_X10_ball_0 {P : Zt → Option Zv → Prop} (K : Int → Zl → List Zv → Zt → Prop) : sx_ K P [.aload 0, .tableswitch 0 10 5 #[], .tableswitch 0 1 1 #[], .ifCond .eq 27, .aload 0, .tableswitch 0 10 5 #[], .tableswitch 0 1 4 #[], .aload 0, .tableswitch 0 10 5 #[], .tableswitch 0 1 3 #[], .if_icmp .lt 30, .iconst (-4), .ireturn] 30 = x_aload 0 (x_g1 110 101 (x_g0 101 1 0 4 (x_ifCond .eq 27 K (x_aload 0 (x_g1 110 101 (x_g0 101 4 (-2147483648) 2147483647 (x_aload 0 (x_g1 110 101 (x_g0 101 3 (-2147483648) 2147483647 (x_if_icmp .lt 30 K (x_iconst (-4) (x_ireturn P)))))))))))) := ((xe_aload 0).trans (congrArg (x_aload 0) ((xe_g1 (kk := 110) rfl tl_10_5).trans (congrArg (x_g1 110 101) ((xe_g0 (kk := 101) rfl tl_1_1).trans (congrArg (x_g0 101 1 0 4) ((xe_ifCond .eq 27).trans (congrArg (x_ifCond .eq 27 K) ((xe_aload 0).trans (congrArg (x_aload 0) ((xe_g1 (kk := 110) rfl tl_10_5).trans (congrArg (x_g1 110 101) ((xe_g0 (kk := 101) rfl tl_1_4).trans (congrArg (x_g0 101 4 (-2147483648) 2147483647) ((xe_aload 0).trans (congrArg (x_aload 0) ((xe_g1 (kk := 110) rfl tl_10_5).trans (congrArg (x_g1 110 101) ((xe_g0 (kk := 101) rfl tl_1_3).trans (congrArg (x_g0 101 3 (-2147483648) 2147483647) ((xe_if_icmp .lt 30).trans (congrArg (x_if_icmp .lt 30 K) ((xe_iconst (-4)).trans (congrArg (x_iconst (-4)) (xe_ireturn)))))))))))))))))))))))))
theorem bk_X10_ball_27 : ck_ fX10 (some .int) cX10_ball 27 [.iconst (-4), .ireturn] 30 = true := qck_r (nn_ _) (by decide +kernel)
theorem bs_X10_ball_27 {P : Zt → Option Zv → Prop} (K : Int → Zl → List Zv → Zt → Prop) : sx_ K P [.iconst (-4), .ireturn] 30 = x_iconst (-4) (x_ireturn P) := ((xe_iconst (-4)).trans (congrArg (x_iconst (-4)) (xe_ireturn)))
theorem bk_X10_ball_30 : ck_ fX10 (some .int) cX10_ball 30 [.aload 0, .tableswitch 0 10 5 #[]] 34 = true := qck_r (nn_ _) (by decide +kernel)
theorem bs_X10_ball_30 {P : Zt → Option Zv → Prop} (K : Int → Zl → List Zv → Zt → Prop) : sx_ K P [.aload 0, .tableswitch 0 10 5 #[]] 34 = x_aload 0 (x_g1 110 101 (K 34)) := ((xe_aload 0).trans (congrArg (x_aload 0) ((xe_g1 (kk := 110) rfl tl_10_5).trans (congrArg (x_g1 110 101) xe_nil))))
theorem bk_X10_ball_37 : ck_ fX10 (some .int) cX10_ball 37 [.aload 0, .tableswitch 0 10 5 #[], .tableswitch 0 1 6 #[], .ifCond .ne 50, .iconst (-4), .ireturn] 50 = true := qck_r (nn_ _) (by decide +kernel)
theorem bs_X10_ball_37 {P : Zt → Option Zv → Prop} (K : Int → Zl → List Zv → Zt → Prop) : sx_ K P [.aload 0, .tableswitch 0 10 5 #[], .tableswitch 0 1 6 #[], .ifCond .ne 50, .iconst (-4), .ireturn] 50 = x_aload 0 (x_g1 110 101 (x_g0 101 6 (-2147483648) 2147483647 (x_ifCond .ne 50 K (x_iconst (-4) (x_ireturn P))))) := ((xe_aload 0).trans (congrArg (x_aload 0) ((xe_g1 (kk := 110) rfl tl_10_5).trans (congrArg (x_g1 110 101) ((xe_g0 (kk := 101) rfl tl_1_6).trans (congrArg (x_g0 101 6 (-2147483648) 2147483647) ((xe_ifCond .ne 50).trans (congrArg (x_ifCond .ne 50 K) ((xe_iconst (-4)).trans (congrArg (x_iconst (-4)) (xe_ireturn)))))))))))
theorem bk_X10_ball_50 : ck_ fX10 (some .int) cX10_ball 50 [.iload 2, .ifCond .eq 62, .aload 0, .tableswitch 0 10 5 #[], .iload 1, .tableswitch 1 1 5 #[], .aload 0, .tableswitch 0 10 5 #[]] 66 = true := qck_r (nn_ _) (by decide +kernel)
theorem bs_X10_ball_50 {P : Zt → Option Zv → Prop} (K : Int → Zl → List Zv → Zt → Prop) : sx_ K P [.iload 2, .ifCond .eq 62, .aload 0, .tableswitch 0 10 5 #[], .iload 1, .tableswitch 1 1 5 #[], .aload 0, .tableswitch 0 10 5 #[]] 66 = x_iload 2 (x_ifCond .eq 62 K (x_aload 0 (x_g1 110 101 (x_iload 1 (x_p 101 5 (-2147483648) 2147483647 (x_aload 0 (x_g1 110 101 (K 66)))))))) := ((xe_iload 2).trans (congrArg (x_iload 2) ((xe_ifCond .eq 62).trans (congrArg (x_ifCond .eq 62 K) ((xe_aload 0).trans (congrArg (x_aload 0) ((xe_g1 (kk := 110) rfl tl_10_5).trans (congrArg (x_g1 110 101) ((xe_iload 1).trans (congrArg (x_iload 1) ((xe_p (kk := 101) rfl tl_1_5).trans (congrArg (x_p 101 5 (-2147483648) 2147483647) ((xe_aload 0).trans (congrArg (x_aload 0) ((xe_g1 (kk := 110) rfl tl_10_5).trans (congrArg (x_g1 110 101) xe_nil))))))))))))))))
theorem bk_X10_ball_62 : ck_ fX10 (some .int) cX10_ball 62 [.aload 0, .tableswitch 0 10 5 #[]] 66 = true := qck_r (nn_ _) (by decide +kernel)
theorem bs_X10_ball_62 {P : Zt → Option Zv → Prop} (K : Int → Zl → List Zv → Zt → Prop) : sx_ K P [.aload 0, .tableswitch 0 10 5 #[]] 66 = x_aload 0 (x_g1 110 101 (K 66)) := ((xe_aload 0).trans (congrArg (x_aload 0) ((xe_g1 (kk := 110) rfl tl_10_5).trans (congrArg (x_g1 110 101) xe_nil))))
set_option maxRecDepth 100000 in
theorem cl_X10_414 : cv_ RX10 414 yX1_takeClub zX1_takeClub 1 0 := ⟨gi_V (lwq_6 (dqc_m (dqc_m (dqc_m (dqc_m (dqc_m (List.mem_of_getElem? (i := 2) rfl)))))) rfl : Cond.methodLink RX10 414 yX1_takeClub ∈ lw_g) (lwq_6 (dqc_m (dqc_m (dqc_m (dqc_m (dqc_m (List.mem_of_getElem? (i := 3) rfl)))))) rfl : Cond.instanceMethod yX1_takeClub ∈ lw_g) (lwq_6 (dqc_m (dqc_m (dqc_m (dqc_m (dqc_m (List.mem_of_getElem? (i := 4) rfl)))))) rfl : Cond.selects yX1_takeClub.cls yX1_takeClub yX1_takeClub ∈ lw_g) (lwq_1 (dqa_m (List.mem_of_getElem? (i := 0) rfl)) rfl : Cond.initialized yX1_takeClub.cls ∈ lw_g) (lwq_6 (dqc_m (dqc_m (dqc_m (dqc_m (dqc_m (List.mem_of_getElem? (i := 5) rfl)))))) rfl : Cond.code yX1_takeClub cX1_takeClub 4 (some .int) ∈ lw_g), ⟨nmh_2.1, nmh_2.2, pdq_17⟩, ⟨_, _, rfl⟩⟩
theorem bk_X10_ball_69 : ck_ fX10 (some .int) cX10_ball 69 [.istore 3, .aload 0, .tableswitch 0 10 5 #[], .iload 3] 75 = true := qck_r (nn_ _) (by decide +kernel)
theorem bs_X10_ball_69 {P : Zt → Option Zv → Prop} (K : Int → Zl → List Zv → Zt → Prop) : sx_ K P [.istore 3, .aload 0, .tableswitch 0 10 5 #[], .iload 3] 75 = x_istore 3 (x_aload 0 (x_g1 110 101 (x_iload 3 (K 75)))) := ((xe_istore 3).trans (congrArg (x_istore 3) ((xe_aload 0).trans (congrArg (x_aload 0) ((xe_g1 (kk := 110) rfl tl_10_5).trans (congrArg (x_g1 110 101) ((xe_iload 3).trans (congrArg (x_iload 3) xe_nil))))))))
set_option maxRecDepth 100000 in
theorem cl_X10_417 : cv_ RX10 417 yX1_place zX1_place 1 1 := ⟨gi_V (lwq_6 (dqc_m (dqc_m (dqc_m (dqc_m (dqc_m (dqa_m (List.mem_of_getElem? (i := 6) rfl))))))) rfl : Cond.methodLink RX10 417 yX1_place ∈ lw_g) (lwq_6 (dqc_m (dqc_m (dqc_m (dqc_m (dqc_m (dqa_m (List.mem_of_getElem? (i := 7) rfl))))))) rfl : Cond.instanceMethod yX1_place ∈ lw_g) (lwq_6 (dqc_m (dqc_m (dqc_m (dqc_m (dqc_m (dqa_m (dqa_m (List.mem_of_getElem? (i := 0) rfl)))))))) rfl : Cond.selects yX1_place.cls yX1_place yX1_place ∈ lw_g) (lwq_1 (dqa_m (List.mem_of_getElem? (i := 0) rfl)) rfl : Cond.initialized yX1_place.cls ∈ lw_g) (lwq_6 (dqc_m (dqc_m (dqc_m (dqc_m (dqc_m (dqa_m (dqa_m (List.mem_of_getElem? (i := 1) rfl)))))))) rfl : Cond.code yX1_place cX1_place 5 none ∈ lw_g), ⟨nmh_2.1, nmh_2.2, pdq_9⟩, ⟨_, _, rfl⟩⟩
theorem bk_X10_ball_78 : ck_ fX10 (some .int) cX10_ball 78 [.iconst 8, .iload 3, .imul, .aload 0, .tableswitch 0 10 5 #[], .tableswitch 0 1 9 #[], .iload 3, .iaload, .iadd, .ireturn] 93 = true := qck_r (nn_ _) (by decide +kernel)
theorem bs_X10_ball_78 {P : Zt → Option Zv → Prop} (K : Int → Zl → List Zv → Zt → Prop) : sx_ K P [.iconst 8, .iload 3, .imul, .aload 0, .tableswitch 0 10 5 #[], .tableswitch 0 1 9 #[], .iload 3, .iaload, .iadd, .ireturn] 93 = x_iconst 8 (x_iload 3 (x_imul (x_aload 0 (x_g1 110 101 (x_g1 101 429 (x_iload 3 (x_iaload (x_iadd (x_ireturn P))))))))) := ((xe_iconst 8).trans (congrArg (x_iconst 8) ((xe_iload 3).trans (congrArg (x_iload 3) ((xe_imul).trans (congrArg (x_imul) ((xe_aload 0).trans (congrArg (x_aload 0) ((xe_g1 (kk := 110) rfl tl_10_5).trans (congrArg (x_g1 110 101) ((xe_g1 (kk := 101) rfl tl_1_9).trans (congrArg (x_g1 101 429) ((xe_iload 3).trans (congrArg (x_iload 3) ((xe_iaload).trans (congrArg (x_iaload) ((xe_iadd).trans (congrArg (x_iadd) (xe_ireturn)))))))))))))))))))
abbrev po_X10_ball (T : Zt) (s b : Int) : Zt → Option Zv → Prop := fun T' r => ∃ x : Int, r = some (vI x) ∧ fr_ [(101, [13, 6, 7, 5, 4]), (434, []), (435, []), (431, []), (432, []), (429, [])] T T' ∧ (x = x)
set_option maxHeartbeats 4000000 in
theorem ct_X10_ball {T : Zt} {s b : Int} : Ct_ yX10_ball zX10_ball T [vR 110 0, vI s, vI b] (po_X10_ball T s b) := by
  refine ct_of pn_10 rfl rfl (Nat.le_of_ble_eq_true rfl) (fun hT hav => ?_)
  have hr_s : -2147483648 ≤ s ∧ s ≤ 2147483647 := hav (vI s) (List.mem_cons_of_mem _ List.mem_cons_self)
  have hr_b : -2147483648 ≤ b ∧ b ≤ 2147483647 := hav (vI b) (List.mem_cons_of_mem _ (List.mem_cons_of_mem _ List.mem_cons_self))
  have hz : zX10_ball.2.2.2.1 = some .boolean → ∀ (T' : Zt) (x : Int), po_X10_ball T s b T' (some (vI x)) → 0 ≤ x ∧ x ≤ 1 := fun h => by cases h
  show J_ zX10_ball T (po_X10_ball T s b) 0 0 0 [some (vR 110 0), some (vI s), some (vI b), none] [] T
  refine j_blx (F := fX10) tb_X10 (nn_ _) bk_X10_ball_0 bs_X10_ball_0 hz (fun K hK => ?_)
  intro b1 b1b
  refine And.intro (fun c2 => ?_) (fun c2 => ?_)
  · refine hK 27 _ [] T ?_
    refine j_blx (F := fX10) tb_X10 (nn_ _) bk_X10_ball_27 bs_X10_ball_27 hz (fun K hK => ?_)
    refine (show po_X10_ball T s b T (some (vI (-4))) from ?_)
    exact ⟨_, rfl, fr_0 _ _, by rfl⟩
  · intro b3 b3b
    intro b4 b4b
    refine And.intro (fun c5 => ?_) (fun c5 => ?_)
    · refine hK 30 _ [] T ?_
      refine j_blx (F := fX10) tb_X10 (nn_ _) bk_X10_ball_30 bs_X10_ball_30 hz (fun K hK => ?_)
      refine hK 34 _ [vR 101 0] T ?_
      refine j_callV (y := yX1_refresh) (Yc := zX1_refresh) (rest := []) [] (ct_X1_refresh (T := T)) cl_X10_399 (qd_c (by decide +kernel)) (nn_ _) rfl (rf_of rfl) (Nat.le_of_ble_eq_true rfl) (Nat.le_of_ble_eq_true rfl) (Nat.le_of_ble_eq_true rfl) rfl ?_
      rintro U6 _ ⟨rfl, fU6, _⟩
      show J_ zX10_ball T (po_X10_ball T s b) 0 0 37 _ [] U6
      refine j_blx (F := fX10) tb_X10 (nn_ _) bk_X10_ball_37 bs_X10_ball_37 hz (fun K hK => ?_)
      intro b7 b7b
      refine And.intro (fun c8 => ?_) (fun c8 => ?_)
      · refine hK 50 _ [] U6 ?_
        refine j_blx (F := fX10) tb_X10 (nn_ _) bk_X10_ball_50 bs_X10_ball_50 hz (fun K hK => ?_)
        refine And.intro (fun c9 => ?_) (fun c9 => ?_)
        · refine hK 62 _ [] U6 ?_
          refine j_blx (F := fX10) tb_X10 (nn_ _) bk_X10_ball_62 bs_X10_ball_62 hz (fun K hK => ?_)
          refine hK 66 _ [vR 101 0] U6 ?_
          refine j_callV (y := yX1_takeClub) (Yc := zX1_takeClub) (rest := []) [] (ct_X1_takeClub (T := U6)) cl_X10_414 (qd_c (by decide +kernel)) (nn_ _) rfl (rf_of rfl) (Nat.le_of_ble_eq_true rfl) (Nat.le_of_ble_eq_true rfl) (Nat.le_of_ble_eq_true rfl) rfl ?_
          rintro U10 _ ⟨x11, rfl, fU10, qU10⟩
          show J_ zX10_ball T (po_X10_ball T s b) 0 0 69 _ [vI x11] U10
          refine j_blx (F := fX10) tb_X10 (nn_ _) bk_X10_ball_69 bs_X10_ball_69 hz (fun K hK => ?_)
          refine hK 75 [some (vR 110 0), some (vI s), some (vI b), some (vI x11)] [vI x11, vR 101 0] U10 ?_
          refine j_callV (y := yX1_place) (Yc := zX1_place) (rest := []) [vI x11] (ct_X1_place (T := U10) (by omega)) cl_X10_417 (qd_c (by decide +kernel)) (nn_ _) rfl (rf_of rfl) (Nat.le_of_ble_eq_true rfl) (Nat.le_of_ble_eq_true rfl) (Nat.le_of_ble_eq_true rfl) rfl ?_
          rintro U12 _ ⟨rfl, fU12, qU12⟩
          show J_ zX10_ball T (po_X10_ball T s b) 0 0 78 _ [] U12
          refine j_blx (F := fX10) tb_X10 (nn_ _) bk_X10_ball_78 bs_X10_ball_78 hz (fun K hK => ?_)
          refine rg_i (by omega) ?_
          refine ix_i (by omega) ?_
          intro b13 b13b
          refine rg_i (by omega) ?_
          refine (show po_X10_ball T s b U12 (some (vI ((8 * x11) + (U12 429 0 x11)))) from ?_)
          exact ⟨_, rfl, fr_t (fr_t (fr_t (fr_0 _ _) (fr_s fU6 rfl)) (fr_s fU10 rfl)) (fr_s fU12 rfl), by rfl⟩
        · refine bd_i (by omega) ?_
          refine x_nm (fun U14 hU14 => ?_)
          have e15 := up_f hU14
          refine hK 66 [some (vR 110 0), some (vI s), some (vI b), none] [vR 101 0] U14 ?_
          refine j_callV (y := yX1_takeClub) (Yc := zX1_takeClub) (rest := []) [] (ct_X1_takeClub (T := U14)) cl_X10_414 (qd_c (by decide +kernel)) (nn_ _) rfl (rf_of rfl) (Nat.le_of_ble_eq_true rfl) (Nat.le_of_ble_eq_true rfl) (Nat.le_of_ble_eq_true rfl) rfl ?_
          rintro U16 _ ⟨x17, rfl, fU16, qU16⟩
          show J_ zX10_ball T (po_X10_ball T s b) 0 0 69 _ [vI x17] U16
          refine j_blx (F := fX10) tb_X10 (nn_ _) bk_X10_ball_69 bs_X10_ball_69 hz (fun K hK => ?_)
          refine hK 75 [some (vR 110 0), some (vI s), some (vI b), some (vI x17)] [vI x17, vR 101 0] U16 ?_
          refine j_callV (y := yX1_place) (Yc := zX1_place) (rest := []) [vI x17] (ct_X1_place (T := U16) (by omega)) cl_X10_417 (qd_c (by decide +kernel)) (nn_ _) rfl (rf_of rfl) (Nat.le_of_ble_eq_true rfl) (Nat.le_of_ble_eq_true rfl) (Nat.le_of_ble_eq_true rfl) rfl ?_
          rintro U18 _ ⟨rfl, fU18, qU18⟩
          show J_ zX10_ball T (po_X10_ball T s b) 0 0 78 _ [] U18
          refine j_blx (F := fX10) tb_X10 (nn_ _) bk_X10_ball_78 bs_X10_ball_78 hz (fun K hK => ?_)
          refine rg_i (by omega) ?_
          refine ix_i (by omega) ?_
          intro b19 b19b
          refine rg_i (by omega) ?_
          refine (show po_X10_ball T s b U18 (some (vI ((8 * x17) + (U18 429 0 x17)))) from ?_)
          exact ⟨_, rfl, fr_t (fr_t (fr_u (fr_t (fr_0 _ _) (fr_s fU6 rfl)) hU14 rfl) (fr_s fU16 rfl)) (fr_s fU18 rfl), by rfl⟩
      · refine (show po_X10_ball T s b U6 (some (vI (-4))) from ?_)
        exact ⟨_, rfl, fr_t (fr_0 _ _) (fr_s fU6 rfl), by rfl⟩
    · refine (show po_X10_ball T s b T (some (vI (-4))) from ?_)
      exact ⟨_, rfl, fr_0 _ _, by rfl⟩
-- static rows and texts, which no method writes
section JS
variable {Y Yc : Zm} {T0 T : Zt} {P : Zt → Option Zv → Prop} {bc bs : Nat} {pc : Int} {ls : Zl} {st rest : List Zv} {y : MethodName} {Qp : Zt → Option Zv → Prop}
theorem sa_b : ∀ i, i < 3 → ∀ x, x < 16 → 0 ≤ (sa_ i).getD x 0 ∧ (sa_ i).getD x 0 ≤ 999 := by decide
theorem j_gs81 {idx i : Nat} (hp : 0 ≤ pc) (hi : i < 3) (hlk : Cond.fieldLink Y.1 idx "SportsHouse$RuleText" (sn_ i) "[I" ∈ lw_g) (hd : decode Y.2.1 pc.toNat = .ok (.getstatic idx, 3)) (kk : J_ Y T0 P bc bs (pc + 3) ls (vR 81 (i : Int) :: st) T) : J_ Y T0 P bc bs pc ls st T := by
  intro l p e s m args below meth c D cA ad0 A X ad H locs cells slots lsC hc hs hR hS hB hT hL hl hln
  have hz := (X.2.2.2.2.2.2.2.2.2.2.1.1 i hi).1
  have k2 := kk l p e s m args below meth c D cA ad0 A X ad H locs cells slots lsC hc hs hR hS hB hT (ok_push (Or.inl (by omega)) hL) hl hln
  rw [show (pc + 3).toNat = pc.toNat + 3 by omega] at k2
  have ea : ad 81 (i : Int) = ad0 81 (i : Int) := hB.2 81 _ (Or.inl (by omega))
  refine va_gets X.1 X.2.1 hz hS X.2.2.2.2.2.2.1 (X.2.2.2.2.2.1 _ hlk) (fun _ h => h) hd ?_
  rw [← ea]
  exact k2
theorem j_ld81 {i : Nat} {x : Int} (hp : 0 ≤ pc) (hi : i < 3) (h1 : 0 ≤ x) (h2 : x < 16) (hd : decode Y.2.1 pc.toNat = .ok (.iaload, 1)) (kk : J_ Y T0 P bc bs (pc + 1) ls (vI ((sa_ i).getD x.toNat 0) :: st) T) : J_ Y T0 P bc bs pc ls (vI x :: vR 81 (i : Int) :: st) T := by
  intro l p e s m args below meth c D cA ad0 A X ad H locs cells slots lsC hc hs hR hS hB hT hL hl hln
  have hz := (X.2.2.2.2.2.2.2.2.2.2.1.1 i hi).2
  have hb := sa_b i hi x.toNat (by omega)
  have k2 := kk l p e s m args below meth c D cA ad0 A X ad H locs cells slots lsC hc hs hR hS hB hT (ok_push (show ok_v T (vI _) from ⟨by omega, by omega⟩) (ok_tail (ok_tail hL))) hl hln
  rw [show (pc + 1).toNat = pc.toNat + 1 by omega] at k2
  have ea : ad 81 (i : Int) = ad0 81 (i : Int) := hB.2 81 _ (Or.inl (by omega))
  have hcl := i3_cl h1 (show x ≤ 2147483647 by omega)
  rw [← ea] at hz
  refine va_ti X.1 X.2.1 hz hS (i3_in h1 (show x < 16 by omega) (by omega)) (v := .int (Int32.ofInt ((sa_ i).getD x.toNat 0))) (by rw [show (Int32.ofInt x).toNatClampNeg = x.toNat by omega]) hd ?_
  exact k2
theorem j_ldcS {idx i : Nat} (hp : 0 ≤ pc) (hY : Y.1 = "SportsHouse$RuleText") (hi : i < 3) (hx : (stx_ i).1 = idx) (hd : decode Y.2.1 pc.toNat = .ok (.ldc idx, 2)) (kk : J_ Y T0 P bc bs (pc + 2) ls (vR 82 (i : Int) :: st) T) : J_ Y T0 P bc bs pc ls st T := by
  intro l p e s m args below meth c D cA ad0 A X ad H locs cells slots lsC hc hs hR hS hB hT hL hl hln
  have hz := X.2.2.2.2.2.2.2.2.2.2.1.2.2.1 i hi
  have k2 := kk l p e s m args below meth c D cA ad0 A X ad H locs cells slots lsC hc hs hR hS hB hT (ok_push (Or.inl (by omega)) hL) hl hln
  rw [show (pc + 2).toNat = pc.toNat + 2 by omega] at k2
  have ea : ad 82 (i : Int) = ad0 82 (i : Int) := hB.2 82 _ (Or.inl (by omega))
  rw [← ea, hx] at hz
  have ho := X.2.2.2.2.2.2.1
  rw [hY] at ho
  exact va_ldcS X.1 X.2.1 ho hz hd k2
theorem j_gsC {idx : Nat} (hp : 0 ≤ pc) (hlk : Cond.fieldLink Y.1 idx "java/lang/String" "COMPACT_STRINGS" "Z" ∈ lw_g) (hd : decode Y.2.1 pc.toNat = .ok (.getstatic idx, 3)) (kk : J_ Y T0 P bc bs (pc + 3) ls (vI 1 :: st) T) : J_ Y T0 P bc bs pc ls st T := by
  intro l p e s m args below meth c D cA ad0 A X ad H locs cells slots lsC hc hs hR hS hB hT hL hl hln
  have k2 := kk l p e s m args below meth c D cA ad0 A X ad H locs cells slots lsC hc hs hR hS hB hT (ok_push (show ok_v T (vI 1) from ⟨by omega, by omega⟩) hL) hl hln
  rw [show (pc + 3).toNat = pc.toNat + 3 by omega] at k2
  exact va_gets X.1 X.2.1 X.2.2.2.2.2.2.2.2.2.2.1.2.2.2.1 hS X.2.2.2.2.2.2.1 (X.2.2.2.2.2.1 _ hlk) (fun _ h => h) hd k2
theorem j_gsF {idx : Nat} (hp : 0 ≤ pc) (hlk : Cond.fieldLink Y.1 idx "jdk/internal/util/Preconditions" "SIOOBE_FORMATTER" "Ljava/util/function/BiFunction;" ∈ lw_g) (hd : decode Y.2.1 pc.toNat = .ok (.getstatic idx, 3)) (k0 : J_ Y T0 P bc bs (pc + 3) ls (vN :: st) T) (k1 : J_ Y T0 P bc bs (pc + 3) ls (vR 84 0 :: st) T) : J_ Y T0 P bc bs pc ls st T := by
  intro l p e s m args below meth c D cA ad0 A X ad H locs cells slots lsC hc hs hR hS hB hT hL hl hln
  rcases X.2.2.2.2.2.2.2.2.2.2.1.2.2.2.2 with hz | hz
  · have k2 := k0 l p e s m args below meth c D cA ad0 A X ad H locs cells slots lsC hc hs hR hS hB hT (ok_push trivial hL) hl hln
    rw [show (pc + 3).toNat = pc.toNat + 3 by omega] at k2
    exact va_gets X.1 X.2.1 hz hS X.2.2.2.2.2.2.1 (X.2.2.2.2.2.1 _ hlk) (fun _ h => h) hd k2
  · have k2 := k1 l p e s m args below meth c D cA ad0 A X ad H locs cells slots lsC hc hs hR hS hB hT (ok_push (Or.inl (by omega)) hL) hl hln
    rw [show (pc + 3).toNat = pc.toNat + 3 by omega] at k2
    have ea : ad 84 0 = ad0 84 0 := hB.2 84 _ (Or.inl (by omega))
    refine va_gets X.1 X.2.1 hz hS X.2.2.2.2.2.2.1 (X.2.2.2.2.2.1 _ hlk) (fun _ h => h) hd ?_
    rw [← ea]
    exact k2
theorem j_gfC {idx i : Nat} (hp : 0 ≤ pc) (hi : i < 3) (hlk : Cond.fieldLink Y.1 idx "java/lang/String" "coder" "B" ∈ lw_g) (hd : decode Y.2.1 pc.toNat = .ok (.getfield idx, 3)) (kk : J_ Y T0 P bc bs (pc + 3) ls (vI 0 :: st) T) : J_ Y T0 P bc bs pc ls (vR 82 (i : Int) :: st) T := by
  intro l p e s m args below meth c D cA ad0 A X ad H locs cells slots lsC hc hs hR hS hB hT hL hl hln
  have hz := (X.2.2.2.2.2.2.2.2.2.2.1.2.1.1 i hi).2.1
  have k2 := kk l p e s m args below meth c D cA ad0 A X ad H locs cells slots lsC hc hs hR hS hB hT (ok_push (show ok_v T (vI 0) from ⟨by omega, by omega⟩) (ok_tail hL)) hl hln
  rw [show (pc + 3).toNat = pc.toNat + 3 by omega] at k2
  have ea : ad 82 (i : Int) = ad0 82 (i : Int) := hB.2 82 _ (Or.inl (by omega))
  dsimp only at hz
  rw [show ad0 82 (i : Int) = ad 82 (i : Int) from ea.symm] at hz
  exact vk_getf X.1 X.2.1 hz hS X.2.2.2.2.2.2.1 (X.2.2.2.2.2.1 _ hlk) (fun _ h => h) hd k2
theorem j_gfV {idx i : Nat} (hp : 0 ≤ pc) (hi : i < 3) (hlk : Cond.fieldLink Y.1 idx "java/lang/String" "value" "[B" ∈ lw_g) (hd : decode Y.2.1 pc.toNat = .ok (.getfield idx, 3)) (kk : J_ Y T0 P bc bs (pc + 3) ls (vR 83 (i : Int) :: st) T) : J_ Y T0 P bc bs pc ls (vR 82 (i : Int) :: st) T := by
  intro l p e s m args below meth c D cA ad0 A X ad H locs cells slots lsC hc hs hR hS hB hT hL hl hln
  have hz := (X.2.2.2.2.2.2.2.2.2.2.1.2.1.1 i hi).2.2.1
  have k2 := kk l p e s m args below meth c D cA ad0 A X ad H locs cells slots lsC hc hs hR hS hB hT (ok_push (Or.inl (by omega)) (ok_tail hL)) hl hln
  rw [show (pc + 3).toNat = pc.toNat + 3 by omega] at k2
  have ea : ad 82 (i : Int) = ad0 82 (i : Int) := hB.2 82 _ (Or.inl (by omega))
  have eb : ad 83 (i : Int) = ad0 83 (i : Int) := hB.2 83 _ (Or.inl (by omega))
  dsimp only at hz
  rw [show ad0 82 (i : Int) = ad 82 (i : Int) from ea.symm, show ad0 83 (i : Int) = ad 83 (i : Int) from eb.symm] at hz
  exact vk_getf X.1 X.2.1 hz hS X.2.2.2.2.2.2.1 (X.2.2.2.2.2.1 _ hlk) (fun _ h => h) hd k2
theorem j_len83 {i : Nat} {n : Int} (hp : 0 ≤ pc) (hi : i < 3) (hn : ((sle_.getD i 0 : Nat) : Int) = n) (hb : n ≤ 1000) (hd : decode Y.2.1 pc.toNat = .ok (.arraylength, 1)) (kk : J_ Y T0 P bc bs (pc + 1) ls (vI n :: st) T) : J_ Y T0 P bc bs pc ls (vR 83 (i : Int) :: st) T := by
  intro l p e s m args below meth c D cA ad0 A X ad H locs cells slots lsC hc hs hR hS hB hT hL hl hln
  have hz := (X.2.2.2.2.2.2.2.2.2.2.1.2.1.1 i hi).2.2.2
  have k2 := kk l p e s m args below meth c D cA ad0 A X ad H locs cells slots lsC hc hs hR hS hB hT (ok_push (show ok_v T (vI n) from ⟨by omega, by omega⟩) (ok_tail hL)) hl hln
  rw [show (pc + 1).toNat = pc.toNat + 1 by omega] at k2
  have eb : ad 83 (i : Int) = ad0 83 (i : Int) := hB.2 83 _ (Or.inl (by omega))
  dsimp only at hz
  rw [show ad0 83 (i : Int) = ad 83 (i : Int) from eb.symm] at hz
  refine va_tlen X.1 X.2.1 hz hS (v := Int32.ofInt n) ?_ hd k2
  rw [← hn]
  rfl
theorem j_ba83 {i : Nat} {x n : Int} (hp : 0 ≤ pc) (hi : i < 3) (hn : ((sle_.getD i 0 : Nat) : Int) = n) (h1 : 0 ≤ x) (h2 : x < n) (hb : n ≤ 1000) (hv : ∀ k, k < 1000 → Int32.ofInt (((sby_.getD i []).getD k 0).toInt) = (sby_.getD i []).getD k 0 ∧ 0 ≤ ((sby_.getD i []).getD k 0).toInt ∧ ((sby_.getD i []).getD k 0).toInt ≤ 127) (hd : decode Y.2.1 pc.toNat = .ok (.baload, 1)) (kk : J_ Y T0 P bc bs (pc + 1) ls (vI ((sby_.getD i []).getD x.toNat 0).toInt :: st) T) : J_ Y T0 P bc bs pc ls (vI x :: vR 83 (i : Int) :: st) T := by
  intro l p e s m args below meth c D cA ad0 A X ad H locs cells slots lsC hc hs hR hS hB hT hL hl hln
  have hz := (X.2.2.2.2.2.2.2.2.2.2.1.2.1.1 i hi).2.2.2
  have hw := hv x.toNat (by omega)
  have k2 := kk l p e s m args below meth c D cA ad0 A X ad H locs cells slots lsC hc hs hR hS hB hT (ok_push (show ok_v T (vI _) from ⟨by omega, by omega⟩) (ok_tail (ok_tail hL))) hl hln
  rw [show (pc + 1).toNat = pc.toNat + 1 by omega] at k2
  have eb : ad 83 (i : Int) = ad0 83 (i : Int) := hB.2 83 _ (Or.inl (by omega))
  have hcl := i3_cl h1 (show x ≤ 2147483647 by omega)
  dsimp only at hz
  rw [show ad0 83 (i : Int) = ad 83 (i : Int) from eb.symm] at hz
  have hin := i3_in h1 (show x < ((sle_.getD i 0 : Nat) : Int) by omega) (by omega)
  rw [Int.toNat_natCast] at hin
  refine va_tb X.1 X.2.1 hz hS hin (v := .int (Int32.ofInt (((sby_.getD i []).getD x.toNat 0).toInt))) (by rw [show (Int32.ofInt x).toNatClampNeg = x.toNat by omega, hw.1]) hd k2
theorem i2c_b : ∀ n : Nat, n < 128 → ((Int32.ofInt (n : Int)).toUInt32 % 65536).toInt32 = Int32.ofInt (n : Int) := by decide +kernel
theorem nar_b : ∀ n : Nat, n < 128 → narrow .char (.int (Int32.ofInt (n : Int))) = .int (Int32.ofInt (n : Int)) ∧ narrow .byte (.int (Int32.ofInt (n : Int))) = .int (Int32.ofInt (n : Int)) := by decide +kernel
theorem j_i2c {x : Int} (hp : 0 ≤ pc) (h : 0 ≤ x ∧ x ≤ 127) (hd : decode Y.2.1 pc.toNat = .ok (.i2c, 1)) (kk : J_ Y T0 P bc bs (pc + 1) ls (vI x :: st) T) : J_ Y T0 P bc bs pc ls (vI x :: st) T := by
  intro l p e s m args below meth c D cA ad0 A X ad H locs cells slots lsC hc hs hR hS hB hT hL hl hln
  have k2 := kk l p e s m args below meth c D cA ad0 A X ad H locs cells slots lsC hc hs hR hS hB hT hL hl hln
  rw [show (pc + 1).toNat = pc.toNat + 1 by omega] at k2
  have h1 := i2c_b x.toNat (by omega)
  rw [show ((x.toNat : Nat) : Int) = x by omega] at h1
  exact lv_i2c X.1 X.2.1 hd h1 k2
theorem j_iretN {x : Int} (hr : Y.2.2.2.1 = some .char ∨ Y.2.2.2.1 = some .byte) (h : 0 ≤ x ∧ x ≤ 127) (hd : decode Y.2.1 pc.toNat = .ok (.ireturn, 1)) (k : P T (some (vI x))) : J_ Y T0 P bc bs pc ls [vI x] T := by
  intro l p e' s m args below meth c D cA ad0 A X ad H locs cells slots lsC hc hs hR hS hB hT hL hl hn
  refine W.widen (k := Y.2.2.2.2.cells) (n := Y.2.2.2.2.slots) (by omega) (by omega) ?_
  have hq : ∀ t : State, t.heap = H → s.WarmedH t.vm → Qc_ D cA ad0 T0 A P args s (.returned (some (.int (Int32.ofInt x)))) t := fun t ht _ => ⟨⟨T, ad, some (vI x), rfl, k, hT, fun v hv => by cases hv; exact ok_head hL, by rw [ht]; exact hR, hB⟩, hS.F ht⟩
  have h1 := nar_b x.toNat (by omega)
  rw [show ((x.toNat : Nat) : Int) = x by omega] at h1
  rcases hr with hr | hr
  · exact W.zret (ty := .char) X.1 X.2.1 (X.2.2.2.1.trans hr) h1.1 hq hS.2.2 hd X.2.2.2.2.1
  · exact W.zret (ty := .byte) X.1 X.2.1 (X.2.2.2.1.trans hr) h1.2 hq hS.2.2 hd X.2.2.2.2.1
/-- a call of a text's method -/
def ck82_ (own : String) (idx : Nat) (y : MethodName) (Yc : Zm) (n : Nat) : Prop := GoodIn lw_g (wsV own idx y.cls y (.code y Yc.2.1 Yc.2.2.1 Yc.2.2.2.1 :: lw_g)) ∧ (y.cls ≠ "java/lang/invoke/MethodHandle" ∧ y.cls ≠ "java/lang/invoke/VarHandle" ∧ (parseMethodDescriptor y.desc).map (fun d => d.parameters.length) = some n) ∧ y.cls = "java/lang/String"
theorem j_callK {idx n i : Nat} (as : List Zv) (hi : i < 3) (hC : Ct_ y Yc T (vR 82 (i : Int) :: as) Qp) (hcv : ck82_ Y.1 idx y Yc n) (hd : decode Y.2.1 pc.toNat = .ok (.invokevirtual idx, 3)) (hp : 0 ≤ pc) (hn : as.length = n) (hrm : rf_ Yc Y = true) (hrest : rest.length ≤ 4) (hmc : Yc.2.2.2.2.cells ≤ bc) (hms : Yc.2.2.2.2.slots ≤ bs) {st0 : List Zv} (hst : st0 = as.reverse ++ vR 82 (i : Int) :: rest) (kk : ∀ (T' : Zt) (r : Option Zv), Qp T' r → J_ Y T0 P (bc - Yc.2.2.2.2.cells) (bs - Yc.2.2.2.2.slots) (pc + 3) ls (r.toList ++ rest) T') : J_ Y T0 P bc bs pc ls st0 T := by
  subst hst
  intro l p e s m args below meth c D cA ad0 A X ad H locs cells slots lsC hc hs hR hS hB hT hL hl hln
  obtain ⟨hG, hdd, hcs⟩ := hcv
  simp only [rf_, Bool.and_eq_true, decide_eq_true_eq] at hrm
  have hLr : ok_l T ls rest := ⟨hL.1, fun v hv => hL.2 v (by simp [hv])⟩
  have hAA : ∀ q, A_ ad T H.size q → A q := by
    rintro q (⟨k, i, ha, rfl⟩ | h)
    · exact Rp_in hR ha
    · exact X.2.2.2.2.2.2.2.2.2.1 q (Nat.le_trans hS.1 h)
  have hrc := vk_recv X.2.2.2.2.2.2.2.2.2.2.1.2.1 hi hS
  have ea : ad 82 (i : Int) = ad0 82 (i : Int) := hB.2 82 _ (Or.inl (by omega))
  rw [show ad0 82 (i : Int) = ad 82 (i : Int) from ea.symm, ← hcs] at hrc
  refine j_back X hc hs hR hS hB hLr hl hln hp hmc hms (va_runV (As := as.map (en_v ad)) (rest := rest.map (en_v ad)) (b := ad 82 (i : Int)) ⟨X.1, X.2.1, X.2.2.1, X.2.2.2.2.2.2.1, X.2.2.2.2.2.1⟩ (hC l D cA ad H.size) (cwV n X.2.2.2.2.2.1 hG rfl rfl rfl ⟨rfl, hdd⟩ hrm) ⟨pc_blind, hrc, fun U hU hW => ⟨rfl, by rw [hU], by rw [hU]; exact Rp_A hR (fun _ _ _ _ => trivial), va_K.moved hW.alike X.2.2.2.2.2.2.2.1, ex_warm hW X.2.2.2.2.2.2.2.2.1, se_call X.2.2.2.2.2.2.2.2.2.2.1 hS hAA hU hW (fun k i hk => hB.2 k i (Or.inl hk)), hT, fun v hv => hL.2 v ?_⟩⟩ rfl (by rw [List.length_map]; exact hn) (hl.1) ?_ (lv_room ?_) hd ⟨by omega, by omega⟩) (fun T' r h => kk T' r h)
  · rcases List.mem_cons.mp hv with rfl | h
    · simp
    · simp [h]
  · show List.map (en_v ad) (as.reverse ++ vR 82 (i : Int) :: rest) = _
    rw [List.map_append, List.map_reverse, List.map_cons]
    rfl
  · have := en_sum (ad := ad) rest
    omega
end JS
