-- who can be first: the house's ask, words for its steps (DRAFT, not compiled; behind the contracts listOpen_e, takePoints_e, setCaps_e, spreadParts_e, noneAbove_e, search_e8)
theorem cz7_b {P : Prop} {a b lo hi : Int} (ha : lo ≤ a ∧ a ≤ hi) (hb : lo ≤ b ∧ b ≤ hi) : lo ≤ cz_ P a b ∧ cz_ P a b ≤ hi := by
  by_cases z : P
  · rw [cz_t z]
    exact ha
  · rw [cz_f z]
    exact hb
theorem ow7_b {T : Zt} {c t x k : Int} (hr : ∀ w, 1 ≤ w ∧ w ≤ 3 → 0 ≤ T 401 c w ∧ T 401 c w ≤ 9) : 0 ≤ ow7_ T c t x k ∧ ow7_ T c t x k ≤ 18 := by
  have w1 := hr 1 ⟨by decide, by decide⟩
  have w3 := hr 3 ⟨by decide, by decide⟩
  have z0 : (0 : Int) ≤ 0 ∧ (0 : Int) ≤ 9 := ⟨by decide, by decide⟩
  have c1 := cz7_b (P := x = t) w1 w3
  have c2 := cz7_b (P := x = T 404 c (T 102 (T 100 c 7 + k) 3)) c1 z0
  have c3 := cz7_b (P := x = T 404 c (T 102 (T 100 c 7 + k) 4)) c1 z0
  unfold ow7_
  exact cz7_b ⟨by decide, by decide⟩ ⟨by omega, by omega⟩
/-- the club's own matches give at most so much -/
theorem os7_b {T : Zt} {c t x : Int} (hr : ∀ w, 1 ≤ w ∧ w ≤ 3 → 0 ≤ T 401 c w ∧ T 401 c w ≤ 9) : ∀ n : Nat, 0 ≤ os7_ T c t x n ∧ os7_ T c t x n ≤ 18 * (n : Int)
  | 0 => by
    show (0 : Int) ≤ 0 ∧ (0 : Int) ≤ 18 * ((0 : Nat) : Int)
    omega
  | n + 1 => by
    have i := os7_b (t := t) (x := x) hr n
    have d := ow7_b (t := t) (x := x) (k := (n : Int)) hr
    show 0 ≤ os7_ T c t x n + ow7_ T c t x (n : Int) ∧ os7_ T c t x n + ow7_ T c t x (n : Int) ≤ 18 * ((n + 1 : Nat) : Int)
    omega
/-- what the losses give at least is no less than nothing -/
theorem ls7_b {T : Zt} {c x : Int} (hr : 0 ≤ T 401 c 3 ∧ T 401 c 3 ≤ 9) : ∀ n : Nat, 0 ≤ ls7_ T c x n ∧ ls7_ T c x n ≤ 9 * (n : Int)
  | 0 => by
    show (0 : Int) ≤ 0 ∧ (0 : Int) ≤ 9 * ((0 : Nat) : Int)
    omega
  | n + 1 => by
    have i := ls7_b (x := x) hr n
    have d := cz7_b (P := T 102 (T 588 0 (n : Int)) 3 = T 403 c x ∨ T 102 (T 588 0 (n : Int)) 4 = T 403 c x) hr (show (0 : Int) ≤ 0 ∧ (0 : Int) ≤ 9 from ⟨by decide, by decide⟩)
    show 0 ≤ ls7_ T c x n + cz_ (T 102 (T 588 0 (n : Int)) 3 = T 403 c x ∨ T 102 (T 588 0 (n : Int)) 4 = T 403 c x) (T 401 c 3) 0 ∧ ls7_ T c x n + cz_ (T 102 (T 588 0 (n : Int)) 3 = T 403 c x ∨ T 102 (T 588 0 (n : Int)) 4 = T 403 c x) (T 401 c 3) 0 ≤ 9 * ((n + 1 : Nat) : Int)
    omega
theorem fr7h_ {T U : Zt} {m b : Int} (e2 : ∀ i j, U 472 i j = T 472 i j) (e3 : ∀ i j, U 473 i j = T 473 i j) : ∀ n : Nat, fr9h_ U m b n = fr9h_ T m b n
  | 0 => rfl
  | n + 1 => by
    show fr9h_ U m b n + (U 473 m (b + (n : Int)) + cz_ (U 472 m (b + (n : Int)) = 3) 3 0) = fr9h_ T m b n + (T 473 m (b + (n : Int)) + cz_ (T 472 m (b + (n : Int)) = 3) 3 0)
    rw [fr7h_ e2 e3 n, e2, e3]
/-- the points before hang on none of the title's own -/
theorem pp7_f {ws : List (Nat × List Int)} {T U : Zt} {c x : Int} (f : fr_ ws T U) (w : ([100, 102, 103, 106, 401, 403, 449, 468, 472, 473, 527, 528, 529, 530].all fun k => ws.all fun q => q.1 != k) = true) : pp7_ U c x = pp7_ T c x := by
  have e : ∀ k ∈ [100, 102, 103, 106, 401, 403, 449, 468, 472, 473, 527, 528, 529, 530], ∀ i j, U k i j = T k i j := fun k hk i j => f k i j (fw_no (List.all_eq_true.mp w k hk) j)
  have a100 := e 100 (by decide)
  have a102 := e 102 (by decide)
  have a103 := e 103 (by decide)
  have a106 := e 106 (by decide)
  have a401 := e 401 (by decide)
  have a403 := e 403 (by decide)
  have a449 := e 449 (by decide)
  have a468 := e 468 (by decide)
  have a472 := e 472 (by decide)
  have a473 := e 473 (by decide)
  have v : ∀ d m, vH_ U d m = vH_ T d m := fun d m => by
    funext i
    unfold vH_
    simp only [a102, a103, a401, a449, a468, fr7h_ a472 a473]
  unfold pp7_
  rw [show (fun w => U 401 c w) = (fun w => T 401 c w) from funext (fun w => a401 c w), show (fun k => vH_ U 999 (U 100 c 7 + k)) = (fun k => vH_ T 999 (T 100 c 7 + k)) from funext (fun k => by rw [a100, v]), a403, a100, a106, dh_k (T := T) (U := U) (fun k j h => e k (by rcases h with rfl | rfl | rfl | rfl <;> decide) 0 j)]
/-- points that are small are no less than what is told of them -/
theorem pt7_i {U : Zt} {n x : Int} {D : Int → Int} (hU : ok_T U) (h : PV7_ U n D) (h0 : 0 ≤ x) (h1 : x < n) (hd : -1000000 ≤ D x ∧ D x ≤ 1000000) : U 587 0 x = D x := by
  have b := bd_a hU 587 (by decide +kernel : ta_ 587 = some (1, some 12, -2147483648, 2147483647)) 0 h0
  have g := h x h0 h1
  rw [wr_9 (x := U 587 0 x) (by omega), wr_9 (x := D x) (by omega)] at g
  exact g
theorem sk7_m {T : Zt} {c b : Int} (h : SK_ T c) (hb : 0 ≤ b ∧ b < 12) (hs : 0 ≤ T 404 c b) : T 404 c b < T 100 c 5 ∧ T 403 c (T 404 c b) = b := by
  rcases h.2 b hb.1 hb.2 with z | z
  · omega
  · exact z.2
theorem dq7_e {v p : Int} (hv : 0 ≤ v ∧ v ≤ 2147483647) (hp : 1 ≤ p ∧ p ≤ 9) : dq_ v p = v / p := by
  unfold dq_
  have e2 : (Int32.ofInt v).toInt = v := Int32.toInt_ofInt_of_le (by omega) (by omega)
  have e3 : (Int32.ofInt p).toInt = p := Int32.toInt_ofInt_of_le (by omega) (by omega)
  rw [Int32.toInt_div_of_ne_right (Int32.ofInt v) (Int32.ofInt p) (fun z => by
    have y := congrArg Int32.toInt z
    rw [e3, show (-1 : Int32).toInt = -1 by decide] at y
    omega), e2, e3]
  exact Int.tdiv_eq_ediv_of_nonneg hv.1
/-- a cap is small -/
theorem cq7_b {p v : Int} (hp : 0 ≤ p ∧ p ≤ 9) (hv : v ≤ 1000000) : -1 ≤ cq7_ p v ∧ cq7_ p v ≤ 1000000 := by
  unfold cq7_
  by_cases z : v < 0
  · rw [cz_t z]
    omega
  · rw [cz_f z]
    by_cases y : p = 0
    · rw [cz_t y]
      omega
    · rw [cz_f y, dq7_e (by omega) (by omega)]
      have q1 : 0 ≤ v / p := Int.ediv_nonneg (by omega) (by omega)
      have q2 : v / p ≤ v := Int.ediv_le_self _ (by omega)
      omega
/-- how an asking begins: the competition is set, the cut and the results are cleared -/
def AS7_ (T U : Zt) (c : Int) : Prop := fr_ [(109, [5, 3]), (584, [])] T U ∧ U 109 0 5 = c + 1 ∧ U 109 0 3 = 0 ∧ ∀ y, 0 ≤ y → y < 400 → U 584 0 y = -1
/-- behind the first list: the open matches are all different, no result stands of them -/
theorem as7_o {T U V : Zt} {c b n : Int} {D : Int → Prop} (hD : D = OD7_ U c b) (a : AS7_ T U c) (hm : 0 ≤ U 100 c 7 ∧ 0 ≤ U 100 c 8 ∧ U 100 c 7 + U 100 c 8 ≤ 400) (hn : n = (dl9_ D (U 100 c 8).toNat).1) (ol : ∀ j : Int, 0 ≤ j → j < n → V 588 0 j = U 100 c 7 + (dl9_ D (U 100 c 8).toNat).2 j) (ro : ∀ y : Int, (∀ j : Int, 0 ≤ j → j < U 100 c 8 → OM7_ U c b j → y ≠ U 100 c 7 + j) → V 584 0 y = U 584 0 y) : (∀ i j, 0 ≤ i → i < j → j < n → V 588 0 i ≠ V 588 0 j) ∧ (∀ i, 0 ≤ i → i < n → V 584 0 (V 588 0 i) = -1) ∧ ∀ i, 0 ≤ i → i < n → U 100 c 7 ≤ V 588 0 i ∧ V 588 0 i < U 100 c 7 + U 100 c 8 := by
  have b9 := dl_b (D := D) (U 100 c 8).toNat
  refine ⟨fun i j p q r => ?_, fun i p q => ?_, fun i p q => ?_⟩
  · have y := dl7_u (D := D) (U 100 c 8).toNat i j p q (by omega)
    rw [ol i p (by omega), ol j (by omega) r]
    omega
  · have y := b9.2 i p (by omega)
    have d := dl7_d (D := D) (U 100 c 8).toNat i p (by omega)
    rw [hD] at d
    have o := d.2
    rw [ro (V 588 0 i) (fun j u v w z => by
      rw [ol i p q] at z
      have e : (dl9_ (OD7_ U c b) (U 100 c 8).toNat).2 i = j := by
        rw [hD] at z
        omega
      rw [e] at o
      exact o w.2), ol i p q]
    exact a.2.2.2 _ (by omega) (by omega)
  · have y := b9.2 i p (by omega)
    rw [ol i p q]
    omega
/-- seats and clubs fit as before -/
theorem sk7_f {ws : List (Nat × List Int)} {T U : Zt} {c : Int} (h : SK_ T c) (f : fr_ ws T U) (w : ([100, 403, 404].all fun k => ws.all fun q => q.1 != k) = true) : SK_ U c := by
  have e : ∀ k ∈ [100, 403, 404], ∀ i j, U k i j = T k i j := fun k hk i j => f k i j (fw_no (List.all_eq_true.mp w k hk) j)
  have a0 := e 100 (by decide)
  have a3 := e 403 (by decide)
  have a4 := e 404 (by decide)
  unfold SK_ at h ⊢
  simp only [a0, a3, a4]
  exact h
/-- open matches: their seats are two, of those that entered, none the club's -/
theorem op7_s {T : Zt} {c t m : Int} (hs : SK_ T c) (ht : 0 ≤ t ∧ t < T 100 c 5) (hd : OD7_ T c (T 403 c t) m) (hb : (0 ≤ T 102 (T 100 c 7 + m) 3 ∧ T 102 (T 100 c 7 + m) 3 < 12) ∧ 0 ≤ T 102 (T 100 c 7 + m) 4 ∧ T 102 (T 100 c 7 + m) 4 < 12) (h3 : 0 ≤ T 404 c (T 102 (T 100 c 7 + m) 3)) (h4 : 0 ≤ T 404 c (T 102 (T 100 c 7 + m) 4)) (hn : T 102 (T 100 c 7 + m) 3 ≠ T 102 (T 100 c 7 + m) 4) : (T 404 c (T 102 (T 100 c 7 + m) 3) < T 100 c 5 ∧ T 404 c (T 102 (T 100 c 7 + m) 4) < T 100 c 5) ∧ (T 404 c (T 102 (T 100 c 7 + m) 3) ≠ t ∧ T 404 c (T 102 (T 100 c 7 + m) 4) ≠ t) ∧ T 404 c (T 102 (T 100 c 7 + m) 3) ≠ T 404 c (T 102 (T 100 c 7 + m) 4) := by
  have a := sk7_m hs hb.1 h3
  have b := sk7_m hs hb.2 h4
  have n := hd.2
  refine ⟨⟨a.1, b.1⟩, ⟨fun z => n (Or.inl ?_), fun z => n (Or.inr ?_)⟩, fun z => hn ?_⟩
  · rw [← z]
    exact a.2.symm
  · rw [← z]
    exact b.2.symm
  · rw [← a.2, z, b.2]
/-- the seats of the listed matches -/
theorem se7_o {T U V : Zt} {c t n : Int} {D : Int → Prop} (hD : D = OD7_ U c (T 403 c t)) (hn : n = (dl9_ D (U 100 c 8).toNat).1) (ol : ∀ j : Int, 0 ≤ j → j < n → V 588 0 j = U 100 c 7 + (dl9_ D (U 100 c 8).toNat).2 j) (hs : SK_ T c) (ht : 0 ≤ t ∧ t < T 100 c 5) (eU : ∀ k ∈ [100, 102, 103, 404], ∀ i j, U k i j = T k i j) (eV : ∀ k ∈ [100, 102, 103, 404], ∀ i j, V k i j = T k i j) (hc : V 109 0 5 = c + 1) (hb : ∀ m, (0 ≤ T 102 m 3 ∧ T 102 m 3 < 12) ∧ 0 ≤ T 102 m 4 ∧ T 102 m 4 < 12) (hk : ∀ k, 0 ≤ k → k < T 100 c 8 → 0 ≤ T 404 c (T 102 (T 100 c 7 + k) 3) ∧ 0 ≤ T 404 c (T 102 (T 100 c 7 + k) 4) ∧ T 102 (T 100 c 7 + k) 3 ≠ T 102 (T 100 c 7 + k) 4) : ∀ i, 0 ≤ i → i < n → ((0 ≤ hsx_ V i ∧ hsx_ V i < T 100 c 5) ∧ 0 ≤ asx_ V i ∧ asx_ V i < T 100 c 5) ∧ (hsx_ V i ≠ t ∧ asx_ V i ≠ t) ∧ hsx_ V i ≠ asx_ V i := by
  intro i p q
  have d := dl7_d (D := D) (U 100 c 8).toNat i p (by omega)
  have bb := (dl_b (D := D) (U 100 c 8).toNat).2 i p (by omega)
  have oi := ol i p q
  generalize (dl9_ D (U 100 c 8).toNat).2 i = k at d bb oi
  have e100 := eU 100 (by decide)
  have e102 := eU 102 (by decide)
  have e103 := eU 103 (by decide)
  have v102 := eV 102 (by decide)
  have v404 := eV 404 (by decide)
  rw [hD] at d
  unfold OD7_ at d
  simp only [e100, e102, e103] at d
  have d1 : OD7_ T c (T 403 c t) k := by
    unfold OD7_
    exact d
  have z8 := e100 c 8
  have h := hk k bb.1 (by omega)
  have g := op7_s hs ht d1 (hb _) h.1 h.2.1 h.2.2
  have ho : V 588 0 i = T 100 c 7 + k := by
    rw [oi, e100]
  have eh : hsx_ V i = T 404 c (T 102 (T 100 c 7 + k) 3) := by
    unfold hsx_
    rw [hc, show c + 1 - 1 = c by omega, ho, v404, v102]
  have ea : asx_ V i = T 404 c (T 102 (T 100 c 7 + k) 4) := by
    unfold asx_
    rw [hc, show c + 1 - 1 = c by omega, ho, v404, v102]
  rw [eh, ea]
  exact ⟨⟨⟨h.1, g.1.1⟩, h.2.1, g.1.2⟩, g.2.1, g.2.2⟩
/-- the cut that proves that there is no way -/
def CK7_ (P T' : Zt) (c t x : Int) : Prop := x = 0 → ∃ U : Zt, (∀ (k : Nat) (i j : Int), k = 100 ∨ k = 102 ∨ k = 403 ∨ k = 404 ∨ k = 588 ∨ k = 591 → U k i j = P k i j) ∧ U 109 0 9 = P 109 0 9 ∧ ∃ o : Int, (0 ≤ o ∧ o ≤ 4095) ∧ OG7_ U c t (U 100 c 5) o ∧ ((T' 109 0 3 = 0 ∧ ∀ u, 0 ≤ u → u ≤ 4095 → an_ u o = u → 0 ≤ vs_ (fun v : Nat => cz_ (U 404 c (v : Int) = -1) 0 (U 591 0 (U 404 c (v : Int)))) (lh7_ (fun j => U 102 (U 588 0 j) 3) (fun j => U 102 (U 588 0 j) 4) (U 109 0 9).toNat 0) u.toNat) ∨ CU7_ o (lh7_ (fun j => U 102 (U 588 0 j) 3) (fun j => U 102 (U 588 0 j) 4) (U 109 0 9).toNat 0) (fun v : Nat => cz_ (U 404 c (v : Int) = -1) 0 (U 591 0 (U 404 c (v : Int)))) (T' 109 0 3))
/-- what an asking answers, and what it leaves of the results -/
def AK7_ (T T' : Zt) (c t x : Int) : Prop := ∃ (U V : Zt) (y n : Int), AS7_ T U c ∧ ((T 401 c 1 + T 401 c 3 = 2 * T 401 c 2 ∧ n = 40) ∨ (T 401 c 1 + T 401 c 3 ≠ 2 * T 401 c 2 ∧ n = 8)) ∧ po_X9_listOpen_e U (T 403 c t) n V (some (vI y)) ∧ T' 109 0 2 = x ∧
  ((y = 0 ∧ x = 2 ∧ T' 109 0 3 = 0 ∧ ∀ j, T' 584 0 j = V 584 0 j) ∨
   (y = 1 ∧ ∃ W : Zt, (∀ x, 0 ≤ x → x < T 100 c 5 → W 587 0 x = pp7_ T c x + os7_ V c t x (V 100 c 8).toNat) ∧ po_X9_takePoints_e V t W none ∧
     ((n = 40 ∧ ∃ (S P : Zt), po_X9_setCaps_e W t S none ∧ po_X9_spreadParts_e S (T 100 c 5) t P (some (vI x)) ∧ (x = 1 → T' 109 0 3 = 0) ∧ (∀ j, T' 584 0 j = P 584 0 j) ∧ CK7_ P T' c t x) ∨
      (n = 8 ∧ T' 109 0 3 = 0 ∧ ∃ z : Int, po_X9_noneAbove_e W t W (some (vI z)) ∧
        ((z = 0 ∧ x = 0 ∧ ∀ j, T' 584 0 j = W 584 0 j) ∨ (z = 1 ∧ ∃ P : Zt, po_X9_search_e8 W (T 100 c 5) 0 P (some (vI x)) ∧ ∀ j, T' 584 0 j = P 584 0 j))))))
/-- what can answers -/
def CA7_ (T T' : Zt) (c b x : Int) : Prop := (T' = T ∧ x = -2 ∧ ¬ ((0 ≤ c ∧ c < T 106 0 2) ∧ 0 ≤ b ∧ b < T 108 0 2)) ∨ (((0 ≤ c ∧ c < T 106 0 2) ∧ 0 ≤ b ∧ b < T 108 0 2) ∧ ((T' = T ∧ x = -4 ∧ (T 404 c b = -1 ∨ T 100 c 6 = 0)) ∨ (T 404 c b ≠ -1 ∧ T 100 c 6 ≠ 0 ∧ AK7_ T T' c (T 404 c b) x)))
theorem bk_X9_ask_f_0 : ck_ fX9 (some .int) cX9_ask 0 [.aload 0, .aload 1] 2 = true := qck_r (nn_ _) (by decide +kernel)
theorem bs_X9_ask_f_0 {P : Zt → Option Zv → Prop} (K : Int → Zl → List Zv → Zt → Prop) : sx_ K P [.aload 0, .aload 1] 2 = x_aload 0 (x_aload 1 (K 2)) := ((xe_aload 0).trans (congrArg (x_aload 0) ((xe_aload 1).trans (congrArg (x_aload 1) xe_nil))))
theorem bk_X9_ask_f_5 : ck_ fX9 (some .int) cX9_ask 5 [.aload 0, .iconst 0, .tableswitch 1 9 3 #[], .aload 0, .tableswitch 0 9 4 #[], .iconst (-1)] 15 = true := qck_r (nn_ _) (by decide +kernel)
theorem bs_X9_ask_f_5 {P : Zt → Option Zv → Prop} (K : Int → Zl → List Zv → Zt → Prop) : sx_ K P [.aload 0, .iconst 0, .tableswitch 1 9 3 #[], .aload 0, .tableswitch 0 9 4 #[], .iconst (-1)] 15 = x_aload 0 (x_iconst 0 (x_p 109 3 0 4095 (x_aload 0 (x_g1 109 584 (x_iconst (-1) (K 15)))))) := ((xe_aload 0).trans (congrArg (x_aload 0) ((xe_iconst 0).trans (congrArg (x_iconst 0) ((xe_p (kk := 109) rfl tl_9_3).trans (congrArg (x_p 109 3 0 4095) ((xe_aload 0).trans (congrArg (x_aload 0) ((xe_g1 (kk := 109) rfl tl_9_4).trans (congrArg (x_g1 109 584) ((xe_iconst (-1)).trans (congrArg (x_iconst (-1)) xe_nil))))))))))))
theorem bk_X9_ask_f_18 : ck_ fX9 (some .int) cX9_ask 18 [.aload 0, .tableswitch 0 9 5 #[], .tableswitch 0 0 1 #[], .iconst 1, .iaload, .aload 0, .tableswitch 0 9 5 #[], .tableswitch 0 0 1 #[], .iconst 3, .iaload, .iadd, .iconst 2, .aload 0, .tableswitch 0 9 5 #[], .tableswitch 0 0 1 #[], .iconst 2, .iaload, .imul, .if_icmp .ne 55, .iconst 1, .goto 56] 55 = true := qck_r (nn_ _) (by decide +kernel)
theorem bs_X9_ask_f_18 {P : Zt → Option Zv → Prop} (K : Int → Zl → List Zv → Zt → Prop) : sx_ K P [.aload 0, .tableswitch 0 9 5 #[], .tableswitch 0 0 1 #[], .iconst 1, .iaload, .aload 0, .tableswitch 0 9 5 #[], .tableswitch 0 0 1 #[], .iconst 3, .iaload, .iadd, .iconst 2, .aload 0, .tableswitch 0 9 5 #[], .tableswitch 0 0 1 #[], .iconst 2, .iaload, .imul, .if_icmp .ne 55, .iconst 1, .goto 56] 55 = x_aload 0 (x_g5 109 100 5 (x_g2 100 401 (x_iconst 1 (x_iaload (x_aload 0 (x_g5 109 100 5 (x_g2 100 401 (x_iconst 3 (x_iaload (x_iadd (x_iconst 2 (x_aload 0 (x_g5 109 100 5 (x_g2 100 401 (x_iconst 2 (x_iaload (x_imul (x_if_icmp .ne 55 K (x_iconst 1 (x_goto 56 K)))))))))))))))))))) := ((xe_aload 0).trans (congrArg (x_aload 0) ((xe_g5 (kk := 109) rfl tl_9_5).trans (congrArg (x_g5 109 100 5) ((xe_g2 (kk := 100) rfl tl_0_1).trans (congrArg (x_g2 100 401) ((xe_iconst 1).trans (congrArg (x_iconst 1) ((xe_iaload).trans (congrArg (x_iaload) ((xe_aload 0).trans (congrArg (x_aload 0) ((xe_g5 (kk := 109) rfl tl_9_5).trans (congrArg (x_g5 109 100 5) ((xe_g2 (kk := 100) rfl tl_0_1).trans (congrArg (x_g2 100 401) ((xe_iconst 3).trans (congrArg (x_iconst 3) ((xe_iaload).trans (congrArg (x_iaload) ((xe_iadd).trans (congrArg (x_iadd) ((xe_iconst 2).trans (congrArg (x_iconst 2) ((xe_aload 0).trans (congrArg (x_aload 0) ((xe_g5 (kk := 109) rfl tl_9_5).trans (congrArg (x_g5 109 100 5) ((xe_g2 (kk := 100) rfl tl_0_1).trans (congrArg (x_g2 100 401) ((xe_iconst 2).trans (congrArg (x_iconst 2) ((xe_iaload).trans (congrArg (x_iaload) ((xe_imul).trans (congrArg (x_imul) ((xe_if_icmp .ne 55).trans (congrArg (x_if_icmp .ne 55 K) ((xe_iconst 1).trans (congrArg (x_iconst 1) (xe_goto 56)))))))))))))))))))))))))))))))))))))))))
theorem bk_X9_ask_f_55 : ck_ fX9 (some .int) cX9_ask 55 [.iconst 0, .istore 3, .aload 0, .aload 0, .tableswitch 0 9 5 #[], .tableswitch 0 0 3 #[], .iload 2, .iaload, .iload 3, .ifCond .eq 76, .iconst 40, .goto 78] 76 = true := qck_r (nn_ _) (by decide +kernel)
theorem bs_X9_ask_f_55 {P : Zt → Option Zv → Prop} (K : Int → Zl → List Zv → Zt → Prop) : sx_ K P [.iconst 0, .istore 3, .aload 0, .aload 0, .tableswitch 0 9 5 #[], .tableswitch 0 0 3 #[], .iload 2, .iaload, .iload 3, .ifCond .eq 76, .iconst 40, .goto 78] 76 = x_iconst 0 (x_istore 3 (x_aload 0 (x_aload 0 (x_g5 109 100 5 (x_g2 100 403 (x_iload 2 (x_iaload (x_iload 3 (x_ifCond .eq 76 K (x_iconst 40 (x_goto 78 K))))))))))) := ((xe_iconst 0).trans (congrArg (x_iconst 0) ((xe_istore 3).trans (congrArg (x_istore 3) ((xe_aload 0).trans (congrArg (x_aload 0) ((xe_aload 0).trans (congrArg (x_aload 0) ((xe_g5 (kk := 109) rfl tl_9_5).trans (congrArg (x_g5 109 100 5) ((xe_g2 (kk := 100) rfl tl_0_3).trans (congrArg (x_g2 100 403) ((xe_iload 2).trans (congrArg (x_iload 2) ((xe_iaload).trans (congrArg (x_iaload) ((xe_iload 3).trans (congrArg (x_iload 3) ((xe_ifCond .eq 76).trans (congrArg (x_ifCond .eq 76 K) ((xe_iconst 40).trans (congrArg (x_iconst 40) (xe_goto 78)))))))))))))))))))))))
theorem bk_X9_ask_f_76 : ck_ fX9 (some .int) cX9_ask 76 [.iconst 8] 78 = true := qck_r (nn_ _) (by decide +kernel)
theorem bs_X9_ask_f_76 {P : Zt → Option Zv → Prop} (K : Int → Zl → List Zv → Zt → Prop) : sx_ K P [.iconst 8] 78 = x_iconst 8 (K 78) := ((xe_iconst 8).trans (congrArg (x_iconst 8) xe_nil))
theorem bk_X9_ask_f_81 : ck_ fX9 (some .int) cX9_ask 81 [.ifCond .ne 94, .aload 0, .iconst 2, .tableswitch 1 9 2 #[], .aload 0, .tableswitch 0 9 2 #[], .ireturn] 94 = true := qck_r (nn_ _) (by decide +kernel)
theorem bs_X9_ask_f_81 {P : Zt → Option Zv → Prop} (K : Int → Zl → List Zv → Zt → Prop) : sx_ K P [.ifCond .ne 94, .aload 0, .iconst 2, .tableswitch 1 9 2 #[], .aload 0, .tableswitch 0 9 2 #[], .ireturn] 94 = x_ifCond .ne 94 K (x_aload 0 (x_iconst 2 (x_p 109 2 (-1) 2 (x_aload 0 (x_g0 109 2 (-1) 2 (x_ireturn P)))))) := ((xe_ifCond .ne 94).trans (congrArg (x_ifCond .ne 94 K) ((xe_aload 0).trans (congrArg (x_aload 0) ((xe_iconst 2).trans (congrArg (x_iconst 2) ((xe_p (kk := 109) rfl tl_9_2).trans (congrArg (x_p 109 2 (-1) 2) ((xe_aload 0).trans (congrArg (x_aload 0) ((xe_g0 (kk := 109) rfl tl_9_2).trans (congrArg (x_g0 109 2 (-1) 2) (xe_ireturn)))))))))))))
theorem bk_X9_ask_f_94 : ck_ fX9 (some .int) cX9_ask 94 [.aload 0, .iload 2] 96 = true := qck_r (nn_ _) (by decide +kernel)
theorem bs_X9_ask_f_94 {P : Zt → Option Zv → Prop} (K : Int → Zl → List Zv → Zt → Prop) : sx_ K P [.aload 0, .iload 2] 96 = x_aload 0 (x_iload 2 (K 96)) := ((xe_aload 0).trans (congrArg (x_aload 0) ((xe_iload 2).trans (congrArg (x_iload 2) xe_nil))))
theorem bk_X9_ask_f_99 : ck_ fX9 (some .int) cX9_ask 99 [.iload 3, .ifCond .eq 144, .aload 0, .iload 2] 105 = true := qck_r (nn_ _) (by decide +kernel)
theorem bs_X9_ask_f_99 {P : Zt → Option Zv → Prop} (K : Int → Zl → List Zv → Zt → Prop) : sx_ K P [.iload 3, .ifCond .eq 144, .aload 0, .iload 2] 105 = x_iload 3 (x_ifCond .eq 144 K (x_aload 0 (x_iload 2 (K 105)))) := ((xe_iload 3).trans (congrArg (x_iload 3) ((xe_ifCond .eq 144).trans (congrArg (x_ifCond .eq 144 K) ((xe_aload 0).trans (congrArg (x_aload 0) ((xe_iload 2).trans (congrArg (x_iload 2) xe_nil))))))))
theorem bk_X9_ask_f_144 : ck_ fX9 (some .int) cX9_ask 144 [.aload 0, .aload 0, .iload 2] 147 = true := qck_r (nn_ _) (by decide +kernel)
theorem bs_X9_ask_f_144 {P : Zt → Option Zv → Prop} (K : Int → Zl → List Zv → Zt → Prop) : sx_ K P [.aload 0, .aload 0, .iload 2] 147 = x_aload 0 (x_aload 0 (x_iload 2 (K 147))) := ((xe_aload 0).trans (congrArg (x_aload 0) ((xe_aload 0).trans (congrArg (x_aload 0) ((xe_iload 2).trans (congrArg (x_iload 2) xe_nil))))))
theorem bk_X9_ask_f_150 : ck_ fX9 (some .int) cX9_ask 150 [.ifCond .eq 165, .aload 0, .iconst 0] 155 = true := qck_r (nn_ _) (by decide +kernel)
theorem bs_X9_ask_f_150 {P : Zt → Option Zv → Prop} (K : Int → Zl → List Zv → Zt → Prop) : sx_ K P [.ifCond .eq 165, .aload 0, .iconst 0] 155 = x_ifCond .eq 165 K (x_aload 0 (x_iconst 0 (K 155))) := ((xe_ifCond .eq 165).trans (congrArg (x_ifCond .eq 165 K) ((xe_aload 0).trans (congrArg (x_aload 0) ((xe_iconst 0).trans (congrArg (x_iconst 0) xe_nil))))))
theorem bk_X9_ask_f_165 : ck_ fX9 (some .int) cX9_ask 165 [.iconst 0, .tableswitch 1 9 2 #[], .aload 0, .tableswitch 0 9 2 #[], .ireturn] 174 = true := qck_r (nn_ _) (by decide +kernel)
theorem bs_X9_ask_f_165 {P : Zt → Option Zv → Prop} (K : Int → Zl → List Zv → Zt → Prop) : sx_ K P [.iconst 0, .tableswitch 1 9 2 #[], .aload 0, .tableswitch 0 9 2 #[], .ireturn] 174 = x_iconst 0 (x_p 109 2 (-1) 2 (x_aload 0 (x_g0 109 2 (-1) 2 (x_ireturn P)))) := ((xe_iconst 0).trans (congrArg (x_iconst 0) ((xe_p (kk := 109) rfl tl_9_2).trans (congrArg (x_p 109 2 (-1) 2) ((xe_aload 0).trans (congrArg (x_aload 0) ((xe_g0 (kk := 109) rfl tl_9_2).trans (congrArg (x_g0 109 2 (-1) 2) (xe_ireturn)))))))))
theorem bk_X9_ask_f_158 : ck_ fX9 (some .int) cX9_ask 158 [.ifCond .eq 165, .iconst 1, .goto 166] 165 = true := qck_r (nn_ _) (by decide +kernel)
theorem bs_X9_ask_f_158 {P : Zt → Option Zv → Prop} (K : Int → Zl → List Zv → Zt → Prop) : sx_ K P [.ifCond .eq 165, .iconst 1, .goto 166] 165 = x_ifCond .eq 165 K (x_iconst 1 (x_goto 166 K)) := ((xe_ifCond .eq 165).trans (congrArg (x_ifCond .eq 165 K) ((xe_iconst 1).trans (congrArg (x_iconst 1) (xe_goto 166)))))
theorem bk_X9_ask_f_166 : ck_ fX9 (some .int) cX9_ask 166 [.tableswitch 1 9 2 #[], .aload 0, .tableswitch 0 9 2 #[], .ireturn] 174 = true := qck_r (nn_ _) (by decide +kernel)
theorem bs_X9_ask_f_166 {P : Zt → Option Zv → Prop} (K : Int → Zl → List Zv → Zt → Prop) : sx_ K P [.tableswitch 1 9 2 #[], .aload 0, .tableswitch 0 9 2 #[], .ireturn] 174 = x_p 109 2 (-1) 2 (x_aload 0 (x_g0 109 2 (-1) 2 (x_ireturn P))) := ((xe_p (kk := 109) rfl tl_9_2).trans (congrArg (x_p 109 2 (-1) 2) ((xe_aload 0).trans (congrArg (x_aload 0) ((xe_g0 (kk := 109) rfl tl_9_2).trans (congrArg (x_g0 109 2 (-1) 2) (xe_ireturn)))))))
theorem bk_X9_ask_f_56 : ck_ fX9 (some .int) cX9_ask 56 [.istore 3, .aload 0, .aload 0, .tableswitch 0 9 5 #[], .tableswitch 0 0 3 #[], .iload 2, .iaload, .iload 3, .ifCond .eq 76, .iconst 40, .goto 78] 76 = true := qck_r (nn_ _) (by decide +kernel)
theorem bs_X9_ask_f_56 {P : Zt → Option Zv → Prop} (K : Int → Zl → List Zv → Zt → Prop) : sx_ K P [.istore 3, .aload 0, .aload 0, .tableswitch 0 9 5 #[], .tableswitch 0 0 3 #[], .iload 2, .iaload, .iload 3, .ifCond .eq 76, .iconst 40, .goto 78] 76 = x_istore 3 (x_aload 0 (x_aload 0 (x_g5 109 100 5 (x_g2 100 403 (x_iload 2 (x_iaload (x_iload 3 (x_ifCond .eq 76 K (x_iconst 40 (x_goto 78 K)))))))))) := ((xe_istore 3).trans (congrArg (x_istore 3) ((xe_aload 0).trans (congrArg (x_aload 0) ((xe_aload 0).trans (congrArg (x_aload 0) ((xe_g5 (kk := 109) rfl tl_9_5).trans (congrArg (x_g5 109 100 5) ((xe_g2 (kk := 100) rfl tl_0_3).trans (congrArg (x_g2 100 403) ((xe_iload 2).trans (congrArg (x_iload 2) ((xe_iaload).trans (congrArg (x_iaload) ((xe_iload 3).trans (congrArg (x_iload 3) ((xe_ifCond .eq 76).trans (congrArg (x_ifCond .eq 76 K) ((xe_iconst 40).trans (congrArg (x_iconst 40) (xe_goto 78)))))))))))))))))))))
theorem bk_X9_ask_f_108 : ck_ fX9 (some .int) cX9_ask 108 [.aload 0, .aload 0, .iload 2] 111 = true := qck_r (nn_ _) (by decide +kernel)
theorem bs_X9_ask_f_108 {P : Zt → Option Zv → Prop} (K : Int → Zl → List Zv → Zt → Prop) : sx_ K P [.aload 0, .aload 0, .iload 2] 111 = x_aload 0 (x_aload 0 (x_iload 2 (K 111))) := ((xe_aload 0).trans (congrArg (x_aload 0) ((xe_aload 0).trans (congrArg (x_aload 0) ((xe_iload 2).trans (congrArg (x_iload 2) xe_nil))))))
theorem bk_X9_ask_f_114 : ck_ fX9 (some .int) cX9_ask 114 [.ifCond .eq 121, .iconst 1, .goto 122] 121 = true := qck_r (nn_ _) (by decide +kernel)
theorem bs_X9_ask_f_114 {P : Zt → Option Zv → Prop} (K : Int → Zl → List Zv → Zt → Prop) : sx_ K P [.ifCond .eq 121, .iconst 1, .goto 122] 121 = x_ifCond .eq 121 K (x_iconst 1 (x_goto 122 K)) := ((xe_ifCond .eq 121).trans (congrArg (x_ifCond .eq 121 K) ((xe_iconst 1).trans (congrArg (x_iconst 1) (xe_goto 122)))))
theorem bk_X9_ask_f_121 : ck_ fX9 (some .int) cX9_ask 121 [.iconst 0, .tableswitch 1 9 2 #[], .aload 0, .tableswitch 0 9 2 #[], .ifCond .ne 169, .aload 0, .aload 0, .iload 2] 135 = true := qck_r (nn_ _) (by decide +kernel)
theorem bs_X9_ask_f_121 {P : Zt → Option Zv → Prop} (K : Int → Zl → List Zv → Zt → Prop) : sx_ K P [.iconst 0, .tableswitch 1 9 2 #[], .aload 0, .tableswitch 0 9 2 #[], .ifCond .ne 169, .aload 0, .aload 0, .iload 2] 135 = x_iconst 0 (x_p 109 2 (-1) 2 (x_aload 0 (x_g0 109 2 (-1) 2 (x_ifCond .ne 169 K (x_aload 0 (x_aload 0 (x_iload 2 (K 135)))))))) := ((xe_iconst 0).trans (congrArg (x_iconst 0) ((xe_p (kk := 109) rfl tl_9_2).trans (congrArg (x_p 109 2 (-1) 2) ((xe_aload 0).trans (congrArg (x_aload 0) ((xe_g0 (kk := 109) rfl tl_9_2).trans (congrArg (x_g0 109 2 (-1) 2) ((xe_ifCond .ne 169).trans (congrArg (x_ifCond .ne 169 K) ((xe_aload 0).trans (congrArg (x_aload 0) ((xe_aload 0).trans (congrArg (x_aload 0) ((xe_iload 2).trans (congrArg (x_iload 2) xe_nil))))))))))))))))
theorem bk_X9_ask_f_138 : ck_ fX9 (some .int) cX9_ask 138 [.tableswitch 1 9 3 #[], .goto 169] 144 = true := qck_r (nn_ _) (by decide +kernel)
theorem bs_X9_ask_f_138 {P : Zt → Option Zv → Prop} (K : Int → Zl → List Zv → Zt → Prop) : sx_ K P [.tableswitch 1 9 3 #[], .goto 169] 144 = x_p 109 3 0 4095 (x_goto 169 K) := ((xe_p (kk := 109) rfl tl_9_3).trans (congrArg (x_p 109 3 0 4095) (xe_goto 169)))
theorem bk_X9_ask_f_169 : ck_ fX9 (some .int) cX9_ask 169 [.aload 0, .tableswitch 0 9 2 #[], .ireturn] 174 = true := qck_r (nn_ _) (by decide +kernel)
theorem bs_X9_ask_f_169 {P : Zt → Option Zv → Prop} (K : Int → Zl → List Zv → Zt → Prop) : sx_ K P [.aload 0, .tableswitch 0 9 2 #[], .ireturn] 174 = x_aload 0 (x_g0 109 2 (-1) 2 (x_ireturn P)) := ((xe_aload 0).trans (congrArg (x_aload 0) ((xe_g0 (kk := 109) rfl tl_9_2).trans (congrArg (x_g0 109 2 (-1) 2) (xe_ireturn)))))
theorem bk_X9_ask_f_122 : ck_ fX9 (some .int) cX9_ask 122 [.tableswitch 1 9 2 #[], .aload 0, .tableswitch 0 9 2 #[], .ifCond .ne 169, .aload 0, .aload 0, .iload 2] 135 = true := qck_r (nn_ _) (by decide +kernel)
theorem bs_X9_ask_f_122 {P : Zt → Option Zv → Prop} (K : Int → Zl → List Zv → Zt → Prop) : sx_ K P [.tableswitch 1 9 2 #[], .aload 0, .tableswitch 0 9 2 #[], .ifCond .ne 169, .aload 0, .aload 0, .iload 2] 135 = x_p 109 2 (-1) 2 (x_aload 0 (x_g0 109 2 (-1) 2 (x_ifCond .ne 169 K (x_aload 0 (x_aload 0 (x_iload 2 (K 135))))))) := ((xe_p (kk := 109) rfl tl_9_2).trans (congrArg (x_p 109 2 (-1) 2) ((xe_aload 0).trans (congrArg (x_aload 0) ((xe_g0 (kk := 109) rfl tl_9_2).trans (congrArg (x_g0 109 2 (-1) 2) ((xe_ifCond .ne 169).trans (congrArg (x_ifCond .ne 169 K) ((xe_aload 0).trans (congrArg (x_aload 0) ((xe_aload 0).trans (congrArg (x_aload 0) ((xe_iload 2).trans (congrArg (x_iload 2) xe_nil))))))))))))))
abbrev po_X9_ask_f (T : Zt) (c : Int) (t : Int) : Zt → Option Zv → Prop := fun T' r => ∃ x : Int, r = some (vI x) ∧ fr_ [(109, [5, 3, 9, 6, 2, 15]), (584, []), (588, []), (587, []), (591, []), (592, []), (590, []), (593, []), (594, []), (107, [1]), (542, []), (543, []), (544, []), (545, []), (546, []), (190, []), (191, [0])] T T' ∧ (T' 109 0 15 ≠ 0 → T' 190 (T' 109 0 15 - 1) (-2) = 4096 ∧ 1 ≤ T' 109 0 15) ∧ KPT_ T T' ∧ lh_ T T' ∧ T' 191 0 0 ≤ T 191 0 0 + 1 ∧ AK7_ T T' c t x
set_option maxHeartbeats 4000000 in
theorem ct_X9_ask_f {T : Zt} {c : Int} {t : Int} (hka : KA_ T) (hkm : KM_ T) (hkc : KC_ T) (hks : KS_ T) (hke : KE_ T) (hkw : KW_ T) (hsl : T 109 0 15 ≠ 0 → T 190 (T 109 0 15 - 1) (-2) = 4096 ∧ 1 ≤ T 109 0 15) (h9 : 0 ≤ T 191 0 0 ∧ T 191 0 0 ≤ 900000000) (hc : 0 ≤ c ∧ c < T 106 0 2) (ht : 0 ≤ t ∧ t ≤ 11) (hsk : SK_ T c) (hno : T 100 c 0 = c) (hte : t < T 100 c 5) (hr9 : ∀ w, 1 ≤ w ∧ w ≤ 3 → 0 ≤ T 401 c w ∧ T 401 c w ≤ 9) (hpp : ∀ x, 0 ≤ x → x < T 100 c 5 → -400000 ≤ pp7_ T c x ∧ pp7_ T c x ≤ 400000) (hk9 : ∀ k, 0 ≤ k → k < T 100 c 8 → 0 ≤ T 404 c (T 102 (T 100 c 7 + k) 3) ∧ 0 ≤ T 404 c (T 102 (T 100 c 7 + k) 4) ∧ T 102 (T 100 c 7 + k) 3 ≠ T 102 (T 100 c 7 + k) 4) : Ct_ yX9_ask zX9_ask T [vR 109 0, vR 100 c, vI t] (po_X9_ask_f T c t) := by
  refine ct_of pn_9 rfl rfl (Nat.le_of_ble_eq_true rfl) (fun hT hav => ?_)
  have hr_t : -2147483648 ≤ t ∧ t ≤ 2147483647 := hav (vI t) (List.mem_cons_of_mem _ (List.mem_cons_of_mem _ List.mem_cons_self))
  have hz : zX9_ask.2.2.2.1 = some .boolean → ∀ (T' : Zt) (x : Int), po_X9_ask_f T c t T' (some (vI x)) → 0 ≤ x ∧ x ≤ 1 := fun h => by cases h
  have hw := hkw c hc.1 hc.2
  have hk7 := hkc c hc.1 hc.2
  have hb_competitionCount : 0 ≤ T 106 0 2 ∧ T 106 0 2 ≤ 4 := bd_f hT 106 2 tl_6_2 0
  have hb_matchCount : 0 ≤ T 106 0 4 ∧ T 106 0 4 ≤ 400 := bd_f hT 106 4 tl_6_4 0
  have hb7 : 0 ≤ T 100 c 7 ∧ T 100 c 7 ≤ 400 := bd_f hT 100 7 tl_0_7 c
  have hb8 : 0 ≤ T 100 c 8 ∧ T 100 c 8 ≤ 400 := bd_f hT 100 8 tl_0_8 c
  have hen : 0 ≤ T 100 c 5 ∧ T 100 c 5 ≤ 12 := bd_f hT 100 5 tl_0_5 c
  have hcl : ∀ m, (0 ≤ T 102 m 3 ∧ T 102 m 3 < 12) ∧ 0 ≤ T 102 m 4 ∧ T 102 m 4 < 12 := fun m => ⟨by have y : 0 ≤ T 102 m 3 ∧ T 102 m 3 ≤ 11 := bd_f hT 102 3 tl_2_3 m; omega, by have y : 0 ≤ T 102 m 4 ∧ T 102 m 4 ≤ 11 := bd_f hT 102 4 tl_2_4 m; omega⟩
  show J_ zX9_ask T (po_X9_ask_f T c t) 1 4096 0 [some (vR 109 0), some (vR 100 c), some (vI t), none] [] T
  refine j_blx (F := fX9) tb_X9 (nn_ _) bk_X9_ask_f_0 bs_X9_ask_f_0 hz (fun K hK => ?_)
  refine hK 2 _ [vR 100 c, vR 109 0] T ?_
  refine j_putR (pc := 2) (ci := 9) (j := 5) (by decide) fr5_X9_54 rfl (by decide +kernel) (by omega) (by omega) (by omega) ?_
  refine j_nm (fun U1 hU1 => ?_)
  have e2 := up_f hU1
  show J_ zX9_ask T (po_X9_ask_f T c t) 1 4096 5 _ [] U1
  refine j_blx (F := fX9) tb_X9 (nn_ _) bk_X9_ask_f_5 bs_X9_ask_f_5 hz (fun K hK => ?_)
  refine bd_i (by omega) ?_
  refine x_nm (fun U3 hU3 => ?_)
  have e4 := up_f hU3
  refine hK 15 _ [vI (-1), vR 584 0] U3 ?_
  refine j_callS (y := yJ7_fill_53178) (Yc := zJ7_fill_53178) (rest := []) [vR 584 0, vI (-1)] (ct_J7_fill_584 (T := U3) (by omega)) cl_X9_48 (qd_c (by decide +kernel)) (nn_ _) rfl (rf_of rfl) (Nat.le_of_ble_eq_true rfl) (Nat.le_of_ble_eq_true rfl) (Nat.le_of_ble_eq_true rfl) rfl ?_
  rintro U5 _ ⟨rfl, fU5, qU5o, qU5⟩
  show J_ zX9_ask T (po_X9_ask_f T c t) 1 4096 18 _ [] U5
  refine j_blx (F := fX9) tb_X9 (nn_ _) bk_X9_ask_f_18 bs_X9_ask_f_18 hz (fun K hK => ?_)
  have e7 : U5 109 0 5 = c + 1 := (fU5 109 0 5 rfl).trans ((up_j hU3 (by decide) 109 0).trans (up_f hU1))
  refine And.intro (fun c6 => ?_) (fun c6 => ?_)
  · exact absurd c6 (by omega)
  · have z8 : U5 109 0 5 - 1 = c := by omega
    rw [z8]
    refine ix_i (by omega) ?_
    intro b9 b9b
    have e10 : U5 401 c 1 = T 401 c 1 := (fU5 401 c 1 rfl).trans ((up_k hU3 (by exact Nat.ne_of_beq_eq_false rfl) c 1).trans (up_k hU1 (by exact Nat.ne_of_beq_eq_false rfl) c 1))
    rw [e10] at b9 b9b ⊢
    have e12 : U5 109 0 5 = c + 1 := (fU5 109 0 5 rfl).trans ((up_j hU3 (by decide) 109 0).trans (up_f hU1))
    refine And.intro (fun c11 => ?_) (fun c11 => ?_)
    · exact absurd c11 (by omega)
    · have z13 : U5 109 0 5 - 1 = c := by omega
      rw [z13]
      refine ix_i (by omega) ?_
      intro b14 b14b
      have e15 : U5 401 c 3 = T 401 c 3 := (fU5 401 c 3 rfl).trans ((up_k hU3 (by exact Nat.ne_of_beq_eq_false rfl) c 3).trans (up_k hU1 (by exact Nat.ne_of_beq_eq_false rfl) c 3))
      rw [e15] at b14 b14b ⊢
      refine rg_i (by omega) ?_
      have e17 : U5 109 0 5 = c + 1 := (fU5 109 0 5 rfl).trans ((up_j hU3 (by decide) 109 0).trans (up_f hU1))
      refine And.intro (fun c16 => ?_) (fun c16 => ?_)
      · exact absurd c16 (by omega)
      · have z18 : U5 109 0 5 - 1 = c := by omega
        rw [z18]
        refine ix_i (by omega) ?_
        intro b19 b19b
        have e20 : U5 401 c 2 = T 401 c 2 := (fU5 401 c 2 rfl).trans ((up_k hU3 (by exact Nat.ne_of_beq_eq_false rfl) c 2).trans (up_k hU1 (by exact Nat.ne_of_beq_eq_false rfl) c 2))
        rw [e20] at b19 b19b ⊢
        refine rg_i (by omega) ?_
        refine And.intro (fun c21 => ?_) (fun c21 => ?_)
        · refine hK 55 _ [] U5 ?_
          refine j_blx (F := fX9) tb_X9 (nn_ _) bk_X9_ask_f_55 bs_X9_ask_f_55 hz (fun K hK => ?_)
          have e23 : U5 109 0 5 = c + 1 := (fU5 109 0 5 rfl).trans ((up_j hU3 (by decide) 109 0).trans (up_f hU1))
          refine And.intro (fun c22 => ?_) (fun c22 => ?_)
          · exact absurd c22 (by omega)
          · have z24 : U5 109 0 5 - 1 = c := by omega
            rw [z24]
            refine ix_i (by omega) ?_
            intro b25 b25b
            have e26 : U5 403 c t = T 403 c t := (fU5 403 c t rfl).trans ((up_k hU3 (by exact Nat.ne_of_beq_eq_false rfl) c t).trans (up_k hU1 (by exact Nat.ne_of_beq_eq_false rfl) c t))
            rw [e26] at b25 b25b ⊢
            refine And.intro (fun c27 => ?_) (fun c27 => ?_)
            · refine hK 76 [some (vR 109 0), some (vR 100 c), some (vI t), some (vI 0)] [vI (T 403 c t), vR 109 0] U5 ?_
              refine j_blx (F := fX9) tb_X9 (nn_ _) bk_X9_ask_f_76 bs_X9_ask_f_76 hz (fun K hK => ?_)
              refine hK 78 _ [vI 8, vI (T 403 c t), vR 109 0] U5 ?_
              have e28 : U5 109 0 5 = c + 1 := (fU5 109 0 5 rfl).trans ((up_j hU3 (by decide) 109 0).trans (up_f hU1))
              have yU5 : U5 109 0 5 - 1 = c := by omega
              have e29 : U5 106 0 2 = T 106 0 2 := (fU5 106 0 2 rfl).trans ((up_k hU3 (by exact Nat.ne_of_beq_eq_false rfl) 0 2).trans (up_k hU1 (by exact Nat.ne_of_beq_eq_false rfl) 0 2))
              have e30 : U5 106 0 4 = T 106 0 4 := (fU5 106 0 4 rfl).trans ((up_k hU3 (by exact Nat.ne_of_beq_eq_false rfl) 0 4).trans (up_k hU1 (by exact Nat.ne_of_beq_eq_false rfl) 0 4))
              refine j_callV (y := yX9_listOpen) (Yc := zX9_listOpen) (rest := []) [vI (T 403 c t), vI 8] (ct_X9_listOpen_e (T := U5) (KA__f hka (show fr_ [(109, [5, 3, 9, 6, 2, 15]), (584, []), (588, []), (587, []), (591, []), (592, []), (590, []), (593, []), (594, []), (107, [1]), (542, []), (543, []), (544, []), (545, []), (546, []), (190, []), (191, [0])] T U5 from fr_t (fr_u (fr_u (fr_0 _ _) hU1 rfl) hU3 rfl) (fr_s fU5 rfl)) ⟨fun _ => rfl, fun _ => rfl, rfl, rfl, trivial⟩) (KM__f hkm (show fr_ [(109, [5, 3, 9, 6, 2, 15]), (584, []), (588, []), (587, []), (591, []), (592, []), (590, []), (593, []), (594, []), (107, [1]), (542, []), (543, []), (544, []), (545, []), (546, []), (190, []), (191, [0])] T U5 from fr_t (fr_u (fr_u (fr_0 _ _) hU1 rfl) hU3 rfl) (fr_s fU5 rfl)) ⟨rfl, rfl, rfl, rfl, trivial⟩) (KC__f hkc (show fr_ [(109, [5, 3, 9, 6, 2, 15]), (584, []), (588, []), (587, []), (591, []), (592, []), (590, []), (593, []), (594, []), (107, [1]), (542, []), (543, []), (544, []), (545, []), (546, []), (190, []), (191, [0])] T U5 from fr_t (fr_u (fr_u (fr_0 _ _) hU1 rfl) hU3 rfl) (fr_s fU5 rfl)) ⟨rfl, rfl, rfl, rfl, trivial⟩) (by omega) (by omega)) cl_X9_69 (qd_c (by decide +kernel)) (nn_ _) rfl (rf_of rfl) (Nat.le_of_ble_eq_true rfl) (Nat.le_of_ble_eq_true rfl) (Nat.le_of_ble_eq_true rfl) rfl ?_
              rintro U31 _ ⟨x32, rfl, fU31, qU31⟩
              have rU31 := qU31
              rw [yU5] at rU31
              have x32b : x32 = 0 ∨ x32 = 1 := by rcases rU31 with ⟨z, -⟩ | ⟨z, -⟩ <;> omega
              show J_ zX9_ask T (po_X9_ask_f T c t) 1 4096 81 _ [vI x32] U31
              refine j_blx (F := fX9) tb_X9 (nn_ _) bk_X9_ask_f_81 bs_X9_ask_f_81 hz (fun K hK => ?_)
              refine And.intro (fun c33 => ?_) (fun c33 => ?_)
              · refine hK 94 _ [] U31 ?_
                have e34 : U5 100 c 7 = T 100 c 7 := (fU5 100 c 7 rfl).trans ((up_k hU3 (by exact Nat.ne_of_beq_eq_false rfl) c 7).trans (up_k hU1 (by exact Nat.ne_of_beq_eq_false rfl) c 7))
                have e35 : U5 100 c 8 = T 100 c 8 := (fU5 100 c 8 rfl).trans ((up_k hU3 (by exact Nat.ne_of_beq_eq_false rfl) c 8).trans (up_k hU1 (by exact Nat.ne_of_beq_eq_false rfl) c 8))
                have l9 := rU31.resolve_right (fun z => by have y := z.1; omega)
                have a9 : AS7_ T U5 c := ⟨fr_t (fr_u (fr_u (fr_0 _ _) hU1 rfl) hU3 rfl) (fr_s fU5 rfl), ((fU5 109 _ _ rfl).trans (up_j hU3 (by decide) _ _)).trans (up_f hU1), (fU5 109 _ _ rfl).trans (up_f hU3), qU5⟩
                have o9 := as7_o (V := U31) (b := (T 403 c t)) (n := U31 109 0 9) rfl a9 ⟨by omega, by omega, by omega⟩ l9.2.1.1 l9.2.1.2 l9.2.2.2.1
                have n9 := l9.2.2.2.2
                refine j_ok (fun gokU31 _ => ?_)
                have e36 : U31 109 0 5 = c + 1 := (fU31 109 0 5 rfl).trans ((fU5 109 0 5 rfl).trans ((up_j hU3 (by decide) 109 0).trans (up_f hU1)))
                have yU31 : U31 109 0 5 - 1 = c := by omega
                have c9 : U31 109 0 5 = c + 1 := by omega
                have q9 : Q9_ U31 := q9_of gokU31 hks hkc hc c9 hb7.1 (fun j a b => by have y := o9.2.2 j a b; rw [e34, e35] at y; exact y) (fun i j => (fU31 102 _ _ rfl).trans ((fU5 102 _ _ rfl).trans ((up_k hU3 (by exact Nat.ne_of_beq_eq_false rfl) _ _).trans (up_k hU1 (by exact Nat.ne_of_beq_eq_false rfl) _ _)))) (fun i j => (fU31 404 _ _ rfl).trans ((fU5 404 _ _ rfl).trans ((up_k hU3 (by exact Nat.ne_of_beq_eq_false rfl) _ _).trans (up_k hU1 (by exact Nat.ne_of_beq_eq_false rfl) _ _)))) ((fU31 106 _ _ rfl).trans ((fU5 106 _ _ rfl).trans ((up_k hU3 (by exact Nat.ne_of_beq_eq_false rfl) _ _).trans (up_k hU1 (by exact Nat.ne_of_beq_eq_false rfl) _ _))))
                have s9 := se7_o (V := U31) (U := U5) (T := T) (c := c) (t := t) rfl l9.2.1.1 l9.2.1.2 hsk ⟨ht.1, hte⟩ (fun k hk i j => (show fr_ [(109, [5, 3, 9, 6, 2, 15]), (584, []), (588, []), (587, []), (591, []), (592, []), (590, []), (593, []), (594, []), (107, [1]), (542, []), (543, []), (544, []), (545, []), (546, []), (190, []), (191, [0])] T U5 from fr_t (fr_u (fr_u (fr_0 _ _) hU1 rfl) hU3 rfl) (fr_s fU5 rfl)) k i j (fw_no (List.all_eq_true.mp (show ([100, 102, 103, 404].all fun k => List.all [(109, [5, 3, 9, 6, 2, 15]), (584, []), (588, []), (587, []), (591, []), (592, []), (590, []), (593, []), (594, []), (107, [1]), (542, []), (543, []), (544, []), (545, []), (546, []), (190, []), (191, [0])] fun q => q.1 != k) = true from rfl) k hk) j)) (fun k hk i j => (show fr_ [(109, [5, 3, 9, 6, 2, 15]), (584, []), (588, []), (587, []), (591, []), (592, []), (590, []), (593, []), (594, []), (107, [1]), (542, []), (543, []), (544, []), (545, []), (546, []), (190, []), (191, [0])] T U31 from fr_t (fr_t (fr_u (fr_u (fr_0 _ _) hU1 rfl) hU3 rfl) (fr_s fU5 rfl)) (fr_s fU31 rfl)) k i j (fw_no (List.all_eq_true.mp (show ([100, 102, 103, 404].all fun k => List.all [(109, [5, 3, 9, 6, 2, 15]), (584, []), (588, []), (587, []), (591, []), (592, []), (590, []), (593, []), (594, []), (107, [1]), (542, []), (543, []), (544, []), (545, []), (546, []), (190, []), (191, [0])] fun q => q.1 != k) = true from rfl) k hk) j)) c9 hcl hk9
                refine j_blx (F := fX9) tb_X9 (nn_ _) bk_X9_ask_f_94 bs_X9_ask_f_94 hz (fun K hK => ?_)
                refine hK 96 _ [vI t, vR 109 0] U31 ?_
                have e37 : U31 106 0 2 = T 106 0 2 := (fU31 106 0 2 rfl).trans ((fU5 106 0 2 rfl).trans ((up_k hU3 (by exact Nat.ne_of_beq_eq_false rfl) 0 2).trans (up_k hU1 (by exact Nat.ne_of_beq_eq_false rfl) 0 2)))
                have e38 : U31 106 0 4 = T 106 0 4 := (fU31 106 0 4 rfl).trans ((fU5 106 0 4 rfl).trans ((up_k hU3 (by exact Nat.ne_of_beq_eq_false rfl) 0 4).trans (up_k hU1 (by exact Nat.ne_of_beq_eq_false rfl) 0 4)))
                refine j_callV (y := yX9_takePoints) (Yc := zX9_takePoints) (rest := []) [vI t] (ct_X9_takePoints_e (T := U31) (KA__f hka (show fr_ [(109, [5, 3, 9, 6, 2, 15]), (584, []), (588, []), (587, []), (591, []), (592, []), (590, []), (593, []), (594, []), (107, [1]), (542, []), (543, []), (544, []), (545, []), (546, []), (190, []), (191, [0])] T U31 from fr_t (fr_t (fr_u (fr_u (fr_0 _ _) hU1 rfl) hU3 rfl) (fr_s fU5 rfl)) (fr_s fU31 rfl)) ⟨fun _ => rfl, fun _ => rfl, rfl, rfl, trivial⟩) (KM__f hkm (show fr_ [(109, [5, 3, 9, 6, 2, 15]), (584, []), (588, []), (587, []), (591, []), (592, []), (590, []), (593, []), (594, []), (107, [1]), (542, []), (543, []), (544, []), (545, []), (546, []), (190, []), (191, [0])] T U31 from fr_t (fr_t (fr_u (fr_u (fr_0 _ _) hU1 rfl) hU3 rfl) (fr_s fU5 rfl)) (fr_s fU31 rfl)) ⟨rfl, rfl, rfl, rfl, trivial⟩) (KC__f hkc (show fr_ [(109, [5, 3, 9, 6, 2, 15]), (584, []), (588, []), (587, []), (591, []), (592, []), (590, []), (593, []), (594, []), (107, [1]), (542, []), (543, []), (544, []), (545, []), (546, []), (190, []), (191, [0])] T U31 from fr_t (fr_t (fr_u (fr_u (fr_0 _ _) hU1 rfl) hU3 rfl) (fr_s fU5 rfl)) (fr_s fU31 rfl)) ⟨rfl, rfl, rfl, rfl, trivial⟩) (KS__f hks (show fr_ [(109, [5, 3, 9, 6, 2, 15]), (584, []), (588, []), (587, []), (591, []), (592, []), (590, []), (593, []), (594, []), (107, [1]), (542, []), (543, []), (544, []), (545, []), (546, []), (190, []), (191, [0])] T U31 from fr_t (fr_t (fr_u (fr_u (fr_0 _ _) hU1 rfl) hU3 rfl) (fr_s fU5 rfl)) (fr_s fU31 rfl)) ⟨fun _ => rfl, rfl, rfl, rfl, rfl, rfl, rfl, trivial⟩) (by omega) (by omega) (by rw [yU31]; exact sk7_f hsk (show fr_ [(109, [5, 3, 9, 6, 2, 15]), (584, []), (588, []), (587, []), (591, []), (592, []), (590, []), (593, []), (594, []), (107, [1]), (542, []), (543, []), (544, []), (545, []), (546, []), (190, []), (191, [0])] T U31 from fr_t (fr_t (fr_u (fr_u (fr_0 _ _) hU1 rfl) hU3 rfl) (fr_s fU5 rfl)) (fr_s fU31 rfl)) rfl) (by rw [yU31]; exact ((fU31 100 _ _ rfl).trans ((fU5 100 _ _ rfl).trans ((up_k hU3 (by exact Nat.ne_of_beq_eq_false rfl) _ _).trans (up_k hU1 (by exact Nat.ne_of_beq_eq_false rfl) _ _)))).trans hno)) cl_X9_73 (qd_c (by decide +kernel)) (nn_ _) rfl (rf_of rfl) (Nat.le_of_ble_eq_true rfl) (Nat.le_of_ble_eq_true rfl) (Nat.le_of_ble_eq_true rfl) rfl ?_
                rintro U39 _ ⟨rfl, fU39, pU39, bU39⟩
                have gU39 := pU39
                rw [yU31] at gU39
                show J_ zX9_ask T (po_X9_ask_f T c t) 1 4096 99 _ [] U39
                have e40 : U31 100 c 5 = T 100 c 5 := (fU31 100 c 5 rfl).trans ((fU5 100 c 5 rfl).trans ((up_k hU3 (by exact Nat.ne_of_beq_eq_false rfl) c 5).trans (up_k hU1 (by exact Nat.ne_of_beq_eq_false rfl) c 5)))
                have e41 : U31 100 c 8 = T 100 c 8 := (fU31 100 c 8 rfl).trans ((fU5 100 c 8 rfl).trans ((up_k hU3 (by exact Nat.ne_of_beq_eq_false rfl) c 8).trans (up_k hU1 (by exact Nat.ne_of_beq_eq_false rfl) c 8)))
                refine j_ok (fun gokU39 _ => ?_)
                have e42 : U39 109 0 5 = c + 1 := (fU39 109 0 5 rfl).trans ((fU31 109 0 5 rfl).trans ((fU5 109 0 5 rfl).trans ((up_j hU3 (by decide) 109 0).trans (up_f hU1))))
                have yU39 : U39 109 0 5 - 1 = c := by omega
                have t9 : ∀ x, 0 ≤ x → x < T 100 c 5 → U39 587 0 x = pp7_ T c x + os7_ U31 c t x (U31 100 c 8).toNat ∧ -410000 ≤ U39 587 0 x ∧ U39 587 0 x ≤ 410000 := fun x a b => by
                  have y1 := hpp x a b
                  have y2 := os7_b (T := U31) (c := c) (t := t) (x := x) (fun w hw => by rw [show U31 401 c w = T 401 c w from (fU31 401 _ _ rfl).trans ((fU5 401 _ _ rfl).trans ((up_k hU3 (by exact Nat.ne_of_beq_eq_false rfl) _ _).trans (up_k hU1 (by exact Nat.ne_of_beq_eq_false rfl) _ _)))]; exact hr9 w hw) (U31 100 c 8).toNat
                  have y3 : pp7_ U31 c x = pp7_ T c x := pp7_f (show fr_ [(109, [5, 3, 9, 6, 2, 15]), (584, []), (588, []), (587, []), (591, []), (592, []), (590, []), (593, []), (594, []), (107, [1]), (542, []), (543, []), (544, []), (545, []), (546, []), (190, []), (191, [0])] T U31 from fr_t (fr_t (fr_u (fr_u (fr_0 _ _) hU1 rfl) hU3 rfl) (fr_s fU5 rfl)) (fr_s fU31 rfl)) rfl
                  have y4 : U39 587 0 x = pp7_ U31 c x + os7_ U31 c t x (U31 100 c 8).toNat := pt7_i gokU39 gU39 a (by omega) (by show -1000000 ≤ pp7_ U31 c x + os7_ U31 c t x (U31 100 c 8).toNat ∧ pp7_ U31 c x + os7_ U31 c t x (U31 100 c 8).toNat ≤ 1000000; omega)
                  rw [y3] at y4
                  exact ⟨y4, by omega, by omega⟩
                refine j_blx (F := fX9) tb_X9 (nn_ _) bk_X9_ask_f_99 bs_X9_ask_f_99 hz (fun K hK => ?_)
                refine And.intro (fun c43 => ?_) (fun c43 => ?_)
                · refine hK 144 _ [] U39 ?_
                  refine j_blx (F := fX9) tb_X9 (nn_ _) bk_X9_ask_f_144 bs_X9_ask_f_144 hz (fun K hK => ?_)
                  refine hK 147 _ [vI t, vR 109 0, vR 109 0] U39 ?_
                  have e44 : U39 109 0 5 = c + 1 := (fU39 109 0 5 rfl).trans ((fU31 109 0 5 rfl).trans ((fU5 109 0 5 rfl).trans ((up_j hU3 (by decide) 109 0).trans (up_f hU1))))
                  refine j_callV (y := yX9_noneAbove) (Yc := zX9_noneAbove) (rest := [vR 109 0]) [vI t] (ct_X9_noneAbove_e (T := U39) (by omega)) cl_X9_88 (qd_c (by decide +kernel)) (nn_ _) rfl (rf_of rfl) (Nat.le_of_ble_eq_true rfl) (Nat.le_of_ble_eq_true rfl) (Nat.le_of_ble_eq_true rfl) rfl ?_
                  rintro _ _ ⟨rfl, x45, rfl, na9⟩
                  have x45b : x45 = 0 ∨ x45 = 1 := by rcases na9 with ⟨z, -⟩ | ⟨z, -⟩ <;> omega
                  show J_ zX9_ask T (po_X9_ask_f T c t) 1 4096 150 _ [vI x45, vR 109 0] U39
                  refine j_blx (F := fX9) tb_X9 (nn_ _) bk_X9_ask_f_150 bs_X9_ask_f_150 hz (fun K hK => ?_)
                  refine And.intro (fun c46 => ?_) (fun c46 => ?_)
                  · refine hK 165 _ [vR 109 0] U39 ?_
                    refine j_blx (F := fX9) tb_X9 (nn_ _) bk_X9_ask_f_165 bs_X9_ask_f_165 hz (fun K hK => ?_)
                    refine bd_i (by omega) ?_
                    refine x_nm (fun U47 hU47 => ?_)
                    have e48 := up_f hU47
                    intro b49 b49b
                    have e50 : U47 109 0 2 = 0 := up_f hU47
                    rw [e50] at b49 b49b ⊢
                    refine (show po_X9_ask_f T c t U47 (some (vI 0)) from ?_)
                    have e51 : U47 109 0 15 = T 109 0 15 := (up_j hU47 (by decide) 109 0).trans ((fU39 109 0 15 rfl).trans ((fU31 109 0 15 rfl).trans ((fU5 109 0 15 rfl).trans ((up_j hU3 (by decide) 109 0).trans (up_j hU1 (by decide) 109 0)))))
                    have e52 : U47 191 0 0 = T 191 0 0 := (up_k hU47 (by exact Nat.ne_of_beq_eq_false rfl) 0 0).trans ((fU39 191 0 0 rfl).trans ((fU31 191 0 0 rfl).trans ((fU5 191 0 0 rfl).trans ((up_k hU3 (by exact Nat.ne_of_beq_eq_false rfl) 0 0).trans (up_k hU1 (by exact Nat.ne_of_beq_eq_false rfl) 0 0)))))
                    have e190 : ∀ x, U47 190 x (-2) = T 190 x (-2) := fun x => (up_k hU47 (by exact Nat.ne_of_beq_eq_false rfl) _ _).trans ((fU39 190 _ _ rfl).trans ((fU31 190 _ _ rfl).trans ((fU5 190 _ _ rfl).trans ((up_k hU3 (by exact Nat.ne_of_beq_eq_false rfl) _ _).trans (up_k hU1 (by exact Nat.ne_of_beq_eq_false rfl) _ _)))))
                    have f190 : ∀ x j, U47 190 x j = T 190 x j := fun x j => (up_k hU47 (by exact Nat.ne_of_beq_eq_false rfl) _ _).trans ((fU39 190 _ _ rfl).trans ((fU31 190 _ _ rfl).trans ((fU5 190 _ _ rfl).trans ((up_k hU3 (by exact Nat.ne_of_beq_eq_false rfl) _ _).trans (up_k hU1 (by exact Nat.ne_of_beq_eq_false rfl) _ _)))))
                    have e53 : U47 109 0 15 = T 109 0 15 := (up_j hU47 (by decide) 109 0).trans ((fU39 109 0 15 rfl).trans ((fU31 109 0 15 rfl).trans ((fU5 109 0 15 rfl).trans ((up_j hU3 (by decide) 109 0).trans (up_j hU1 (by decide) 109 0)))))
                    have e54 : U47 191 0 0 = T 191 0 0 := (up_k hU47 (by exact Nat.ne_of_beq_eq_false rfl) 0 0).trans ((fU39 191 0 0 rfl).trans ((fU31 191 0 0 rfl).trans ((fU5 191 0 0 rfl).trans ((up_k hU3 (by exact Nat.ne_of_beq_eq_false rfl) 0 0).trans (up_k hU1 (by exact Nat.ne_of_beq_eq_false rfl) 0 0)))))
                    have x9 : U47 109 0 2 = 0 := up_f hU47
                    have k8 : AK7_ T U47 c t 0 := ⟨U5, U31, x32, 8, a9, Or.inr ⟨by omega, rfl⟩, ⟨_, rfl, fU31, qU31⟩, x9, Or.inr ⟨by omega, U39, fun x a b => (t9 x a b).1, ⟨rfl, fU39, pU39, bU39⟩, Or.inr ⟨rfl, ((up_j hU47 (by decide) _ _).trans ((fU39 109 _ _ rfl).trans ((fU31 109 _ _ rfl).trans (fU5 109 _ _ rfl)))).trans (up_f hU3), x45, ⟨rfl, _, rfl, na9⟩, Or.inl ⟨by omega, rfl, fun j => up_k hU47 (by exact Nat.ne_of_beq_eq_false rfl) _ _⟩⟩⟩⟩
                    exact ⟨_, rfl, fr_u (fr_t (fr_t (fr_t (fr_u (fr_u (fr_0 _ _) hU1 rfl) hU3 rfl) (fr_s fU5 rfl)) (fr_s fU31 rfl)) (fr_s fU39 rfl)) hU47 rfl, by rw [e53, e190]; exact hsl, ⟨fun x j _ _ => f190 x j, by omega⟩, ⟨fun x _ => e190 x, by omega⟩, by omega, k8⟩
                  · refine hK 155 _ [vI 0, vR 109 0, vR 109 0] U39 ?_
                    have ehU39 : hsx_ U39 = hsx_ U31 := funext (hsx_e (show fr_ [(109, [3, 6, 2, 15]), (584, []), (587, []), (591, []), (592, []), (590, []), (593, []), (594, []), (107, [1]), (542, []), (543, []), (544, []), (545, []), (546, []), (190, []), (191, [0])] U31 U39 from fr_t (fr_0 _ _) (fr_s fU39 rfl)) ⟨fun _ _ => rfl, fun _ => rfl, rfl, rfl, rfl, rfl, rfl⟩)
                    have eaU39 : asx_ U39 = asx_ U31 := funext (asx_e (show fr_ [(109, [3, 6, 2, 15]), (584, []), (587, []), (591, []), (592, []), (590, []), (593, []), (594, []), (107, [1]), (542, []), (543, []), (544, []), (545, []), (546, []), (190, []), (191, [0])] U31 U39 from fr_t (fr_0 _ _) (fr_s fU39 rfl)) ⟨fun _ _ => rfl, fun _ => rfl, rfl, rfl, rfl, rfl, rfl⟩)
                    have enU39 : U39 109 0 9 = U31 109 0 9 := fU39 109 _ _ rfl
                    refine j_callV (y := yX9_search) (Yc := zX9_search_8) (rest := [vR 109 0]) [vI 0] (ct_X9_search_e8 (T := U39) (m := T 100 c 5) (q9_f q9 (show fr_ [(109, [3, 6, 2, 15]), (584, []), (587, []), (591, []), (592, []), (590, []), (593, []), (594, []), (107, [1]), (542, []), (543, []), (544, []), (545, []), (546, []), (190, []), (191, [0])] U31 U39 from fr_t (fr_0 _ _) (fr_s fU39 rfl)) ⟨fun _ _ => rfl, fun _ => rfl, rfl, rfl, rfl, rfl, rfl⟩) (KA__f hka (show fr_ [(109, [5, 3, 9, 6, 2, 15]), (584, []), (588, []), (587, []), (591, []), (592, []), (590, []), (593, []), (594, []), (107, [1]), (542, []), (543, []), (544, []), (545, []), (546, []), (190, []), (191, [0])] T U39 from fr_t (fr_t (fr_t (fr_u (fr_u (fr_0 _ _) hU1 rfl) hU3 rfl) (fr_s fU5 rfl)) (fr_s fU31 rfl)) (fr_s fU39 rfl)) ⟨fun _ => rfl, fun _ => rfl, rfl, rfl, trivial⟩) (KM__f hkm (show fr_ [(109, [5, 3, 9, 6, 2, 15]), (584, []), (588, []), (587, []), (591, []), (592, []), (590, []), (593, []), (594, []), (107, [1]), (542, []), (543, []), (544, []), (545, []), (546, []), (190, []), (191, [0])] T U39 from fr_t (fr_t (fr_t (fr_u (fr_u (fr_0 _ _) hU1 rfl) hU3 rfl) (fr_s fU5 rfl)) (fr_s fU31 rfl)) (fr_s fU39 rfl)) ⟨rfl, rfl, rfl, rfl, trivial⟩) (by omega) (by omega) (by rw [enU39]; exact fun i j a b d => by rw [show U39 588 0 i = U31 588 0 i from fU39 588 _ _ rfl, show U39 588 0 j = U31 588 0 j from fU39 588 _ _ rfl]; exact o9.1 i j a b d) (by rw [enU39]; exact fun i a b => by rw [show U39 588 0 i = U31 588 0 i from fU39 588 _ _ rfl, show ∀ y, U39 584 0 y = U31 584 0 y from fun y => fU39 584 _ _ rfl]; exact o9.2.1 i a b) (fun v a b => by have y := t9 v a b; omega) (by rw [yU39]; exact fun w hw => by show 0 ≤ U39 401 c w ∧ U39 401 c w ≤ 1000; rw [show U39 401 c w = T 401 c w from (fU39 401 _ _ rfl).trans ((fU31 401 _ _ rfl).trans ((fU5 401 _ _ rfl).trans ((up_k hU3 (by exact Nat.ne_of_beq_eq_false rfl) _ _).trans (up_k hU1 (by exact Nat.ne_of_beq_eq_false rfl) _ _))))]; have y := hr9 w hw; omega) (by rw [ehU39, eaU39, enU39]; exact fun i a b => ⟨(s9 i a b).1.1.2, (s9 i a b).1.2.2⟩)) cl_X9_91_zX9_search_8 (qd_c (by decide +kernel)) (nn_ _) rfl (rf_of rfl) (Nat.le_of_ble_eq_true rfl) (Nat.le_of_ble_eq_true rfl) (Nat.le_of_ble_eq_true rfl) rfl ?_
                    rintro U55 _ ⟨x56, rfl, fU55, qU55⟩
                    have x56b : x56 = 0 ∨ x56 = 1 := by rcases qU55.1 with ⟨z, -⟩ | ⟨z, -⟩ <;> omega
                    show J_ zX9_ask T (po_X9_ask_f T c t) 1 4096 158 _ [vI x56, vR 109 0] U55
                    refine j_blx (F := fX9) tb_X9 (nn_ _) bk_X9_ask_f_158 bs_X9_ask_f_158 hz (fun K hK => ?_)
                    refine And.intro (fun c57 => ?_) (fun c57 => ?_)
                    · refine hK 165 _ [vR 109 0] U55 ?_
                      refine j_blx (F := fX9) tb_X9 (nn_ _) bk_X9_ask_f_165 bs_X9_ask_f_165 hz (fun K hK => ?_)
                      refine bd_i (by omega) ?_
                      refine x_nm (fun U58 hU58 => ?_)
                      have e59 := up_f hU58
                      intro b60 b60b
                      have e61 : U58 109 0 2 = 0 := up_f hU58
                      rw [e61] at b60 b60b ⊢
                      refine (show po_X9_ask_f T c t U58 (some (vI 0)) from ?_)
                      have e62 : U58 109 0 15 = T 109 0 15 := (up_j hU58 (by decide) 109 0).trans ((fU55 109 0 15 rfl).trans ((fU39 109 0 15 rfl).trans ((fU31 109 0 15 rfl).trans ((fU5 109 0 15 rfl).trans ((up_j hU3 (by decide) 109 0).trans (up_j hU1 (by decide) 109 0))))))
                      have e63 : U58 191 0 0 = T 191 0 0 := (up_k hU58 (by exact Nat.ne_of_beq_eq_false rfl) 0 0).trans ((fU55 191 0 0 rfl).trans ((fU39 191 0 0 rfl).trans ((fU31 191 0 0 rfl).trans ((fU5 191 0 0 rfl).trans ((up_k hU3 (by exact Nat.ne_of_beq_eq_false rfl) 0 0).trans (up_k hU1 (by exact Nat.ne_of_beq_eq_false rfl) 0 0))))))
                      have e190 : ∀ x, U58 190 x (-2) = T 190 x (-2) := fun x => (up_k hU58 (by exact Nat.ne_of_beq_eq_false rfl) _ _).trans ((fU55 190 _ _ rfl).trans ((fU39 190 _ _ rfl).trans ((fU31 190 _ _ rfl).trans ((fU5 190 _ _ rfl).trans ((up_k hU3 (by exact Nat.ne_of_beq_eq_false rfl) _ _).trans (up_k hU1 (by exact Nat.ne_of_beq_eq_false rfl) _ _))))))
                      have f190 : ∀ x j, U58 190 x j = T 190 x j := fun x j => (up_k hU58 (by exact Nat.ne_of_beq_eq_false rfl) _ _).trans ((fU55 190 _ _ rfl).trans ((fU39 190 _ _ rfl).trans ((fU31 190 _ _ rfl).trans ((fU5 190 _ _ rfl).trans ((up_k hU3 (by exact Nat.ne_of_beq_eq_false rfl) _ _).trans (up_k hU1 (by exact Nat.ne_of_beq_eq_false rfl) _ _))))))
                      have e64 : U58 109 0 15 = T 109 0 15 := (up_j hU58 (by decide) 109 0).trans ((fU55 109 0 15 rfl).trans ((fU39 109 0 15 rfl).trans ((fU31 109 0 15 rfl).trans ((fU5 109 0 15 rfl).trans ((up_j hU3 (by decide) 109 0).trans (up_j hU1 (by decide) 109 0))))))
                      have e65 : U58 191 0 0 = T 191 0 0 := (up_k hU58 (by exact Nat.ne_of_beq_eq_false rfl) 0 0).trans ((fU55 191 0 0 rfl).trans ((fU39 191 0 0 rfl).trans ((fU31 191 0 0 rfl).trans ((fU5 191 0 0 rfl).trans ((up_k hU3 (by exact Nat.ne_of_beq_eq_false rfl) 0 0).trans (up_k hU1 (by exact Nat.ne_of_beq_eq_false rfl) 0 0))))))
                      have x9 : U58 109 0 2 = 0 := up_f hU58
                      have z9 : x56 = 0 := by omega
                      have k8 : AK7_ T U58 c t 0 := ⟨U5, U31, x32, 8, a9, Or.inr ⟨by omega, rfl⟩, ⟨_, rfl, fU31, qU31⟩, x9, Or.inr ⟨by omega, U39, fun x a b => (t9 x a b).1, ⟨rfl, fU39, pU39, bU39⟩, Or.inr ⟨rfl, ((up_j hU58 (by decide) _ _).trans ((fU55 109 _ _ rfl).trans ((fU39 109 _ _ rfl).trans ((fU31 109 _ _ rfl).trans (fU5 109 _ _ rfl))))).trans (up_f hU3), x45, ⟨rfl, _, rfl, na9⟩, Or.inr ⟨by omega, U55, ⟨_, congrArg (fun q => some (vI q)) z9.symm, fU55, qU55⟩, fun j => up_k hU58 (by exact Nat.ne_of_beq_eq_false rfl) _ _⟩⟩⟩⟩
                      exact ⟨_, rfl, fr_u (fr_t (fr_t (fr_t (fr_t (fr_u (fr_u (fr_0 _ _) hU1 rfl) hU3 rfl) (fr_s fU5 rfl)) (fr_s fU31 rfl)) (fr_s fU39 rfl)) (fr_s fU55 rfl)) hU58 rfl, by rw [e64, e190]; exact hsl, ⟨fun x j _ _ => f190 x j, by omega⟩, ⟨fun x _ => e190 x, by omega⟩, by omega, k8⟩
                    · refine hK 166 _ [vI 1, vR 109 0] U55 ?_
                      refine j_blx (F := fX9) tb_X9 (nn_ _) bk_X9_ask_f_166 bs_X9_ask_f_166 hz (fun K hK => ?_)
                      refine bd_i (by omega) ?_
                      refine x_nm (fun U66 hU66 => ?_)
                      have e67 := up_f hU66
                      intro b68 b68b
                      have e69 : U66 109 0 2 = 1 := up_f hU66
                      rw [e69] at b68 b68b ⊢
                      refine (show po_X9_ask_f T c t U66 (some (vI 1)) from ?_)
                      have e70 : U66 109 0 15 = T 109 0 15 := (up_j hU66 (by decide) 109 0).trans ((fU55 109 0 15 rfl).trans ((fU39 109 0 15 rfl).trans ((fU31 109 0 15 rfl).trans ((fU5 109 0 15 rfl).trans ((up_j hU3 (by decide) 109 0).trans (up_j hU1 (by decide) 109 0))))))
                      have e71 : U66 191 0 0 = T 191 0 0 := (up_k hU66 (by exact Nat.ne_of_beq_eq_false rfl) 0 0).trans ((fU55 191 0 0 rfl).trans ((fU39 191 0 0 rfl).trans ((fU31 191 0 0 rfl).trans ((fU5 191 0 0 rfl).trans ((up_k hU3 (by exact Nat.ne_of_beq_eq_false rfl) 0 0).trans (up_k hU1 (by exact Nat.ne_of_beq_eq_false rfl) 0 0))))))
                      have e190 : ∀ x, U66 190 x (-2) = T 190 x (-2) := fun x => (up_k hU66 (by exact Nat.ne_of_beq_eq_false rfl) _ _).trans ((fU55 190 _ _ rfl).trans ((fU39 190 _ _ rfl).trans ((fU31 190 _ _ rfl).trans ((fU5 190 _ _ rfl).trans ((up_k hU3 (by exact Nat.ne_of_beq_eq_false rfl) _ _).trans (up_k hU1 (by exact Nat.ne_of_beq_eq_false rfl) _ _))))))
                      have f190 : ∀ x j, U66 190 x j = T 190 x j := fun x j => (up_k hU66 (by exact Nat.ne_of_beq_eq_false rfl) _ _).trans ((fU55 190 _ _ rfl).trans ((fU39 190 _ _ rfl).trans ((fU31 190 _ _ rfl).trans ((fU5 190 _ _ rfl).trans ((up_k hU3 (by exact Nat.ne_of_beq_eq_false rfl) _ _).trans (up_k hU1 (by exact Nat.ne_of_beq_eq_false rfl) _ _))))))
                      have e72 : U66 109 0 15 = T 109 0 15 := (up_j hU66 (by decide) 109 0).trans ((fU55 109 0 15 rfl).trans ((fU39 109 0 15 rfl).trans ((fU31 109 0 15 rfl).trans ((fU5 109 0 15 rfl).trans ((up_j hU3 (by decide) 109 0).trans (up_j hU1 (by decide) 109 0))))))
                      have e73 : U66 191 0 0 = T 191 0 0 := (up_k hU66 (by exact Nat.ne_of_beq_eq_false rfl) 0 0).trans ((fU55 191 0 0 rfl).trans ((fU39 191 0 0 rfl).trans ((fU31 191 0 0 rfl).trans ((fU5 191 0 0 rfl).trans ((up_k hU3 (by exact Nat.ne_of_beq_eq_false rfl) 0 0).trans (up_k hU1 (by exact Nat.ne_of_beq_eq_false rfl) 0 0))))))
                      have x9 : U66 109 0 2 = 1 := up_f hU66
                      have z9 : x56 = 1 := by omega
                      have k8 : AK7_ T U66 c t 1 := ⟨U5, U31, x32, 8, a9, Or.inr ⟨by omega, rfl⟩, ⟨_, rfl, fU31, qU31⟩, x9, Or.inr ⟨by omega, U39, fun x a b => (t9 x a b).1, ⟨rfl, fU39, pU39, bU39⟩, Or.inr ⟨rfl, ((up_j hU66 (by decide) _ _).trans ((fU55 109 _ _ rfl).trans ((fU39 109 _ _ rfl).trans ((fU31 109 _ _ rfl).trans (fU5 109 _ _ rfl))))).trans (up_f hU3), x45, ⟨rfl, _, rfl, na9⟩, Or.inr ⟨by omega, U55, ⟨_, congrArg (fun q => some (vI q)) z9.symm, fU55, qU55⟩, fun j => up_k hU66 (by exact Nat.ne_of_beq_eq_false rfl) _ _⟩⟩⟩⟩
                      exact ⟨_, rfl, fr_u (fr_t (fr_t (fr_t (fr_t (fr_u (fr_u (fr_0 _ _) hU1 rfl) hU3 rfl) (fr_s fU5 rfl)) (fr_s fU31 rfl)) (fr_s fU39 rfl)) (fr_s fU55 rfl)) hU66 rfl, by rw [e72, e190]; exact hsl, ⟨fun x j _ _ => f190 x j, by omega⟩, ⟨fun x _ => e190 x, by omega⟩, by omega, k8⟩
                · exact absurd c43 (by decide)
              · refine bd_i (by omega) ?_
                refine x_nm (fun U74 hU74 => ?_)
                have e75 := up_f hU74
                intro b76 b76b
                have e77 : U74 109 0 2 = 2 := up_f hU74
                rw [e77] at b76 b76b ⊢
                refine (show po_X9_ask_f T c t U74 (some (vI 2)) from ?_)
                have e78 : U74 109 0 15 = T 109 0 15 := (up_j hU74 (by decide) 109 0).trans ((fU31 109 0 15 rfl).trans ((fU5 109 0 15 rfl).trans ((up_j hU3 (by decide) 109 0).trans (up_j hU1 (by decide) 109 0))))
                have e79 : U74 191 0 0 = T 191 0 0 := (up_k hU74 (by exact Nat.ne_of_beq_eq_false rfl) 0 0).trans ((fU31 191 0 0 rfl).trans ((fU5 191 0 0 rfl).trans ((up_k hU3 (by exact Nat.ne_of_beq_eq_false rfl) 0 0).trans (up_k hU1 (by exact Nat.ne_of_beq_eq_false rfl) 0 0))))
                have e190 : ∀ x, U74 190 x (-2) = T 190 x (-2) := fun x => (up_k hU74 (by exact Nat.ne_of_beq_eq_false rfl) _ _).trans ((fU31 190 _ _ rfl).trans ((fU5 190 _ _ rfl).trans ((up_k hU3 (by exact Nat.ne_of_beq_eq_false rfl) _ _).trans (up_k hU1 (by exact Nat.ne_of_beq_eq_false rfl) _ _))))
                have f190 : ∀ x j, U74 190 x j = T 190 x j := fun x j => (up_k hU74 (by exact Nat.ne_of_beq_eq_false rfl) _ _).trans ((fU31 190 _ _ rfl).trans ((fU5 190 _ _ rfl).trans ((up_k hU3 (by exact Nat.ne_of_beq_eq_false rfl) _ _).trans (up_k hU1 (by exact Nat.ne_of_beq_eq_false rfl) _ _))))
                have e80 : U74 109 0 15 = T 109 0 15 := (up_j hU74 (by decide) 109 0).trans ((fU31 109 0 15 rfl).trans ((fU5 109 0 15 rfl).trans ((up_j hU3 (by decide) 109 0).trans (up_j hU1 (by decide) 109 0))))
                have e81 : U74 191 0 0 = T 191 0 0 := (up_k hU74 (by exact Nat.ne_of_beq_eq_false rfl) 0 0).trans ((fU31 191 0 0 rfl).trans ((fU5 191 0 0 rfl).trans ((up_k hU3 (by exact Nat.ne_of_beq_eq_false rfl) 0 0).trans (up_k hU1 (by exact Nat.ne_of_beq_eq_false rfl) 0 0))))
                have a9 : AS7_ T U5 c := ⟨fr_t (fr_u (fr_u (fr_0 _ _) hU1 rfl) hU3 rfl) (fr_s fU5 rfl), ((fU5 109 _ _ rfl).trans (up_j hU3 (by decide) _ _)).trans (up_f hU1), (fU5 109 _ _ rfl).trans (up_f hU3), qU5⟩
                have x9 : U74 109 0 2 = 2 := up_f hU74
                have k8 : AK7_ T U74 c t 2 := ⟨U5, U31, x32, 8, a9, Or.inr ⟨by omega, rfl⟩, ⟨_, rfl, fU31, qU31⟩, x9, Or.inl ⟨by omega, rfl, ((up_j hU74 (by decide) _ _).trans ((fU31 109 _ _ rfl).trans (fU5 109 _ _ rfl))).trans (up_f hU3), fun j => up_k hU74 (by exact Nat.ne_of_beq_eq_false rfl) _ _⟩⟩
                exact ⟨_, rfl, fr_u (fr_t (fr_t (fr_u (fr_u (fr_0 _ _) hU1 rfl) hU3 rfl) (fr_s fU5 rfl)) (fr_s fU31 rfl)) hU74 rfl, by rw [e80, e190]; exact hsl, ⟨fun x j _ _ => f190 x j, by omega⟩, ⟨fun x _ => e190 x, by omega⟩, by omega, k8⟩
            · exact absurd c27 (by decide)
        · refine hK 56 _ [vI 1] U5 ?_
          refine j_blx (F := fX9) tb_X9 (nn_ _) bk_X9_ask_f_56 bs_X9_ask_f_56 hz (fun K hK => ?_)
          have e83 : U5 109 0 5 = c + 1 := (fU5 109 0 5 rfl).trans ((up_j hU3 (by decide) 109 0).trans (up_f hU1))
          refine And.intro (fun c82 => ?_) (fun c82 => ?_)
          · exact absurd c82 (by omega)
          · have z84 : U5 109 0 5 - 1 = c := by omega
            rw [z84]
            refine ix_i (by omega) ?_
            intro b85 b85b
            have e86 : U5 403 c t = T 403 c t := (fU5 403 c t rfl).trans ((up_k hU3 (by exact Nat.ne_of_beq_eq_false rfl) c t).trans (up_k hU1 (by exact Nat.ne_of_beq_eq_false rfl) c t))
            rw [e86] at b85 b85b ⊢
            refine And.intro (fun c87 => ?_) (fun c87 => ?_)
            · exact absurd c87 (by decide)
            · refine hK 78 [some (vR 109 0), some (vR 100 c), some (vI t), some (vI 1)] [vI 40, vI (T 403 c t), vR 109 0] U5 ?_
              have e88 : U5 109 0 5 = c + 1 := (fU5 109 0 5 rfl).trans ((up_j hU3 (by decide) 109 0).trans (up_f hU1))
              have yU5 : U5 109 0 5 - 1 = c := by omega
              have e89 : U5 106 0 2 = T 106 0 2 := (fU5 106 0 2 rfl).trans ((up_k hU3 (by exact Nat.ne_of_beq_eq_false rfl) 0 2).trans (up_k hU1 (by exact Nat.ne_of_beq_eq_false rfl) 0 2))
              have e90 : U5 106 0 4 = T 106 0 4 := (fU5 106 0 4 rfl).trans ((up_k hU3 (by exact Nat.ne_of_beq_eq_false rfl) 0 4).trans (up_k hU1 (by exact Nat.ne_of_beq_eq_false rfl) 0 4))
              refine j_callV (y := yX9_listOpen) (Yc := zX9_listOpen) (rest := []) [vI (T 403 c t), vI 40] (ct_X9_listOpen_e (T := U5) (KA__f hka (show fr_ [(109, [5, 3, 9, 6, 2, 15]), (584, []), (588, []), (587, []), (591, []), (592, []), (590, []), (593, []), (594, []), (107, [1]), (542, []), (543, []), (544, []), (545, []), (546, []), (190, []), (191, [0])] T U5 from fr_t (fr_u (fr_u (fr_0 _ _) hU1 rfl) hU3 rfl) (fr_s fU5 rfl)) ⟨fun _ => rfl, fun _ => rfl, rfl, rfl, trivial⟩) (KM__f hkm (show fr_ [(109, [5, 3, 9, 6, 2, 15]), (584, []), (588, []), (587, []), (591, []), (592, []), (590, []), (593, []), (594, []), (107, [1]), (542, []), (543, []), (544, []), (545, []), (546, []), (190, []), (191, [0])] T U5 from fr_t (fr_u (fr_u (fr_0 _ _) hU1 rfl) hU3 rfl) (fr_s fU5 rfl)) ⟨rfl, rfl, rfl, rfl, trivial⟩) (KC__f hkc (show fr_ [(109, [5, 3, 9, 6, 2, 15]), (584, []), (588, []), (587, []), (591, []), (592, []), (590, []), (593, []), (594, []), (107, [1]), (542, []), (543, []), (544, []), (545, []), (546, []), (190, []), (191, [0])] T U5 from fr_t (fr_u (fr_u (fr_0 _ _) hU1 rfl) hU3 rfl) (fr_s fU5 rfl)) ⟨rfl, rfl, rfl, rfl, trivial⟩) (by omega) (by omega)) cl_X9_69 (qd_c (by decide +kernel)) (nn_ _) rfl (rf_of rfl) (Nat.le_of_ble_eq_true rfl) (Nat.le_of_ble_eq_true rfl) (Nat.le_of_ble_eq_true rfl) rfl ?_
              rintro U91 _ ⟨x92, rfl, fU91, qU91⟩
              have rU91 := qU91
              rw [yU5] at rU91
              have x92b : x92 = 0 ∨ x92 = 1 := by rcases rU91 with ⟨z, -⟩ | ⟨z, -⟩ <;> omega
              show J_ zX9_ask T (po_X9_ask_f T c t) 1 4096 81 _ [vI x92] U91
              refine j_blx (F := fX9) tb_X9 (nn_ _) bk_X9_ask_f_81 bs_X9_ask_f_81 hz (fun K hK => ?_)
              refine And.intro (fun c93 => ?_) (fun c93 => ?_)
              · refine hK 94 _ [] U91 ?_
                have e94 : U5 100 c 7 = T 100 c 7 := (fU5 100 c 7 rfl).trans ((up_k hU3 (by exact Nat.ne_of_beq_eq_false rfl) c 7).trans (up_k hU1 (by exact Nat.ne_of_beq_eq_false rfl) c 7))
                have e95 : U5 100 c 8 = T 100 c 8 := (fU5 100 c 8 rfl).trans ((up_k hU3 (by exact Nat.ne_of_beq_eq_false rfl) c 8).trans (up_k hU1 (by exact Nat.ne_of_beq_eq_false rfl) c 8))
                have l9 := rU91.resolve_right (fun z => by have y := z.1; omega)
                have a9 : AS7_ T U5 c := ⟨fr_t (fr_u (fr_u (fr_0 _ _) hU1 rfl) hU3 rfl) (fr_s fU5 rfl), ((fU5 109 _ _ rfl).trans (up_j hU3 (by decide) _ _)).trans (up_f hU1), (fU5 109 _ _ rfl).trans (up_f hU3), qU5⟩
                have o9 := as7_o (V := U91) (b := (T 403 c t)) (n := U91 109 0 9) rfl a9 ⟨by omega, by omega, by omega⟩ l9.2.1.1 l9.2.1.2 l9.2.2.2.1
                have n9 := l9.2.2.2.2
                refine j_ok (fun gokU91 _ => ?_)
                have e96 : U91 109 0 5 = c + 1 := (fU91 109 0 5 rfl).trans ((fU5 109 0 5 rfl).trans ((up_j hU3 (by decide) 109 0).trans (up_f hU1)))
                have yU91 : U91 109 0 5 - 1 = c := by omega
                have c9 : U91 109 0 5 = c + 1 := by omega
                have q9 : Q9_ U91 := q9_of gokU91 hks hkc hc c9 hb7.1 (fun j a b => by have y := o9.2.2 j a b; rw [e94, e95] at y; exact y) (fun i j => (fU91 102 _ _ rfl).trans ((fU5 102 _ _ rfl).trans ((up_k hU3 (by exact Nat.ne_of_beq_eq_false rfl) _ _).trans (up_k hU1 (by exact Nat.ne_of_beq_eq_false rfl) _ _)))) (fun i j => (fU91 404 _ _ rfl).trans ((fU5 404 _ _ rfl).trans ((up_k hU3 (by exact Nat.ne_of_beq_eq_false rfl) _ _).trans (up_k hU1 (by exact Nat.ne_of_beq_eq_false rfl) _ _)))) ((fU91 106 _ _ rfl).trans ((fU5 106 _ _ rfl).trans ((up_k hU3 (by exact Nat.ne_of_beq_eq_false rfl) _ _).trans (up_k hU1 (by exact Nat.ne_of_beq_eq_false rfl) _ _))))
                have s9 := se7_o (V := U91) (U := U5) (T := T) (c := c) (t := t) rfl l9.2.1.1 l9.2.1.2 hsk ⟨ht.1, hte⟩ (fun k hk i j => (show fr_ [(109, [5, 3, 9, 6, 2, 15]), (584, []), (588, []), (587, []), (591, []), (592, []), (590, []), (593, []), (594, []), (107, [1]), (542, []), (543, []), (544, []), (545, []), (546, []), (190, []), (191, [0])] T U5 from fr_t (fr_u (fr_u (fr_0 _ _) hU1 rfl) hU3 rfl) (fr_s fU5 rfl)) k i j (fw_no (List.all_eq_true.mp (show ([100, 102, 103, 404].all fun k => List.all [(109, [5, 3, 9, 6, 2, 15]), (584, []), (588, []), (587, []), (591, []), (592, []), (590, []), (593, []), (594, []), (107, [1]), (542, []), (543, []), (544, []), (545, []), (546, []), (190, []), (191, [0])] fun q => q.1 != k) = true from rfl) k hk) j)) (fun k hk i j => (show fr_ [(109, [5, 3, 9, 6, 2, 15]), (584, []), (588, []), (587, []), (591, []), (592, []), (590, []), (593, []), (594, []), (107, [1]), (542, []), (543, []), (544, []), (545, []), (546, []), (190, []), (191, [0])] T U91 from fr_t (fr_t (fr_u (fr_u (fr_0 _ _) hU1 rfl) hU3 rfl) (fr_s fU5 rfl)) (fr_s fU91 rfl)) k i j (fw_no (List.all_eq_true.mp (show ([100, 102, 103, 404].all fun k => List.all [(109, [5, 3, 9, 6, 2, 15]), (584, []), (588, []), (587, []), (591, []), (592, []), (590, []), (593, []), (594, []), (107, [1]), (542, []), (543, []), (544, []), (545, []), (546, []), (190, []), (191, [0])] fun q => q.1 != k) = true from rfl) k hk) j)) c9 hcl hk9
                refine j_blx (F := fX9) tb_X9 (nn_ _) bk_X9_ask_f_94 bs_X9_ask_f_94 hz (fun K hK => ?_)
                refine hK 96 _ [vI t, vR 109 0] U91 ?_
                have e97 : U91 106 0 2 = T 106 0 2 := (fU91 106 0 2 rfl).trans ((fU5 106 0 2 rfl).trans ((up_k hU3 (by exact Nat.ne_of_beq_eq_false rfl) 0 2).trans (up_k hU1 (by exact Nat.ne_of_beq_eq_false rfl) 0 2)))
                have e98 : U91 106 0 4 = T 106 0 4 := (fU91 106 0 4 rfl).trans ((fU5 106 0 4 rfl).trans ((up_k hU3 (by exact Nat.ne_of_beq_eq_false rfl) 0 4).trans (up_k hU1 (by exact Nat.ne_of_beq_eq_false rfl) 0 4)))
                refine j_callV (y := yX9_takePoints) (Yc := zX9_takePoints) (rest := []) [vI t] (ct_X9_takePoints_e (T := U91) (KA__f hka (show fr_ [(109, [5, 3, 9, 6, 2, 15]), (584, []), (588, []), (587, []), (591, []), (592, []), (590, []), (593, []), (594, []), (107, [1]), (542, []), (543, []), (544, []), (545, []), (546, []), (190, []), (191, [0])] T U91 from fr_t (fr_t (fr_u (fr_u (fr_0 _ _) hU1 rfl) hU3 rfl) (fr_s fU5 rfl)) (fr_s fU91 rfl)) ⟨fun _ => rfl, fun _ => rfl, rfl, rfl, trivial⟩) (KM__f hkm (show fr_ [(109, [5, 3, 9, 6, 2, 15]), (584, []), (588, []), (587, []), (591, []), (592, []), (590, []), (593, []), (594, []), (107, [1]), (542, []), (543, []), (544, []), (545, []), (546, []), (190, []), (191, [0])] T U91 from fr_t (fr_t (fr_u (fr_u (fr_0 _ _) hU1 rfl) hU3 rfl) (fr_s fU5 rfl)) (fr_s fU91 rfl)) ⟨rfl, rfl, rfl, rfl, trivial⟩) (KC__f hkc (show fr_ [(109, [5, 3, 9, 6, 2, 15]), (584, []), (588, []), (587, []), (591, []), (592, []), (590, []), (593, []), (594, []), (107, [1]), (542, []), (543, []), (544, []), (545, []), (546, []), (190, []), (191, [0])] T U91 from fr_t (fr_t (fr_u (fr_u (fr_0 _ _) hU1 rfl) hU3 rfl) (fr_s fU5 rfl)) (fr_s fU91 rfl)) ⟨rfl, rfl, rfl, rfl, trivial⟩) (KS__f hks (show fr_ [(109, [5, 3, 9, 6, 2, 15]), (584, []), (588, []), (587, []), (591, []), (592, []), (590, []), (593, []), (594, []), (107, [1]), (542, []), (543, []), (544, []), (545, []), (546, []), (190, []), (191, [0])] T U91 from fr_t (fr_t (fr_u (fr_u (fr_0 _ _) hU1 rfl) hU3 rfl) (fr_s fU5 rfl)) (fr_s fU91 rfl)) ⟨fun _ => rfl, rfl, rfl, rfl, rfl, rfl, rfl, trivial⟩) (by omega) (by omega) (by rw [yU91]; exact sk7_f hsk (show fr_ [(109, [5, 3, 9, 6, 2, 15]), (584, []), (588, []), (587, []), (591, []), (592, []), (590, []), (593, []), (594, []), (107, [1]), (542, []), (543, []), (544, []), (545, []), (546, []), (190, []), (191, [0])] T U91 from fr_t (fr_t (fr_u (fr_u (fr_0 _ _) hU1 rfl) hU3 rfl) (fr_s fU5 rfl)) (fr_s fU91 rfl)) rfl) (by rw [yU91]; exact ((fU91 100 _ _ rfl).trans ((fU5 100 _ _ rfl).trans ((up_k hU3 (by exact Nat.ne_of_beq_eq_false rfl) _ _).trans (up_k hU1 (by exact Nat.ne_of_beq_eq_false rfl) _ _)))).trans hno)) cl_X9_73 (qd_c (by decide +kernel)) (nn_ _) rfl (rf_of rfl) (Nat.le_of_ble_eq_true rfl) (Nat.le_of_ble_eq_true rfl) (Nat.le_of_ble_eq_true rfl) rfl ?_
                rintro U99 _ ⟨rfl, fU99, pU99, bU99⟩
                have gU99 := pU99
                rw [yU91] at gU99
                show J_ zX9_ask T (po_X9_ask_f T c t) 1 4096 99 _ [] U99
                have e100 : U91 100 c 5 = T 100 c 5 := (fU91 100 c 5 rfl).trans ((fU5 100 c 5 rfl).trans ((up_k hU3 (by exact Nat.ne_of_beq_eq_false rfl) c 5).trans (up_k hU1 (by exact Nat.ne_of_beq_eq_false rfl) c 5)))
                have e101 : U91 100 c 8 = T 100 c 8 := (fU91 100 c 8 rfl).trans ((fU5 100 c 8 rfl).trans ((up_k hU3 (by exact Nat.ne_of_beq_eq_false rfl) c 8).trans (up_k hU1 (by exact Nat.ne_of_beq_eq_false rfl) c 8)))
                refine j_ok (fun gokU99 _ => ?_)
                have e102 : U99 109 0 5 = c + 1 := (fU99 109 0 5 rfl).trans ((fU91 109 0 5 rfl).trans ((fU5 109 0 5 rfl).trans ((up_j hU3 (by decide) 109 0).trans (up_f hU1))))
                have yU99 : U99 109 0 5 - 1 = c := by omega
                have t9 : ∀ x, 0 ≤ x → x < T 100 c 5 → U99 587 0 x = pp7_ T c x + os7_ U91 c t x (U91 100 c 8).toNat ∧ -410000 ≤ U99 587 0 x ∧ U99 587 0 x ≤ 410000 := fun x a b => by
                  have y1 := hpp x a b
                  have y2 := os7_b (T := U91) (c := c) (t := t) (x := x) (fun w hw => by rw [show U91 401 c w = T 401 c w from (fU91 401 _ _ rfl).trans ((fU5 401 _ _ rfl).trans ((up_k hU3 (by exact Nat.ne_of_beq_eq_false rfl) _ _).trans (up_k hU1 (by exact Nat.ne_of_beq_eq_false rfl) _ _)))]; exact hr9 w hw) (U91 100 c 8).toNat
                  have y3 : pp7_ U91 c x = pp7_ T c x := pp7_f (show fr_ [(109, [5, 3, 9, 6, 2, 15]), (584, []), (588, []), (587, []), (591, []), (592, []), (590, []), (593, []), (594, []), (107, [1]), (542, []), (543, []), (544, []), (545, []), (546, []), (190, []), (191, [0])] T U91 from fr_t (fr_t (fr_u (fr_u (fr_0 _ _) hU1 rfl) hU3 rfl) (fr_s fU5 rfl)) (fr_s fU91 rfl)) rfl
                  have y4 : U99 587 0 x = pp7_ U91 c x + os7_ U91 c t x (U91 100 c 8).toNat := pt7_i gokU99 gU99 a (by omega) (by show -1000000 ≤ pp7_ U91 c x + os7_ U91 c t x (U91 100 c 8).toNat ∧ pp7_ U91 c x + os7_ U91 c t x (U91 100 c 8).toNat ≤ 1000000; omega)
                  rw [y3] at y4
                  exact ⟨y4, by omega, by omega⟩
                refine j_blx (F := fX9) tb_X9 (nn_ _) bk_X9_ask_f_99 bs_X9_ask_f_99 hz (fun K hK => ?_)
                refine And.intro (fun c103 => ?_) (fun c103 => ?_)
                · exact absurd c103 (by decide)
                · refine hK 105 _ [vI t, vR 109 0] U99 ?_
                  have e104 : U99 401 c 1 = T 401 c 1 := (fU99 401 c 1 rfl).trans ((fU91 401 c 1 rfl).trans ((fU5 401 c 1 rfl).trans ((up_k hU3 (by exact Nat.ne_of_beq_eq_false rfl) c 1).trans (up_k hU1 (by exact Nat.ne_of_beq_eq_false rfl) c 1))))
                  have e105 : U99 401 c 2 = T 401 c 2 := (fU99 401 c 2 rfl).trans ((fU91 401 c 2 rfl).trans ((fU5 401 c 2 rfl).trans ((up_k hU3 (by exact Nat.ne_of_beq_eq_false rfl) c 2).trans (up_k hU1 (by exact Nat.ne_of_beq_eq_false rfl) c 2))))
                  refine j_callV (y := yX9_setCaps) (Yc := zX9_setCaps) (rest := []) [vI t] (ct_X9_setCaps_e (T := U99) (q9_f q9 (show fr_ [(109, [3, 6, 2, 15]), (584, []), (587, []), (591, []), (592, []), (590, []), (593, []), (594, []), (107, [1]), (542, []), (543, []), (544, []), (545, []), (546, []), (190, []), (191, [0])] U91 U99 from fr_t (fr_0 _ _) (fr_s fU99 rfl)) ⟨fun _ _ => rfl, fun _ => rfl, rfl, rfl, rfl, rfl, rfl⟩) (KA__f hka (show fr_ [(109, [5, 3, 9, 6, 2, 15]), (584, []), (588, []), (587, []), (591, []), (592, []), (590, []), (593, []), (594, []), (107, [1]), (542, []), (543, []), (544, []), (545, []), (546, []), (190, []), (191, [0])] T U99 from fr_t (fr_t (fr_t (fr_u (fr_u (fr_0 _ _) hU1 rfl) hU3 rfl) (fr_s fU5 rfl)) (fr_s fU91 rfl)) (fr_s fU99 rfl)) ⟨fun _ => rfl, fun _ => rfl, rfl, rfl, trivial⟩) (by rw [yU99]; omega) (by omega)) cl_X9_77 (qd_c (by decide +kernel)) (nn_ _) rfl (rf_of rfl) (Nat.le_of_ble_eq_true rfl) (Nat.le_of_ble_eq_true rfl) (Nat.le_of_ble_eq_true rfl) rfl ?_
                  rintro U106 _ ⟨rfl, fU106, cU106, dU106, zU106⟩
                  have kU106 := cU106
                  have wU106 := zU106
                  rw [yU99] at kU106 wU106
                  show J_ zX9_ask T (po_X9_ask_f T c t) 1 4096 108 _ [] U106
                  refine j_blx (F := fX9) tb_X9 (nn_ _) bk_X9_ask_f_108 bs_X9_ask_f_108 hz (fun K hK => ?_)
                  refine hK 111 _ [vI t, vR 109 0, vR 109 0] U106 ?_
                  have ehU106 : hsx_ U106 = hsx_ U91 := funext (hsx_e (show fr_ [(109, [3, 6, 2, 15]), (584, []), (587, []), (591, []), (592, []), (590, []), (593, []), (594, []), (107, [1]), (542, []), (543, []), (544, []), (545, []), (546, []), (190, []), (191, [0])] U91 U106 from fr_t (fr_t (fr_0 _ _) (fr_s fU99 rfl)) (fr_s fU106 rfl)) ⟨fun _ _ => rfl, fun _ => rfl, rfl, rfl, rfl, rfl, rfl⟩)
                  have eaU106 : asx_ U106 = asx_ U91 := funext (asx_e (show fr_ [(109, [3, 6, 2, 15]), (584, []), (587, []), (591, []), (592, []), (590, []), (593, []), (594, []), (107, [1]), (542, []), (543, []), (544, []), (545, []), (546, []), (190, []), (191, [0])] U91 U106 from fr_t (fr_t (fr_0 _ _) (fr_s fU99 rfl)) (fr_s fU106 rfl)) ⟨fun _ _ => rfl, fun _ => rfl, rfl, rfl, rfl, rfl, rfl⟩)
                  have enU106 : U106 109 0 9 = U91 109 0 9 := (fU106 109 _ _ rfl).trans (fU99 109 _ _ rfl)
                  have e107 : U106 109 0 5 = c + 1 := (fU106 109 0 5 rfl).trans ((fU99 109 0 5 rfl).trans ((fU91 109 0 5 rfl).trans ((fU5 109 0 5 rfl).trans ((up_j hU3 (by decide) 109 0).trans (up_f hU1)))))
                  have yU106 : U106 109 0 5 - 1 = c := by omega
                  have e108 : U99 401 c 1 = T 401 c 1 := (fU99 401 c 1 rfl).trans ((fU91 401 c 1 rfl).trans ((fU5 401 c 1 rfl).trans ((up_k hU3 (by exact Nat.ne_of_beq_eq_false rfl) c 1).trans (up_k hU1 (by exact Nat.ne_of_beq_eq_false rfl) c 1))))
                  have e109 : U99 401 c 2 = T 401 c 2 := (fU99 401 c 2 rfl).trans ((fU91 401 c 2 rfl).trans ((fU5 401 c 2 rfl).trans ((up_k hU3 (by exact Nat.ne_of_beq_eq_false rfl) c 2).trans (up_k hU1 (by exact Nat.ne_of_beq_eq_false rfl) c 2))))
                  have e110 : U99 401 c 3 = T 401 c 3 := (fU99 401 c 3 rfl).trans ((fU91 401 c 3 rfl).trans ((fU5 401 c 3 rfl).trans ((up_k hU3 (by exact Nat.ne_of_beq_eq_false rfl) c 3).trans (up_k hU1 (by exact Nat.ne_of_beq_eq_false rfl) c 3))))
                  have e111 : U99 100 c 5 = T 100 c 5 := (fU99 100 c 5 rfl).trans ((fU91 100 c 5 rfl).trans ((fU5 100 c 5 rfl).trans ((up_k hU3 (by exact Nat.ne_of_beq_eq_false rfl) c 5).trans (up_k hU1 (by exact Nat.ne_of_beq_eq_false rfl) c 5))))
                  have bo9 : 0 ≤ U99 109 0 9 ∧ U99 109 0 9 ≤ 40 := bd_f gokU99 109 9 tl_9_9 0
                  have k9 : ∀ v, 0 ≤ v → v < T 100 c 5 → -1 ≤ U106 591 0 v ∧ U106 591 0 v ≤ 1000000 := fun v a b => by
                    by_cases z : v = t
                    · rw [z, dU106]
                      exact ⟨by decide, by decide⟩
                    · rw [kU106 v a (by omega) z]
                      have y1 := t9 v a b
                      have y2 := t9 t ht.1 hte
                      have y4 := hr9 1 ⟨by decide, by decide⟩
                      have y5 := hr9 2 ⟨by decide, by decide⟩
                      have y6 := hr9 3 ⟨by decide, by decide⟩
                      have y3 := ls7_b (T := U99) (c := c) (x := v) ⟨by omega, by omega⟩ (U99 109 0 9).toNat
                      rw [wr_9 (x := U99 109 0 6 - U99 587 0 v - ls7_ U99 c v (U99 109 0 9).toNat) (by omega)]
                      exact cq7_b ⟨by omega, by omega⟩ (by omega)
                  refine j_callV (y := yX9_spreadParts) (Yc := zX9_spreadParts) (rest := [vR 109 0]) [vI t] (ct_X9_spreadParts_e (T := U106) (m := T 100 c 5) (q9_f q9 (show fr_ [(109, [3, 6, 2, 15]), (584, []), (587, []), (591, []), (592, []), (590, []), (593, []), (594, []), (107, [1]), (542, []), (543, []), (544, []), (545, []), (546, []), (190, []), (191, [0])] U91 U106 from fr_t (fr_t (fr_0 _ _) (fr_s fU99 rfl)) (fr_s fU106 rfl)) ⟨fun _ _ => rfl, fun _ => rfl, rfl, rfl, rfl, rfl, rfl⟩) (KA__f hka (show fr_ [(109, [5, 3, 9, 6, 2, 15]), (584, []), (588, []), (587, []), (591, []), (592, []), (590, []), (593, []), (594, []), (107, [1]), (542, []), (543, []), (544, []), (545, []), (546, []), (190, []), (191, [0])] T U106 from fr_t (fr_t (fr_t (fr_t (fr_u (fr_u (fr_0 _ _) hU1 rfl) hU3 rfl) (fr_s fU5 rfl)) (fr_s fU91 rfl)) (fr_s fU99 rfl)) (fr_s fU106 rfl)) ⟨fun _ => rfl, fun _ => rfl, rfl, rfl, trivial⟩) ⟨ht.1, hte⟩ (by omega) (by rw [ehU106, eaU106, enU106]; exact fun k a b => (s9 k a b).2.2) (by rw [ehU106, eaU106, enU106]; exact fun k a b => (s9 k a b).1) (by rw [yU106]; exact (fU106 100 _ _ rfl).trans ((fU99 100 _ _ rfl).trans ((fU91 100 _ _ rfl).trans ((fU5 100 _ _ rfl).trans ((up_k hU3 (by exact Nat.ne_of_beq_eq_false rfl) _ _).trans (up_k hU1 (by exact Nat.ne_of_beq_eq_false rfl) _ _)))))) (fun v a b => wU106 v a (by omega)) dU106 (by rw [ehU106, eaU106, enU106]; exact fun k a b => (s9 k a b).2.1) k9 (by rw [enU106]; exact fun i j a b d => by rw [show U106 588 0 i = U91 588 0 i from (fU106 588 _ _ rfl).trans (fU99 588 _ _ rfl), show U106 588 0 j = U91 588 0 j from (fU106 588 _ _ rfl).trans (fU99 588 _ _ rfl)]; exact o9.1 i j a b d)) cl_X9_80 (qd_c (by decide +kernel)) (nn_ _) rfl (rf_of rfl) (Nat.le_of_ble_eq_true rfl) (Nat.le_of_ble_eq_true rfl) (Nat.le_of_ble_eq_true rfl) rfl ?_
                  rintro U112 _ ⟨x113, rfl, fU112, qU112⟩
                  have x113b : x113 = 0 ∨ x113 = 1 := by rcases qU112 with ⟨z, -⟩ | ⟨z, -⟩ <;> omega
                  show J_ zX9_ask T (po_X9_ask_f T c t) 1 4096 114 _ [vI x113, vR 109 0] U112
                  refine j_blx (F := fX9) tb_X9 (nn_ _) bk_X9_ask_f_114 bs_X9_ask_f_114 hz (fun K hK => ?_)
                  refine And.intro (fun c114 => ?_) (fun c114 => ?_)
                  · refine hK 121 _ [vR 109 0] U112 ?_
                    refine j_blx (F := fX9) tb_X9 (nn_ _) bk_X9_ask_f_121 bs_X9_ask_f_121 hz (fun K hK => ?_)
                    refine bd_i (by omega) ?_
                    refine x_nm (fun U115 hU115 => ?_)
                    have e116 := up_f hU115
                    intro b117 b117b
                    have e118 : U115 109 0 2 = 0 := up_f hU115
                    rw [e118] at b117 b117b ⊢
                    refine And.intro (fun c119 => ?_) (fun c119 => ?_)
                    · exact absurd c119 (by decide)
                    · refine hK 135 _ [vI t, vR 109 0, vR 109 0] U115 ?_
                      have e120 : U115 109 0 5 = c + 1 := (up_j hU115 (by decide) 109 0).trans ((fU112 109 0 5 rfl).trans ((fU106 109 0 5 rfl).trans ((fU99 109 0 5 rfl).trans ((fU91 109 0 5 rfl).trans ((fU5 109 0 5 rfl).trans ((up_j hU3 (by decide) 109 0).trans (up_f hU1)))))))
                      have yU115 : U115 109 0 5 - 1 = c := by omega
                      have e121 : U115 106 0 2 = T 106 0 2 := (up_k hU115 (by exact Nat.ne_of_beq_eq_false rfl) 0 2).trans ((fU112 106 0 2 rfl).trans ((fU106 106 0 2 rfl).trans ((fU99 106 0 2 rfl).trans ((fU91 106 0 2 rfl).trans ((fU5 106 0 2 rfl).trans ((up_k hU3 (by exact Nat.ne_of_beq_eq_false rfl) 0 2).trans (up_k hU1 (by exact Nat.ne_of_beq_eq_false rfl) 0 2)))))))
                      have e122 : U115 106 0 4 = T 106 0 4 := (up_k hU115 (by exact Nat.ne_of_beq_eq_false rfl) 0 4).trans ((fU112 106 0 4 rfl).trans ((fU106 106 0 4 rfl).trans ((fU99 106 0 4 rfl).trans ((fU91 106 0 4 rfl).trans ((fU5 106 0 4 rfl).trans ((up_k hU3 (by exact Nat.ne_of_beq_eq_false rfl) 0 4).trans (up_k hU1 (by exact Nat.ne_of_beq_eq_false rfl) 0 4)))))))
                      have e123 : U115 109 0 15 = T 109 0 15 := (up_j hU115 (by decide) 109 0).trans ((fU112 109 0 15 rfl).trans ((fU106 109 0 15 rfl).trans ((fU99 109 0 15 rfl).trans ((fU91 109 0 15 rfl).trans ((fU5 109 0 15 rfl).trans ((up_j hU3 (by decide) 109 0).trans (up_j hU1 (by decide) 109 0)))))))
                      have e124 : U115 191 0 0 = T 191 0 0 := (up_k hU115 (by exact Nat.ne_of_beq_eq_false rfl) 0 0).trans ((fU112 191 0 0 rfl).trans ((fU106 191 0 0 rfl).trans ((fU99 191 0 0 rfl).trans ((fU91 191 0 0 rfl).trans ((fU5 191 0 0 rfl).trans ((up_k hU3 (by exact Nat.ne_of_beq_eq_false rfl) 0 0).trans (up_k hU1 (by exact Nat.ne_of_beq_eq_false rfl) 0 0)))))))
                      have hcp9 : ∀ x, 0 ≤ x → x < U115 100 (U115 109 0 5 - 1) 5 → -1 ≤ U115 591 0 x ∧ U115 591 0 x ≤ 1000000 := by
                        rw [yU115]
                        intro x a b
                        rw [show U115 591 0 x = U106 591 0 x from (up_k hU115 (by exact Nat.ne_of_beq_eq_false rfl) _ _).trans (fU112 591 _ _ rfl)]
                        exact k9 x a (by rw [show U115 100 c 5 = T 100 c 5 from (up_k hU115 (by exact Nat.ne_of_beq_eq_false rfl) _ _).trans ((fU112 100 _ _ rfl).trans ((fU106 100 _ _ rfl).trans ((fU99 100 _ _ rfl).trans ((fU91 100 _ _ rfl).trans ((fU5 100 _ _ rfl).trans ((up_k hU3 (by exact Nat.ne_of_beq_eq_false rfl) _ _).trans (up_k hU1 (by exact Nat.ne_of_beq_eq_false rfl) _ _)))))))] at b; exact b)
                      have hpr9 : ∀ k : Int, 0 ≤ k → k < U115 109 0 9 → ((0 ≤ U115 102 (U115 588 0 k) 3 ∧ U115 102 (U115 588 0 k) 3 < 12) ∧ 0 ≤ U115 102 (U115 588 0 k) 4 ∧ U115 102 (U115 588 0 k) 4 < 12) ∧ U115 102 (U115 588 0 k) 3 ≠ U115 102 (U115 588 0 k) 4 := fun k a b => by
                        rw [show U115 109 0 9 = U91 109 0 9 from (up_j hU115 (by decide) _ _).trans ((fU112 109 _ _ rfl).trans ((fU106 109 _ _ rfl).trans (fU99 109 _ _ rfl)))] at b
                        have y9 := o9.2.2 k a b
                        rw [e94, e95] at y9
                        have z9 := (hk9 (U91 588 0 k - T 100 c 7) (by omega) (by omega)).2.2
                        rw [show T 100 c 7 + (U91 588 0 k - T 100 c 7) = U91 588 0 k by omega] at z9
                        rw [show U115 588 0 k = U91 588 0 k from (up_k hU115 (by exact Nat.ne_of_beq_eq_false rfl) _ _).trans ((fU112 588 _ _ rfl).trans ((fU106 588 _ _ rfl).trans (fU99 588 _ _ rfl))), show ∀ i j, U115 102 i j = T 102 i j from fun i j => (up_k hU115 (by exact Nat.ne_of_beq_eq_false rfl) _ _).trans ((fU112 102 _ _ rfl).trans ((fU106 102 _ _ rfl).trans ((fU99 102 _ _ rfl).trans ((fU91 102 _ _ rfl).trans ((fU5 102 _ _ rfl).trans ((up_k hU3 (by exact Nat.ne_of_beq_eq_false rfl) _ _).trans (up_k hU1 (by exact Nat.ne_of_beq_eq_false rfl) _ _)))))))]
                        rw [show ∀ i j, U115 102 i j = T 102 i j from fun i j => (up_k hU115 (by exact Nat.ne_of_beq_eq_false rfl) _ _).trans ((fU112 102 _ _ rfl).trans ((fU106 102 _ _ rfl).trans ((fU99 102 _ _ rfl).trans ((fU91 102 _ _ rfl).trans ((fU5 102 _ _ rfl).trans ((up_k hU3 (by exact Nat.ne_of_beq_eq_false rfl) _ _).trans (up_k hU1 (by exact Nat.ne_of_beq_eq_false rfl) _ _)))))))]
                        exact ⟨hcl _, z9⟩
                      refine j_callV (y := yX9_leastCut) (Yc := zX9_leastCut) (rest := [vR 109 0]) [vI t] (ct_X9_leastCut_g (T := U115) (q9_f q9 (show fr_ [(109, [3, 6, 2, 15]), (584, []), (587, []), (591, []), (592, []), (590, []), (593, []), (594, []), (107, [1]), (542, []), (543, []), (544, []), (545, []), (546, []), (190, []), (191, [0])] U91 U115 from fr_u (fr_t (fr_t (fr_t (fr_0 _ _) (fr_s fU99 rfl)) (fr_s fU106 rfl)) (fr_s fU112 rfl)) hU115 rfl) ⟨fun _ _ => rfl, fun _ => rfl, rfl, rfl, rfl, rfl, rfl⟩) (KA__f hka (show fr_ [(109, [5, 3, 9, 6, 2, 15]), (584, []), (588, []), (587, []), (591, []), (592, []), (590, []), (593, []), (594, []), (107, [1]), (542, []), (543, []), (544, []), (545, []), (546, []), (190, []), (191, [0])] T U115 from fr_u (fr_t (fr_t (fr_t (fr_t (fr_t (fr_u (fr_u (fr_0 _ _) hU1 rfl) hU3 rfl) (fr_s fU5 rfl)) (fr_s fU91 rfl)) (fr_s fU99 rfl)) (fr_s fU106 rfl)) (fr_s fU112 rfl)) hU115 rfl) ⟨fun _ => rfl, fun _ => rfl, rfl, rfl, trivial⟩) (by rw [yU115]; exact sk7_f hsk (show fr_ [(109, [5, 3, 9, 6, 2, 15]), (584, []), (588, []), (587, []), (591, []), (592, []), (590, []), (593, []), (594, []), (107, [1]), (542, []), (543, []), (544, []), (545, []), (546, []), (190, []), (191, [0])] T U115 from fr_u (fr_t (fr_t (fr_t (fr_t (fr_t (fr_u (fr_u (fr_0 _ _) hU1 rfl) hU3 rfl) (fr_s fU5 rfl)) (fr_s fU91 rfl)) (fr_s fU99 rfl)) (fr_s fU106 rfl)) (fr_s fU112 rfl)) hU115 rfl) rfl) hcp9 hpr9 (by rw [yU115]; exact KEc_f (hke c (by omega) (by omega)) (show fr_ [(109, [5, 3, 9, 6, 2, 15]), (584, []), (588, []), (587, []), (591, []), (592, []), (590, []), (593, []), (594, []), (107, [1]), (542, []), (543, []), (544, []), (545, []), (546, []), (190, []), (191, [0])] T U115 from fr_u (fr_t (fr_t (fr_t (fr_t (fr_t (fr_u (fr_u (fr_0 _ _) hU1 rfl) hU3 rfl) (fr_s fU5 rfl)) (fr_s fU91 rfl)) (fr_s fU99 rfl)) (fr_s fU106 rfl)) (fr_s fU112 rfl)) hU115 rfl) ⟨rfl, fun _ => rfl, fun _ => rfl⟩) (by rw [e123, show ∀ x, U115 190 x (-2) = T 190 x (-2) from fun x => (up_k hU115 (by exact Nat.ne_of_beq_eq_false rfl) _ _).trans ((fU112 190 _ _ rfl).trans ((fU106 190 _ _ rfl).trans ((fU99 190 _ _ rfl).trans ((fU91 190 _ _ rfl).trans ((fU5 190 _ _ rfl).trans ((up_k hU3 (by exact Nat.ne_of_beq_eq_false rfl) _ _).trans (up_k hU1 (by exact Nat.ne_of_beq_eq_false rfl) _ _)))))))]; exact hsl) (by omega)) cl_X9_84 (qd_c (by decide +kernel)) (nn_ _) rfl (rf_of rfl) (Nat.le_of_ble_eq_true rfl) (Nat.le_of_ble_eq_true rfl) (Nat.le_of_ble_eq_true rfl) rfl ?_
                      rintro U125 _ ⟨x126, rfl, fU125, hU125, slU125, kpU125, lhU125, mU125, pxU125⟩
                      rw [yU115] at pxU125
                      show J_ zX9_ask T (po_X9_ask_f T c t) 0 0 138 _ [vI x126, vR 109 0] U125
                      refine j_blx (F := fX9) tb_X9 (nn_ _) bk_X9_ask_f_138 bs_X9_ask_f_138 hz (fun K hK => ?_)
                      refine bd_i (by omega) ?_
                      refine x_nm (fun U127 hU127 => ?_)
                      have e128 := up_f hU127
                      refine hK 169 _ [] U127 ?_
                      refine j_blx (F := fX9) tb_X9 (nn_ _) bk_X9_ask_f_169 bs_X9_ask_f_169 hz (fun K hK => ?_)
                      intro b129 b129b
                      have e130 : U127 109 0 2 = 0 := (up_j hU127 (by decide) 109 0).trans ((fU125 109 0 2 rfl).trans (up_f hU115))
                      rw [e130] at b129 b129b ⊢
                      refine (show po_X9_ask_f T c t U127 (some (vI 0)) from ?_)
                      have e131 : U127 109 0 15 = U125 109 0 15 := up_j hU127 (by decide) 109 0
                      have e132 : U127 191 0 0 = U125 191 0 0 := up_k hU127 (by exact Nat.ne_of_beq_eq_false rfl) 0 0
                      have e190 : ∀ x, U127 190 x (-2) = U125 190 x (-2) := fun x => up_k hU127 (by exact Nat.ne_of_beq_eq_false rfl) _ _
                      have f190 : ∀ x j, U127 190 x j = U125 190 x j := fun x j => up_k hU127 (by exact Nat.ne_of_beq_eq_false rfl) _ _
                      have e15 : U127 109 0 15 = U125 109 0 15 := up_j hU127 (by decide) _ _
                      have e91 : U127 191 0 0 = U125 191 0 0 := up_k hU127 (by exact Nat.ne_of_beq_eq_false rfl) _ _
                      have e92 : U115 191 0 0 = T 191 0 0 := (up_k hU115 (by exact Nat.ne_of_beq_eq_false rfl) _ _).trans ((fU112 191 _ _ rfl).trans ((fU106 191 _ _ rfl).trans ((fU99 191 _ _ rfl).trans ((fU91 191 _ _ rfl).trans ((fU5 191 _ _ rfl).trans ((up_k hU3 (by exact Nat.ne_of_beq_eq_false rfl) _ _).trans (up_k hU1 (by exact Nat.ne_of_beq_eq_false rfl) _ _)))))))
                      have e93 : ∀ x, U115 190 x (-2) = T 190 x (-2) := fun x => (up_k hU115 (by exact Nat.ne_of_beq_eq_false rfl) _ _).trans ((fU112 190 _ _ rfl).trans ((fU106 190 _ _ rfl).trans ((fU99 190 _ _ rfl).trans ((fU91 190 _ _ rfl).trans ((fU5 190 _ _ rfl).trans ((up_k hU3 (by exact Nat.ne_of_beq_eq_false rfl) _ _).trans (up_k hU1 (by exact Nat.ne_of_beq_eq_false rfl) _ _)))))))
                      have f193 : ∀ x j, U115 190 x j = T 190 x j := fun x j => (up_k hU115 (by exact Nat.ne_of_beq_eq_false rfl) _ _).trans ((fU112 190 _ _ rfl).trans ((fU106 190 _ _ rfl).trans ((fU99 190 _ _ rfl).trans ((fU91 190 _ _ rfl).trans ((fU5 190 _ _ rfl).trans ((up_k hU3 (by exact Nat.ne_of_beq_eq_false rfl) _ _).trans (up_k hU1 (by exact Nat.ne_of_beq_eq_false rfl) _ _)))))))
                      have e94 : U115 109 0 15 = T 109 0 15 := (up_j hU115 (by decide) _ _).trans ((fU112 109 _ _ rfl).trans ((fU106 109 _ _ rfl).trans ((fU99 109 _ _ rfl).trans ((fU91 109 _ _ rfl).trans ((fU5 109 _ _ rfl).trans ((up_j hU3 (by decide) _ _).trans (up_j hU1 (by decide) _ _)))))))
                      have kp9 : KPT_ T U127 := ⟨fun x j hx hn => (f190 x j).trans ((kpU125.1 x j (by omega) (by omega)).trans (f193 x j)), by have y6 := kpU125.2; omega⟩
                      have x9 : U127 109 0 2 = 0 := ((up_j hU127 (by decide) _ _).trans (fU125 109 _ _ rfl)).trans (up_f hU115)
                      have z9 : x113 = 0 := by omega
                      have cc9 : U127 109 0 3 = x126 := up_f hU127
                      have ck9 : CK7_ U112 U127 c t 0 := fun _ => ⟨U115, fun k i j h9 => up_k hU115 (by omega) i j, up_j hU115 (by decide) _ _, by rw [cc9]; exact pxU125⟩
                      have k8 : AK7_ T U127 c t 0 := ⟨U5, U91, x92, 40, a9, Or.inl ⟨by omega, rfl⟩, ⟨_, rfl, fU91, qU91⟩, x9, Or.inr ⟨by omega, U99, fun x a b => (t9 x a b).1, ⟨rfl, fU99, pU99, bU99⟩, Or.inl ⟨rfl, U106, U112, ⟨rfl, fU106, cU106, dU106, zU106⟩, ⟨_, congrArg (fun q => some (vI q)) z9.symm, fU112, qU112⟩, fun z => absurd z (by decide), fun j => (up_k hU127 (by exact Nat.ne_of_beq_eq_false rfl) _ _).trans ((fU125 584 _ _ rfl).trans (up_k hU115 (by exact Nat.ne_of_beq_eq_false rfl) _ _)), ck9⟩⟩⟩
                      exact ⟨_, rfl, fr_u (fr_t (fr_u (fr_t (fr_t (fr_t (fr_t (fr_t (fr_u (fr_u (fr_0 _ _) hU1 rfl) hU3 rfl) (fr_s fU5 rfl)) (fr_s fU91 rfl)) (fr_s fU99 rfl)) (fr_s fU106 rfl)) (fr_s fU112 rfl)) hU115 rfl) (fr_s fU125 rfl)) hU127 rfl, by rw [e15, e190]; exact slU125, kp9, lh_t (lh_t ⟨fun x _ => e93 x, by omega⟩ lhU125) ⟨fun x _ => e190 x, by omega⟩, by have := mU125; omega, k8⟩
                  · refine hK 122 _ [vI 1, vR 109 0] U112 ?_
                    refine j_blx (F := fX9) tb_X9 (nn_ _) bk_X9_ask_f_122 bs_X9_ask_f_122 hz (fun K hK => ?_)
                    refine bd_i (by omega) ?_
                    refine x_nm (fun U133 hU133 => ?_)
                    have e134 := up_f hU133
                    intro b135 b135b
                    have e136 : U133 109 0 2 = 1 := up_f hU133
                    rw [e136] at b135 b135b ⊢
                    refine And.intro (fun c137 => ?_) (fun c137 => ?_)
                    · refine hK 169 _ [] U133 ?_
                      refine j_blx (F := fX9) tb_X9 (nn_ _) bk_X9_ask_f_169 bs_X9_ask_f_169 hz (fun K hK => ?_)
                      intro b138 b138b
                      have e139 : U133 109 0 2 = 1 := up_f hU133
                      rw [e139] at b138 b138b ⊢
                      refine (show po_X9_ask_f T c t U133 (some (vI 1)) from ?_)
                      have e140 : U133 109 0 15 = T 109 0 15 := (up_j hU133 (by decide) 109 0).trans ((fU112 109 0 15 rfl).trans ((fU106 109 0 15 rfl).trans ((fU99 109 0 15 rfl).trans ((fU91 109 0 15 rfl).trans ((fU5 109 0 15 rfl).trans ((up_j hU3 (by decide) 109 0).trans (up_j hU1 (by decide) 109 0)))))))
                      have e141 : U133 191 0 0 = T 191 0 0 := (up_k hU133 (by exact Nat.ne_of_beq_eq_false rfl) 0 0).trans ((fU112 191 0 0 rfl).trans ((fU106 191 0 0 rfl).trans ((fU99 191 0 0 rfl).trans ((fU91 191 0 0 rfl).trans ((fU5 191 0 0 rfl).trans ((up_k hU3 (by exact Nat.ne_of_beq_eq_false rfl) 0 0).trans (up_k hU1 (by exact Nat.ne_of_beq_eq_false rfl) 0 0)))))))
                      have e190 : ∀ x, U133 190 x (-2) = T 190 x (-2) := fun x => (up_k hU133 (by exact Nat.ne_of_beq_eq_false rfl) _ _).trans ((fU112 190 _ _ rfl).trans ((fU106 190 _ _ rfl).trans ((fU99 190 _ _ rfl).trans ((fU91 190 _ _ rfl).trans ((fU5 190 _ _ rfl).trans ((up_k hU3 (by exact Nat.ne_of_beq_eq_false rfl) _ _).trans (up_k hU1 (by exact Nat.ne_of_beq_eq_false rfl) _ _)))))))
                      have f190 : ∀ x j, U133 190 x j = T 190 x j := fun x j => (up_k hU133 (by exact Nat.ne_of_beq_eq_false rfl) _ _).trans ((fU112 190 _ _ rfl).trans ((fU106 190 _ _ rfl).trans ((fU99 190 _ _ rfl).trans ((fU91 190 _ _ rfl).trans ((fU5 190 _ _ rfl).trans ((up_k hU3 (by exact Nat.ne_of_beq_eq_false rfl) _ _).trans (up_k hU1 (by exact Nat.ne_of_beq_eq_false rfl) _ _)))))))
                      have e142 : U133 109 0 15 = T 109 0 15 := (up_j hU133 (by decide) 109 0).trans ((fU112 109 0 15 rfl).trans ((fU106 109 0 15 rfl).trans ((fU99 109 0 15 rfl).trans ((fU91 109 0 15 rfl).trans ((fU5 109 0 15 rfl).trans ((up_j hU3 (by decide) 109 0).trans (up_j hU1 (by decide) 109 0)))))))
                      have e143 : U133 191 0 0 = T 191 0 0 := (up_k hU133 (by exact Nat.ne_of_beq_eq_false rfl) 0 0).trans ((fU112 191 0 0 rfl).trans ((fU106 191 0 0 rfl).trans ((fU99 191 0 0 rfl).trans ((fU91 191 0 0 rfl).trans ((fU5 191 0 0 rfl).trans ((up_k hU3 (by exact Nat.ne_of_beq_eq_false rfl) 0 0).trans (up_k hU1 (by exact Nat.ne_of_beq_eq_false rfl) 0 0)))))))
                      have x9 : U133 109 0 2 = 1 := up_f hU133
                      have z9 : x113 = 1 := by omega
                      have k8 : AK7_ T U133 c t 1 := ⟨U5, U91, x92, 40, a9, Or.inl ⟨by omega, rfl⟩, ⟨_, rfl, fU91, qU91⟩, x9, Or.inr ⟨by omega, U99, fun x a b => (t9 x a b).1, ⟨rfl, fU99, pU99, bU99⟩, Or.inl ⟨rfl, U106, U112, ⟨rfl, fU106, cU106, dU106, zU106⟩, ⟨_, congrArg (fun q => some (vI q)) z9.symm, fU112, qU112⟩, fun _ => ((up_j hU133 (by decide) _ _).trans ((fU112 109 _ _ rfl).trans ((fU106 109 _ _ rfl).trans ((fU99 109 _ _ rfl).trans ((fU91 109 _ _ rfl).trans (fU5 109 _ _ rfl)))))).trans (up_f hU3), fun j => up_k hU133 (by exact Nat.ne_of_beq_eq_false rfl) _ _, fun z => absurd z (by decide)⟩⟩⟩
                      exact ⟨_, rfl, fr_u (fr_t (fr_t (fr_t (fr_t (fr_t (fr_u (fr_u (fr_0 _ _) hU1 rfl) hU3 rfl) (fr_s fU5 rfl)) (fr_s fU91 rfl)) (fr_s fU99 rfl)) (fr_s fU106 rfl)) (fr_s fU112 rfl)) hU133 rfl, by rw [e142, e190]; exact hsl, ⟨fun x j _ _ => f190 x j, by omega⟩, ⟨fun x _ => e190 x, by omega⟩, by omega, k8⟩
                    · exact absurd c137 (by decide)
              · refine bd_i (by omega) ?_
                refine x_nm (fun U144 hU144 => ?_)
                have e145 := up_f hU144
                intro b146 b146b
                have e147 : U144 109 0 2 = 2 := up_f hU144
                rw [e147] at b146 b146b ⊢
                refine (show po_X9_ask_f T c t U144 (some (vI 2)) from ?_)
                have e148 : U144 109 0 15 = T 109 0 15 := (up_j hU144 (by decide) 109 0).trans ((fU91 109 0 15 rfl).trans ((fU5 109 0 15 rfl).trans ((up_j hU3 (by decide) 109 0).trans (up_j hU1 (by decide) 109 0))))
                have e149 : U144 191 0 0 = T 191 0 0 := (up_k hU144 (by exact Nat.ne_of_beq_eq_false rfl) 0 0).trans ((fU91 191 0 0 rfl).trans ((fU5 191 0 0 rfl).trans ((up_k hU3 (by exact Nat.ne_of_beq_eq_false rfl) 0 0).trans (up_k hU1 (by exact Nat.ne_of_beq_eq_false rfl) 0 0))))
                have e190 : ∀ x, U144 190 x (-2) = T 190 x (-2) := fun x => (up_k hU144 (by exact Nat.ne_of_beq_eq_false rfl) _ _).trans ((fU91 190 _ _ rfl).trans ((fU5 190 _ _ rfl).trans ((up_k hU3 (by exact Nat.ne_of_beq_eq_false rfl) _ _).trans (up_k hU1 (by exact Nat.ne_of_beq_eq_false rfl) _ _))))
                have f190 : ∀ x j, U144 190 x j = T 190 x j := fun x j => (up_k hU144 (by exact Nat.ne_of_beq_eq_false rfl) _ _).trans ((fU91 190 _ _ rfl).trans ((fU5 190 _ _ rfl).trans ((up_k hU3 (by exact Nat.ne_of_beq_eq_false rfl) _ _).trans (up_k hU1 (by exact Nat.ne_of_beq_eq_false rfl) _ _))))
                have e150 : U144 109 0 15 = T 109 0 15 := (up_j hU144 (by decide) 109 0).trans ((fU91 109 0 15 rfl).trans ((fU5 109 0 15 rfl).trans ((up_j hU3 (by decide) 109 0).trans (up_j hU1 (by decide) 109 0))))
                have e151 : U144 191 0 0 = T 191 0 0 := (up_k hU144 (by exact Nat.ne_of_beq_eq_false rfl) 0 0).trans ((fU91 191 0 0 rfl).trans ((fU5 191 0 0 rfl).trans ((up_k hU3 (by exact Nat.ne_of_beq_eq_false rfl) 0 0).trans (up_k hU1 (by exact Nat.ne_of_beq_eq_false rfl) 0 0))))
                have a9 : AS7_ T U5 c := ⟨fr_t (fr_u (fr_u (fr_0 _ _) hU1 rfl) hU3 rfl) (fr_s fU5 rfl), ((fU5 109 _ _ rfl).trans (up_j hU3 (by decide) _ _)).trans (up_f hU1), (fU5 109 _ _ rfl).trans (up_f hU3), qU5⟩
                have x9 : U144 109 0 2 = 2 := up_f hU144
                have k8 : AK7_ T U144 c t 2 := ⟨U5, U91, x92, 40, a9, Or.inl ⟨by omega, rfl⟩, ⟨_, rfl, fU91, qU91⟩, x9, Or.inl ⟨by omega, rfl, ((up_j hU144 (by decide) _ _).trans ((fU91 109 _ _ rfl).trans (fU5 109 _ _ rfl))).trans (up_f hU3), fun j => up_k hU144 (by exact Nat.ne_of_beq_eq_false rfl) _ _⟩⟩
                exact ⟨_, rfl, fr_u (fr_t (fr_t (fr_u (fr_u (fr_0 _ _) hU1 rfl) hU3 rfl) (fr_s fU5 rfl)) (fr_s fU91 rfl)) hU144 rfl, by rw [e150, e190]; exact hsl, ⟨fun x j _ _ => f190 x j, by omega⟩, ⟨fun x _ => e190 x, by omega⟩, by omega, k8⟩
theorem bk_X10_can_f_0 : ck_ fX10 (some .int) cX10_can 0 [.aload 0, .iload 1] 2 = true := qck_r (nn_ _) (by decide +kernel)
theorem bs_X10_can_f_0 {P : Zt → Option Zv → Prop} (K : Int → Zl → List Zv → Zt → Prop) : sx_ K P [.aload 0, .iload 1] 2 = x_aload 0 (x_iload 1 (K 2)) := ((xe_aload 0).trans (congrArg (x_aload 0) ((xe_iload 1).trans (congrArg (x_iload 1) xe_nil))))
theorem bk_X10_can_f_5 : ck_ fX10 (some .int) cX10_can 5 [.ifCond .eq 16, .aload 0, .iload 2] 10 = true := qck_r (nn_ _) (by decide +kernel)
theorem bs_X10_can_f_5 {P : Zt → Option Zv → Prop} (K : Int → Zl → List Zv → Zt → Prop) : sx_ K P [.ifCond .eq 16, .aload 0, .iload 2] 10 = x_ifCond .eq 16 K (x_aload 0 (x_iload 2 (K 10))) := ((xe_ifCond .eq 16).trans (congrArg (x_ifCond .eq 16 K) ((xe_aload 0).trans (congrArg (x_aload 0) ((xe_iload 2).trans (congrArg (x_iload 2) xe_nil))))))
theorem bk_X10_can_f_16 : ck_ fX10 (some .int) cX10_can 16 [.iconst (-2), .ireturn] 19 = true := qck_r (nn_ _) (by decide +kernel)
theorem bs_X10_can_f_16 {P : Zt → Option Zv → Prop} (K : Int → Zl → List Zv → Zt → Prop) : sx_ K P [.iconst (-2), .ireturn] 19 = x_iconst (-2) (x_ireturn P) := ((xe_iconst (-2)).trans (congrArg (x_iconst (-2)) (xe_ireturn)))
theorem bk_X10_can_f_13 : ck_ fX10 (some .int) cX10_can 13 [.ifCond .ne 19, .iconst (-2), .ireturn] 19 = true := qck_r (nn_ _) (by decide +kernel)
theorem bs_X10_can_f_13 {P : Zt → Option Zv → Prop} (K : Int → Zl → List Zv → Zt → Prop) : sx_ K P [.ifCond .ne 19, .iconst (-2), .ireturn] 19 = x_ifCond .ne 19 K (x_iconst (-2) (x_ireturn P)) := ((xe_ifCond .ne 19).trans (congrArg (x_ifCond .ne 19 K) ((xe_iconst (-2)).trans (congrArg (x_iconst (-2)) (xe_ireturn)))))
theorem bk_X10_can_f_19 : ck_ fX10 (some .int) cX10_can 19 [.aload 0, .tableswitch 0 10 2 #[], .tableswitch 0 6 1 #[], .iload 1, .aaload, .astore 3, .aload 3, .tableswitch 0 0 4 #[], .iload 2, .iaload, .iconst (-1), .if_icmp .eq 46, .aload 3, .tableswitch 0 0 6 #[], .ifCond .ne 49, .iconst (-4), .ireturn] 49 = true := qck_r (nn_ _) (by decide +kernel)
theorem bs_X10_can_f_19 {P : Zt → Option Zv → Prop} (K : Int → Zl → List Zv → Zt → Prop) : sx_ K P [.aload 0, .tableswitch 0 10 2 #[], .tableswitch 0 6 1 #[], .iload 1, .aaload, .astore 3, .aload 3, .tableswitch 0 0 4 #[], .iload 2, .iaload, .iconst (-1), .if_icmp .eq 46, .aload 3, .tableswitch 0 0 6 #[], .ifCond .ne 49, .iconst (-4), .ireturn] 49 = x_aload 0 (x_g1 110 106 (x_g1 106 521 (x_iload 1 (x_aaload (x_astore 3 (x_aload 3 (x_g2 100 404 (x_iload 2 (x_iaload (x_iconst (-1) (x_if_icmp .eq 46 K (x_aload 3 (x_g0 100 6 0 1 (x_ifCond .ne 49 K (x_iconst (-4) (x_ireturn P)))))))))))))))) := ((xe_aload 0).trans (congrArg (x_aload 0) ((xe_g1 (kk := 110) rfl tl_10_2).trans (congrArg (x_g1 110 106) ((xe_g1 (kk := 106) rfl tl_6_1).trans (congrArg (x_g1 106 521) ((xe_iload 1).trans (congrArg (x_iload 1) ((xe_aaload).trans (congrArg (x_aaload) ((xe_astore 3).trans (congrArg (x_astore 3) ((xe_aload 3).trans (congrArg (x_aload 3) ((xe_g2 (kk := 100) rfl tl_0_4).trans (congrArg (x_g2 100 404) ((xe_iload 2).trans (congrArg (x_iload 2) ((xe_iaload).trans (congrArg (x_iaload) ((xe_iconst (-1)).trans (congrArg (x_iconst (-1)) ((xe_if_icmp .eq 46).trans (congrArg (x_if_icmp .eq 46 K) ((xe_aload 3).trans (congrArg (x_aload 3) ((xe_g0 (kk := 100) rfl tl_0_6).trans (congrArg (x_g0 100 6 0 1) ((xe_ifCond .ne 49).trans (congrArg (x_ifCond .ne 49 K) ((xe_iconst (-4)).trans (congrArg (x_iconst (-4)) (xe_ireturn)))))))))))))))))))))))))))))))))
theorem bk_X10_can_f_46 : ck_ fX10 (some .int) cX10_can 46 [.iconst (-4), .ireturn] 49 = true := qck_r (nn_ _) (by decide +kernel)
theorem bs_X10_can_f_46 {P : Zt → Option Zv → Prop} (K : Int → Zl → List Zv → Zt → Prop) : sx_ K P [.iconst (-4), .ireturn] 49 = x_iconst (-4) (x_ireturn P) := ((xe_iconst (-4)).trans (congrArg (x_iconst (-4)) (xe_ireturn)))
theorem bk_X10_can_f_49 : ck_ fX10 (some .int) cX10_can 49 [.aload 0, .tableswitch 0 10 4 #[], .aload 3, .aload 3, .tableswitch 0 0 4 #[], .iload 2, .iaload] 60 = true := qck_r (nn_ _) (by decide +kernel)
theorem bs_X10_can_f_49 {P : Zt → Option Zv → Prop} (K : Int → Zl → List Zv → Zt → Prop) : sx_ K P [.aload 0, .tableswitch 0 10 4 #[], .aload 3, .aload 3, .tableswitch 0 0 4 #[], .iload 2, .iaload] 60 = x_aload 0 (x_g1 110 109 (x_aload 3 (x_aload 3 (x_g2 100 404 (x_iload 2 (x_iaload (K 60))))))) := ((xe_aload 0).trans (congrArg (x_aload 0) ((xe_g1 (kk := 110) rfl tl_10_4).trans (congrArg (x_g1 110 109) ((xe_aload 3).trans (congrArg (x_aload 3) ((xe_aload 3).trans (congrArg (x_aload 3) ((xe_g2 (kk := 100) rfl tl_0_4).trans (congrArg (x_g2 100 404) ((xe_iload 2).trans (congrArg (x_iload 2) ((xe_iaload).trans (congrArg (x_iaload) xe_nil))))))))))))))
theorem bk_X10_can_f_63 : ck_ fX10 (some .int) cX10_can 63 [.ireturn] 64 = true := qck_r (nn_ _) (by decide +kernel)
theorem bs_X10_can_f_63 {P : Zt → Option Zv → Prop} (K : Int → Zl → List Zv → Zt → Prop) : sx_ K P [.ireturn] 64 = x_ireturn P := (xe_ireturn)
abbrev po_X10_can_f (T : Zt) (c b : Int) : Zt → Option Zv → Prop := fun T' r => ∃ x : Int, r = some (vI x) ∧ fr_ [(109, [5, 3, 9, 6, 2, 15]), (584, []), (588, []), (587, []), (591, []), (592, []), (590, []), (593, []), (594, []), (107, [1]), (542, []), (543, []), (544, []), (545, []), (546, []), (190, []), (191, [0])] T T' ∧ (T' 109 0 15 ≠ 0 → T' 190 (T' 109 0 15 - 1) (-2) = 4096 ∧ 1 ≤ T' 109 0 15) ∧ KPT_ T T' ∧ lh_ T T' ∧ T' 191 0 0 ≤ T 191 0 0 + 1 ∧ CA7_ T T' c b x
set_option maxHeartbeats 4000000 in
theorem ct_X10_can_f {T : Zt} {c b : Int} (hka : KA_ T) (hkm : KM_ T) (hkc : KC_ T) (hks : KS_ T) (hke : KE_ T) (hkw : KW_ T) (hsl : T 109 0 15 ≠ 0 → T 190 (T 109 0 15 - 1) (-2) = 4096 ∧ 1 ≤ T 109 0 15) (h9 : 0 ≤ T 191 0 0 ∧ T 191 0 0 ≤ 900000000) (hsk : ∀ c, 0 ≤ c → c < T 106 0 2 → (SK_ T c)) (hno : ∀ c, 0 ≤ c → c < T 106 0 2 → (T 100 c 0 = c)) (hr9 : ∀ c, 0 ≤ c → c < T 106 0 2 → (∀ w, 1 ≤ w ∧ w ≤ 3 → 0 ≤ T 401 c w ∧ T 401 c w ≤ 9)) (hpp : ∀ c, 0 ≤ c → c < T 106 0 2 → (∀ x, 0 ≤ x → x < T 100 c 5 → -400000 ≤ pp7_ T c x ∧ pp7_ T c x ≤ 400000)) (hk9 : ∀ c, 0 ≤ c → c < T 106 0 2 → (∀ k, 0 ≤ k → k < T 100 c 8 → 0 ≤ T 404 c (T 102 (T 100 c 7 + k) 3) ∧ 0 ≤ T 404 c (T 102 (T 100 c 7 + k) 4) ∧ T 102 (T 100 c 7 + k) 3 ≠ T 102 (T 100 c 7 + k) 4)) : Ct_ yX10_can zX10_can T [vR 110 0, vI c, vI b] (po_X10_can_f T c b) := by
  refine ct_of pn_10 rfl rfl (Nat.le_of_ble_eq_true rfl) (fun hT hav => ?_)
  have hr_c : -2147483648 ≤ c ∧ c ≤ 2147483647 := hav (vI c) (List.mem_cons_of_mem _ List.mem_cons_self)
  have hr_b : -2147483648 ≤ b ∧ b ≤ 2147483647 := hav (vI b) (List.mem_cons_of_mem _ (List.mem_cons_of_mem _ List.mem_cons_self))
  have hz : zX10_can.2.2.2.1 = some .boolean → ∀ (T' : Zt) (x : Int), po_X10_can_f T c b T' (some (vI x)) → 0 ≤ x ∧ x ≤ 1 := fun h => by cases h
  have hb_competitionCount : 0 ≤ T 106 0 2 ∧ T 106 0 2 ≤ 4 := bd_f hT 106 2 tl_6_2 0
  have hb_clubs : 0 ≤ T 108 0 2 ∧ T 108 0 2 ≤ 12 := bd_f hT 108 2 tl_8_2 0
  show J_ zX10_can T (po_X10_can_f T c b) 1 4096 0 [some (vR 110 0), some (vI c), some (vI b), none] [] T
  refine j_blx (F := fX10) tb_X10 (nn_ _) bk_X10_can_f_0 bs_X10_can_f_0 hz (fun K hK => ?_)
  refine hK 2 _ [vI c, vR 110 0] T ?_
  refine j_callV (y := yX10_isCompetition) (Yc := zX10_isCompetition) (rest := []) [vI c] (ct_X10_isCompetition (T := T)) cl_X10_107 (qd_c (by decide +kernel)) (nn_ _) rfl (rf_of rfl) (Nat.le_of_ble_eq_true rfl) (Nat.le_of_ble_eq_true rfl) (Nat.le_of_ble_eq_true rfl) rfl ?_
  rintro _ _ ⟨rfl, x1, rfl, hx1⟩
  show J_ zX10_can T (po_X10_can_f T c b) 1 4096 5 _ [vI x1] T
  refine j_blx (F := fX10) tb_X10 (nn_ _) bk_X10_can_f_5 bs_X10_can_f_5 hz (fun K hK => ?_)
  refine And.intro (fun c2 => ?_) (fun c2 => ?_)
  · replace hx1 := hx1.resolve_left (fun z => absurd (c2.symm.trans z.1) (by decide))
    clear c2
    refine hK 16 _ [] T ?_
    refine j_blx (F := fX10) tb_X10 (nn_ _) bk_X10_can_f_16 bs_X10_can_f_16 hz (fun K hK => ?_)
    refine (show po_X10_can_f T c b T (some (vI (-2))) from ?_)
    exact ⟨_, rfl, fr_0 _ _, hsl, kpt_r, lh_r, by omega, Or.inl ⟨rfl, rfl, by omega⟩⟩
  · replace hx1 := hx1.resolve_right (fun z => c2 z.1)
    clear c2
    refine hK 10 _ [vI b, vR 110 0] T ?_
    refine j_callV (y := yX10_isClub) (Yc := zX10_isClub) (rest := []) [vI b] (ct_X10_isClub (T := T)) cl_X10_137 (qd_c (by decide +kernel)) (nn_ _) rfl (rf_of rfl) (Nat.le_of_ble_eq_true rfl) (Nat.le_of_ble_eq_true rfl) (Nat.le_of_ble_eq_true rfl) rfl ?_
    rintro _ _ ⟨rfl, x3, rfl, hx3⟩
    show J_ zX10_can T (po_X10_can_f T c b) 1 4096 13 _ [vI x3] T
    refine j_blx (F := fX10) tb_X10 (nn_ _) bk_X10_can_f_13 bs_X10_can_f_13 hz (fun K hK => ?_)
    refine And.intro (fun c4 => ?_) (fun c4 => ?_)
    · replace hx3 := hx3.resolve_right (fun z => c4 z.1)
      clear c4
      refine hK 19 _ [] T ?_
      refine j_blx (F := fX10) tb_X10 (nn_ _) bk_X10_can_f_19 bs_X10_can_f_19 hz (fun K hK => ?_)
      refine ix_i (by omega) ?_
      refine And.intro (fun c5 => ?_) (fun c5 => ?_)
      · exact absurd (show T 521 0 c = 0 by omega) (hka.1 _ (by omega) (by omega))
      · refine ix_i (by omega) ?_
        intro b6 b6b
        refine And.intro (fun c7 => ?_) (fun c7 => ?_)
        · refine hK 46 [some (vR 110 0), some (vI c), some (vI b), some (vR 100 c)] [] T ?_
          refine j_blx (F := fX10) tb_X10 (nn_ _) bk_X10_can_f_46 bs_X10_can_f_46 hz (fun K hK => ?_)
          refine (show po_X10_can_f T c b T (some (vI (-4))) from ?_)
          exact ⟨_, rfl, fr_0 _ _, hsl, kpt_r, lh_r, by omega, Or.inr ⟨by omega, Or.inl ⟨rfl, rfl, by omega⟩⟩⟩
        · intro b8 b8b
          refine And.intro (fun c9 => ?_) (fun c9 => ?_)
          · refine hK 49 _ [] T ?_
            refine j_blx (F := fX10) tb_X10 (nn_ _) bk_X10_can_f_49 bs_X10_can_f_49 hz (fun K hK => ?_)
            refine ix_i (by omega) ?_
            intro b10 b10b
            refine hK 60 _ [vI (T 404 c b), vR 100 c, vR 109 0] T ?_
            refine j_callV (y := yX9_ask) (Yc := zX9_ask) (rest := []) [vR 100 c, vI (T 404 c b)] (ct_X9_ask_f (T := T) (c := c) hka hkm hkc hks hke hkw hsl h9 (by omega) (by omega) (hsk c (by omega) (by omega)) (hno c (by omega) (by omega)) (sk7_m (hsk c (by omega) (by omega)) (b := b) (by omega) (by omega)).1 (hr9 c (by omega) (by omega)) (hpp c (by omega) (by omega)) (hk9 c (by omega) (by omega))) cl_X10_365 (qd_c (by decide +kernel)) (nn_ _) rfl (rf_of rfl) (Nat.le_of_ble_eq_true rfl) (Nat.le_of_ble_eq_true rfl) (Nat.le_of_ble_eq_true rfl) rfl ?_
            rintro U11 _ ⟨x12, rfl, fU11, slU11, kpU11, lhU11, mU11, k8⟩
            show J_ zX10_can T (po_X10_can_f T c b) 0 0 63 _ [vI x12] U11
            refine j_blx (F := fX10) tb_X10 (nn_ _) bk_X10_can_f_63 bs_X10_can_f_63 hz (fun K hK => ?_)
            refine (show po_X10_can_f T c b U11 (some (vI x12)) from ?_)
            exact ⟨_, rfl, fU11, slU11, kpU11, lhU11, mU11, Or.inr ⟨by omega, Or.inr ⟨by omega, by omega, k8⟩⟩⟩
          · refine (show po_X10_can_f T c b T (some (vI (-4))) from ?_)
            exact ⟨_, rfl, fr_0 _ _, hsl, kpt_r, lh_r, by omega, Or.inr ⟨by omega, Or.inl ⟨rfl, rfl, by omega⟩⟩⟩
    · replace hx3 := hx3.resolve_left (fun z => absurd (c4.symm.trans z.1) (by decide))
      clear c4
      refine (show po_X10_can_f T c b T (some (vI (-2))) from ?_)
      exact ⟨_, rfl, fr_0 _ _, hsl, kpt_r, lh_r, by omega, Or.inl ⟨rfl, rfl, by omega⟩⟩
-- who can be first: both sides tied (DRAFT, not compiled; behind part84zyv, part84zyr)
/-- what the house lists is what the reference has left -/
theorem lm7_c {T U : Zt} {c b : Int} (h : LM7_ T c b) (eU : ∀ k ∈ [100, 102, 103], ∀ i j, U k i j = T k i j) : ∀ k, 0 ≤ k → k < T 100 c 8 → (OD7_ U c b k ↔ OE7_ T c b k) := fun k a d => by
  have e0 := eU 100 (by decide)
  have e2 := eU 102 (by decide)
  have e3 := eU 103 (by decide)
  have y := (lm7_o h a d).1
  rw [← y]
  unfold OD7_
  simp only [e0, e2, e3]
/-- the lists of both are one -/
theorem dn7_l {T U : Zt} {c b : Int} (h : LM7_ T c b) (h8 : 0 ≤ T 100 c 8) (eU : ∀ k ∈ [100, 102, 103], ∀ i j, U k i j = T k i j) : dl9_ (OD7_ U c b) (U 100 c 8).toNat = dl9_ (OE7_ T c b) (T 211 0 c).toNat := by
  have e8 : U 100 c 8 = T 211 0 c := (eU 100 (by decide) c 8).trans h.2.1
  have e7 : T 211 0 c = T 100 c 8 := h.2.1.symm
  rw [e8]
  exact dl_c (T 211 0 c).toNat (fun i a d => lm7_c h eU i a (by omega))
-- who can be first: both sides' answers are one (DRAFT; behind part84zyv, part84zyr, part84zyw, part84zyt, part84zyu, part84zzm)
theorem lx7_f {o : Nat} : ∀ (l : List (Nat × Nat)) (f : Nat → Int) (ws : List Int), LX7_ o l f ws → (∀ k, k < 12 → o.testBit k = true → 0 ≤ f k) → fe7_ o l f
  | [], _, _, _, h => h
  | p :: l, f, ws, g, _ => by
    obtain ⟨w, us, -, hw, hf, -, -⟩ := g
    exact ⟨w, hw, hf⟩
theorem dl7_k {D : Int → Prop} {n k : Int} (h0 : 0 ≤ k) (h1 : k < (dl9_ D n.toNat).1) : 0 ≤ (dl9_ D n.toNat).2 k ∧ (dl9_ D n.toNat).2 k < n := by
  have y := (dl_b (D := D) n.toNat).2 k h0 h1
  omega
/-- a set that is too full: nothing can be chosen -/
theorem cu7_x {o x : Int} {l : List (Nat × Nat)} {f : Nat → Int} (ho : 0 ≤ o ∧ o ≤ 4095) (hl : ∀ p ∈ l, p.1 < 12 ∧ p.2 < 12) (h : CU7_ o l f x) : ¬ fe7_ o.toNat l f := fun g => by
  obtain ⟨h1, h2, h3, -⟩ := h
  have y := an_n (x := x) (y := o) (by omega) (by omega)
  rw [h2] at y
  have e : x.toNat &&& o.toNat = x.toNat := by omega
  have z := fe7_v l f hl g x.toNat e
  omega
theorem bi7_e {x y : Int} (hx : 0 ≤ x ∧ x ≤ 4095) (hy : 0 ≤ y ∧ y ≤ 4095) (h : ∀ v : Nat, v < 12 → (x.toNat.testBit v = true ↔ y.toNat.testBit v = true)) : x = y := by
  have e : x.toNat = y.toNat := Nat.eq_of_testBit_eq (fun i => by
    by_cases z : i < 12
    · have g := h i z
      by_cases q : x.toNat.testBit i = true
      · rw [q, g.mp q]
      · rw [Bool.eq_false_iff.mpr q, Bool.eq_false_iff.mpr (fun w => q (g.mpr w))]
    · have p : 2 ^ 12 ≤ 2 ^ i := Nat.pow_le_pow_right (by decide) (by omega)
      rw [Nat.testBit_lt_two_pow (Nat.lt_of_lt_of_le (show x.toNat < 2 ^ 12 by omega) p), Nat.testBit_lt_two_pow (Nat.lt_of_lt_of_le (show y.toNat < 2 ^ 12 by omega) p)])
  omega
theorem vs7_u {o u : Int} {l : List (Nat × Nat)} {f g : Nat → Int} (ho : 0 ≤ o ∧ o ≤ 4095) (hu : 0 ≤ u ∧ u ≤ 4095) (an : an_ u o = u) (h : ∀ k, k < 12 → o.toNat.testBit k = true → f k = g k) : vs_ f l u.toNat = vs_ g l u.toNat := vs7_e (fun k hk q => h k hk (by
  have y := an_n (x := u) (y := o) (by omega) (by omega)
  rw [an] at y
  have e : u.toNat &&& o.toNat = u.toNat := by omega
  rw [← e, Nat.testBit_and, Bool.and_eq_true] at q
  exact q.2))
/-- a cut hangs on the caps of the others alone -/
theorem cu7_g {o x : Int} {l : List (Nat × Nat)} {f g : Nat → Int} (ho : 0 ≤ o ∧ o ≤ 4095) (h : ∀ k, k < 12 → o.toNat.testBit k = true → f k = g k) (a : CU7_ o l f x) : CU7_ o l g x := by
  obtain ⟨a1, a2, a3, a4⟩ := a
  refine ⟨a1, a2, ?_, fun t p q r => ?_⟩
  · rw [← vs7_u ho ⟨by omega, by omega⟩ a2 h]
    exact a3
  · rw [← vs7_u ho ⟨by omega, by omega⟩ r h]
    exact a4 t p q r
/-- the house's cut is the reference's -/
theorem ck7_u {o o2 x y : Int} {l : List (Nat × Nat)} {f g : Nat → Int} (ho : 0 ≤ o ∧ o ≤ 4095) (eo : o2 = o) (h : ∀ k, k < 12 → o.toNat.testBit k = true → f k = g k) (a : CU7_ o l g y) (b : (x = 0 ∧ ∀ u, 0 ≤ u → u ≤ 4095 → an_ u o2 = u → 0 ≤ vs_ f l u.toNat) ∨ CU7_ o2 l f x) : x = y := by
  rw [eo] at b
  rcases b with ⟨-, b⟩ | b
  · exfalso
    obtain ⟨a1, a2, a3, -⟩ := a
    have z := b y (by omega) (by omega) a2
    rw [vs7_u ho ⟨by omega, by omega⟩ a2 h] at z
    omega
  · exact cu7_u (cu7_g ho h b) a
theorem td6_b {ru : Int → Int} {v : Mv_} {x k : Int} (h : (0 ≤ ru 1 ∧ ru 1 ≤ 9) ∧ (0 ≤ ru 2 ∧ ru 2 ≤ 9) ∧ (0 ≤ ru 3 ∧ ru 3 ≤ 9)) : 0 ≤ td9_ ru v x 6 k ∧ td9_ ru v x 6 k ≤ 18 := by
  by_cases z : v k 0 = 1
  · have p1 := pt_b (a := v k 3) (b := v k 4) h
    have p2 := pt_b (a := v k 4) (b := v k 3) h
    have e1 : cv9_ ru 6 (v k 3) (v k 4) = ptm9_ ru (v k 3) (v k 4) := cv_6
    have e2 : cv9_ ru 6 (v k 4) (v k 3) = ptm9_ ru (v k 4) (v k 3) := cv_6
    rw [td_1 z, if_neg (by decide), if_neg (by decide), e1, e2]
    by_cases y : v k 1 = x
    · by_cases w : v k 2 = x
      · rw [if_pos y, if_pos w]; omega
      · rw [if_pos y, if_neg w]; omega
    · by_cases w : v k 2 = x
      · rw [if_neg y, if_pos w]; omega
      · rw [if_neg y, if_neg w]; omega
  · rw [td_0 z]; decide
theorem tn6_b {ru : Int → Int} {v : Mv_} {x : Int} (h : (0 ≤ ru 1 ∧ ru 1 ≤ 9) ∧ (0 ≤ ru 2 ∧ ru 2 ≤ 9) ∧ (0 ≤ ru 3 ∧ ru 3 ≤ 9)) : ∀ n : Nat, 0 ≤ tn9_ ru v x 6 n ∧ tn9_ ru v x 6 n ≤ 18 * (n : Int)
  | 0 => by
    show (0 : Int) ≤ 0 ∧ (0 : Int) ≤ 18 * ((0 : Nat) : Int)
    omega
  | n + 1 => by
    have i := tn6_b (v := v) (x := x) h n
    have d := td6_b (v := v) (x := x) (k := (n : Int)) h
    show 0 ≤ tn9_ ru v x 6 n + td9_ ru v x 6 (n : Int) ∧ tn9_ ru v x 6 n + td9_ ru v x 6 (n : Int) ≤ 18 * ((n + 1 : Nat) : Int)
    omega
/-- points are small -/
theorem pp7_b {T : Zt} {c x : Int} (hT : ok_T T) (tq : TQ_ T c 999) : -400000 ≤ pp7_ T c x ∧ pp7_ T c x ≤ 400000 := by
  obtain ⟨-, -, -, ⟨h6, -⟩, -, h11⟩ := tq
  have hn : 0 ≤ T 100 c 8 ∧ T 100 c 8 ≤ 400 := bd_f hT 100 8 tl_0_8 c
  have t := tn6_b (ru := fun w => T 401 c w) (v := fun k => vH_ T 999 (T 100 c 7 + k)) (x := T 403 c x) h6 (T 100 c 8).toNat
  have d := h11 (T 403 c x)
  unfold pp7_
  omega
/-- both sides have the same points -/
theorem pp7_r {T : Zt} {c x : Int} (hT : ok_T T) (tq : TQ_ T c 999) : pp7_ T c x = pr7_ T c (T 403 c x) := by
  obtain ⟨h1, -, ⟨h4, -⟩, -, ⟨h8, -, -⟩, h11⟩ := tq
  have hn : 0 ≤ T 100 c 8 ∧ T 100 c 8 ≤ 400 := bd_f hT 100 8 tl_0_8 c
  have en : (((T 100 c 8).toNat : Nat) : Int) = T 100 c 8 := by omega
  have e8 : T 211 0 c = T 100 c 8 := h8.2.2.2.1.symm
  have hr : T 401 c 1 = T 205 0 (23 * c + 1) ∧ T 401 c 2 = T 205 0 (23 * c + 2) ∧ T 401 c 3 = T 205 0 (23 * c + 3) := ⟨h4 1 (by decide) (by decide), h4 2 (by decide) (by decide), h4 3 (by decide) (by decide)⟩
  have ve : VE_ (((T 100 c 8).toNat : Nat) : Int) (fun k => vH_ T 999 (T 100 c 7 + k)) (fun k => vR_ T 999 (T 210 0 c + k)) := by rw [en]; exact h1
  have g := (tn_r (ru := fun w => T 401 c w) (ru' := fun w => T 205 0 (23 * c + w)) (v := fun k => vH_ T 999 (T 100 c 7 + k)) (x := T 403 c x) (w := 6) hr (T 100 c 8).toNat).trans (tn_e _ ve)
  unfold pp7_ pr7_
  rw [g, ← (h11 (T 403 c x)).1, e8]
/-- both sides have the same matches, and the same who is left -/
theorem lm7_i {T : Zt} {c b : Int} (hT : ok_T T) (tq : TQ_ T c 999) (hc : 0 ≤ c ∧ c < T 106 0 2) (hma : MAR_ T) (hpl : PLR_ T) (hkc : KC_ T) (hna : HNA_ T) : LM7_ T c b := by
  obtain ⟨-, -, ⟨h4, -⟩, -, ⟨h8, -, -⟩, -⟩ := tq
  have hf : 0 ≤ T 100 c 7 ∧ T 100 c 7 ≤ 400 := bd_f hT 100 7 tl_0_7 c
  have kc := hkc c hc.1 hc.2
  refine ⟨h8.2.2.1, h8.2.2.2.1, ⟨h4 1 (by decide) (by decide), h4 3 (by decide) (by decide)⟩, fun k a d => ?_⟩
  have p := hpl.1 (T 100 c 7 + k) (by omega) (by omega)
  have q := hma.2 (T 100 c 7 + k) (by omega) (by omega)
  have n := hna (T 100 c 7 + k) (by omega) (by omega)
  have b35 := bd_a hT 235 (by decide +kernel : ta_ 235 = some (1, some 400, 0, 3)) 0 (x := T 100 c 7 + k) (by omega)
  have dc := dc_e p.2
  rw [← h8.2.2.1]
  refine ⟨⟨q.2.2.1, q.2.2.2⟩, ?_, ?_⟩
  · rw [← q.2.2.1, ← q.2.2.2]
    exact n
  · rw [dc]
    omega
/-- clubs and seats of the matches fit -/
theorem sm7_i {T : Zt} {c : Int} (hT : ok_T T) (hc : 0 ≤ c ∧ c < T 106 0 2) (sk : SK_ T c) (hks : KS_ T) : SM7_ T c := fun k a d x x0 x1 => by
  have s := hks c hc.1 hc.2 (T 100 c 7 + k) (by omega) (by omega)
  have b3 : 0 ≤ T 102 (T 100 c 7 + k) 3 ∧ T 102 (T 100 c 7 + k) 3 ≤ 11 := bd_f hT 102 3 tl_2_3 _
  have b4 : 0 ≤ T 102 (T 100 c 7 + k) 4 ∧ T 102 (T 100 c 7 + k) 4 ≤ 11 := bd_f hT 102 4 tl_2_4 _
  exact ⟨sk_i sk ⟨x0, x1⟩ ⟨b3.1, by omega⟩ s.2.1, sk_i sk ⟨x0, x1⟩ ⟨b4.1, by omega⟩ s.2.2⟩
/-- behind the list: the results that stand are those of the club's own matches -/
theorem rs7_o {T U V : Zt} {c b : Int} (a : AS7_ T U c) (hm : 0 ≤ T 100 c 7 ∧ 0 ≤ T 100 c 8 ∧ T 100 c 7 + T 100 c 8 ≤ 400) (own : ∀ j : Int, 0 ≤ j → j < U 100 c 8 → OM7_ U c b j → V 584 0 (U 100 c 7 + j) = cz_ (U 102 (U 100 c 7 + j) 3 = b) 0 2) (oth : ∀ y : Int, (∀ j : Int, 0 ≤ j → j < U 100 c 8 → OM7_ U c b j → y ≠ U 100 c 7 + j) → V 584 0 y = U 584 0 y) : ∀ k, 0 ≤ k → k < T 100 c 8 → (V 584 0 (T 100 c 7 + k) ≠ -1 ↔ OM7_ T c b k) := fun k k0 k1 => by
  have e0 : ∀ i j, U 100 i j = T 100 i j := fun i j => a.1 100 i j rfl
  have e2 : ∀ i j, U 102 i j = T 102 i j := fun i j => a.1 102 i j rfl
  have e3 : ∀ i j, U 103 i j = T 103 i j := fun i j => a.1 103 i j rfl
  have om : ∀ j, OM7_ U c b j ↔ OM7_ T c b j := fun j => by
    unfold OM7_
    simp only [e0, e2, e3]
  by_cases z : OM7_ T c b k
  · have y := own k k0 (by rw [e0]; exact k1) ((om k).mpr z)
    rw [e0] at y
    refine ⟨fun _ => z, fun _ w => ?_⟩
    rw [y] at w
    by_cases q : U 102 (T 100 c 7 + k) 3 = b
    · rw [cz_t q] at w
      exact absurd w (by decide)
    · rw [cz_f q] at w
      exact absurd w (by decide)
  · have y := oth (T 100 c 7 + k) (fun j j0 j1 g w => z ((om k).mp (by
      rw [e0] at w
      rw [show k = j by omega]
      exact g)))
    refine ⟨fun w => absurd (y.trans (a.2.2.2 _ (by omega) (by omega))) w, fun w => absurd w z⟩
/-- the house's points, with the club's own matches won -/
theorem pw7_e {T U V W : Zt} {c b t : Int} (hT : ok_T T) (tq : TQ_ T c 999) (lm : LM7_ T c b) (sm : SM7_ T c) (ht : 0 ≤ t ∧ t < T 100 c 5) (hb : T 403 c t = b) (hi : ∀ x, 0 ≤ x → x < T 100 c 5 → x ≠ t → T 403 c x ≠ b) (fV : fr_ [(109, [9]), (584, []), (588, [])] U V) (a : AS7_ T U c) (hr : ∀ k, 0 ≤ k → k < T 100 c 8 → (V 584 0 (T 100 c 7 + k) ≠ -1 ↔ OM7_ T c b k)) (P : ∀ x, 0 ≤ x → x < T 100 c 5 → W 587 0 x = pp7_ T c x + os7_ V c t x (V 100 c 8).toNat) : (∀ x, 0 ≤ x → x < T 100 c 5 → x ≠ t → W 587 0 x = pr7_ T c (T 403 c x) + ol7_ T c b (T 403 c x) (T 100 c 8).toNat) ∧ W 587 0 t = pr7_ T c b + T 205 0 (23 * c + 1) * lf7_ T c b (T 100 c 8).toNat := by
  have hn : 0 ≤ T 100 c 8 ∧ T 100 c 8 ≤ 400 := bd_f hT 100 8 tl_0_8 c
  have e0 : ∀ i j, V 100 i j = T 100 i j := fun i j => (fV 100 i j rfl).trans (a.1 100 i j rfl)
  have e2 : ∀ i j, V 102 i j = T 102 i j := fun i j => (fV 102 i j rfl).trans (a.1 102 i j rfl)
  have e4 : ∀ i j, V 404 i j = T 404 i j := fun i j => (fV 404 i j rfl).trans (a.1 404 i j rfl)
  have e1 : ∀ i j, V 401 i j = T 401 i j := fun i j => (fV 401 i j rfl).trans (a.1 401 i j rfl)
  refine ⟨fun x x0 x1 xt => ?_, ?_⟩
  · rw [P x x0 x1, e0, pp7_r hT tq, os7_x lm sm hb ht ⟨x0, x1⟩ (hi x x0 x1 xt) (e0 c 7) e2 (fun j => e4 c j) (fun j => e1 c j) hr (T 100 c 8).toNat (by omega)]
  · rw [P t ht.1 ht.2, e0, pp7_r hT tq, os7_t lm sm hb ht (e0 c 7) e2 (fun j => e4 c j) (fun j => e1 c j) hr (T 100 c 8).toNat (by omega), hb]
/-- what the open matches give another club at least, on both sides -/
theorem ls7_e {T W : Zt} {c b x n : Int} {D : Int → Prop} (lm : LM7_ T c b) (hn : 0 ≤ T 100 c 8) (hD : ∀ k, 0 ≤ k → k < T 100 c 8 → (D k ↔ OE7_ T c b k)) (en : n = (dl9_ D (T 100 c 8).toNat).1) (ol : ∀ j : Int, 0 ≤ j → j < n → W 588 0 j = T 100 c 7 + (dl9_ D (T 100 c 8).toNat).2 j) (e2 : ∀ i j, W 102 i j = T 102 i j) (e1 : W 401 c 3 = T 401 c 3) (e3 : W 403 c x = T 403 c x) (hx : T 403 c x ≠ b) : ls7_ W c x n.toNat + ol7_ T c b (T 403 c x) (T 100 c 8).toNat = T 205 0 (23 * c + 3) * lf7_ T c (T 403 c x) (T 100 c 8).toNat := by
  have bd := dl_b (D := D) (T 100 c 8).toNat
  have g := lo7_s (T := T) (c := c) (b := b) (v := T 403 c x) (L := T 205 0 (23 * c + 3)) hx rfl (T 100 c 8).toNat (fun k a d => (lm.2.2.2 k a (by omega)).2.1)
  have s1 : ls7_ W c x n.toNat = sf9_ (fun j => (fun k => cz_ (T 102 (T 100 c 7 + k) 3 = T 403 c x ∨ T 102 (T 100 c 7 + k) 4 = T 403 c x) (T 401 c 3) 0) ((dl9_ D (T 100 c 8).toNat).2 j)) 0 (dl9_ D (T 100 c 8).toNat).1.toNat := by
    rw [ls7_f, en]
    refine sf_e _ (fun i a d => ?_)
    show cz_ (W 102 (W 588 0 i) 3 = W 403 c x ∨ W 102 (W 588 0 i) 4 = W 403 c x) (W 401 c 3) 0 = cz_ (T 102 (T 100 c 7 + (dl9_ D (T 100 c 8).toNat).2 i) 3 = T 403 c x ∨ T 102 (T 100 c 7 + (dl9_ D (T 100 c 8).toNat).2 i) 4 = T 403 c x) (T 401 c 3) 0
    rw [ol i a (by omega), e2, e2, e1, e3]
  have s2 : sf9_ (fun k => cz_ (D k) (cz_ (T 102 (T 100 c 7 + k) 3 = T 403 c x ∨ T 102 (T 100 c 7 + k) 4 = T 403 c x) (T 401 c 3) 0) 0) 0 (T 100 c 8).toNat = sf9_ (fun k => cz_ (OE7_ T c b k) (cz_ (T 232 0 (T 210 0 c + k) = T 403 c x ∨ T 233 0 (T 210 0 c + k) = T 403 c x) (T 205 0 (23 * c + 3)) 0) 0) 0 (T 100 c 8).toNat := by
    refine sf_e _ (fun i a d => ?_)
    have y := lm.2.2.2 i a (by omega)
    show cz_ (D i) (cz_ (T 102 (T 100 c 7 + i) 3 = T 403 c x ∨ T 102 (T 100 c 7 + i) 4 = T 403 c x) (T 401 c 3) 0) 0 = cz_ (OE7_ T c b i) (cz_ (T 232 0 (T 210 0 c + i) = T 403 c x ∨ T 233 0 (T 210 0 c + i) = T 403 c x) (T 205 0 (23 * c + 3)) 0) 0
    rw [cz_g (hD i a (by omega)), y.1.1, y.1.2, lm.2.2.1.2]
  have s3 := ds7_s (D := D) (f := fun k => cz_ (T 102 (T 100 c 7 + k) 3 = T 403 c x ∨ T 102 (T 100 c 7 + k) 4 = T 403 c x) (T 401 c 3) 0) (T 100 c 8).toNat
  rw [(s1.trans s3).trans s2, g]
  omega
/-- a cap by what is spare, on both sides -/
theorem cq7_e {p v : Int} (hp : 0 ≤ p ∧ p ≤ 9) (hv : -2000000 ≤ v ∧ v ≤ 2000000) : cq7_ p (wr_ v) = (if v < 0 then -1 else if p = 0 then 1000 else v / p) := by
  rw [wr_9 (by omega)]
  unfold cq7_
  by_cases z : v < 0
  · rw [cz_t z, if_pos z]
  · rw [cz_f z, if_neg z]
    by_cases y : p = 0
    · rw [cz_t y, if_pos y]
    · rw [cz_f y, if_neg y, dq7_e (by omega) (by omega)]
theorem lf7_b {T : Zt} {c v : Int} : ∀ n : Nat, 0 ≤ lf7_ T c v n ∧ lf7_ T c v n ≤ 2 * (n : Int)
  | 0 => by
    show (0 : Int) ≤ 0 ∧ (0 : Int) ≤ 2 * ((0 : Nat) : Int)
    omega
  | n + 1 => by
    have i := lf7_b (T := T) (c := c) (v := v) n
    have d : 0 ≤ cz_ (T 235 0 (T 210 0 c + (n : Int)) = 0 ∨ T 235 0 (T 210 0 c + (n : Int)) = 1) ((if v = T 232 0 (T 210 0 c + (n : Int)) then 1 else 0) + (if v = T 233 0 (T 210 0 c + (n : Int)) then (1 : Int) else 0)) 0 ∧ cz_ (T 235 0 (T 210 0 c + (n : Int)) = 0 ∨ T 235 0 (T 210 0 c + (n : Int)) = 1) ((if v = T 232 0 (T 210 0 c + (n : Int)) then 1 else 0) + (if v = T 233 0 (T 210 0 c + (n : Int)) then (1 : Int) else 0)) 0 ≤ 2 := by
      by_cases q : T 235 0 (T 210 0 c + (n : Int)) = 0 ∨ T 235 0 (T 210 0 c + (n : Int)) = 1
      · rw [cz_t q]
        by_cases y : v = T 232 0 (T 210 0 c + (n : Int))
        · by_cases w : v = T 233 0 (T 210 0 c + (n : Int))
          · rw [if_pos y, if_pos w]; decide
          · rw [if_pos y, if_neg w]; decide
        · by_cases w : v = T 233 0 (T 210 0 c + (n : Int))
          · rw [if_neg y, if_pos w]; decide
          · rw [if_neg y, if_neg w]; decide
      · rw [cz_f q]; decide
    show 0 ≤ lf7_ T c v n + cz_ (T 235 0 (T 210 0 c + (n : Int)) = 0 ∨ T 235 0 (T 210 0 c + (n : Int)) = 1) ((if v = T 232 0 (T 210 0 c + (n : Int)) then 1 else 0) + (if v = T 233 0 (T 210 0 c + (n : Int)) then 1 else 0)) 0 ∧ lf7_ T c v n + cz_ (T 235 0 (T 210 0 c + (n : Int)) = 0 ∨ T 235 0 (T 210 0 c + (n : Int)) = 1) ((if v = T 232 0 (T 210 0 c + (n : Int)) then 1 else 0) + (if v = T 233 0 (T 210 0 c + (n : Int)) then 1 else 0)) 0 ≤ 2 * ((n + 1 : Nat) : Int)
    omega
theorem pr7_b {T : Zt} {c x : Int} (hT : ok_T T) (tq : TQ_ T c 999) : -400000 ≤ pr7_ T c x ∧ pr7_ T c x ≤ 400000 := by
  obtain ⟨-, -, ⟨h4, -⟩, ⟨h6, -⟩, ⟨h8, -, -⟩, h11⟩ := tq
  have hn : 0 ≤ T 100 c 8 ∧ T 100 c 8 ≤ 400 := bd_f hT 100 8 tl_0_8 c
  have e8 : T 211 0 c = T 100 c 8 := h8.2.2.2.1.symm
  have r1 := h4 1 (by decide) (by decide)
  have r2 := h4 2 (by decide) (by decide)
  have r3 := h4 3 (by decide) (by decide)
  have hb : (0 ≤ T 205 0 (23 * c + 1) ∧ T 205 0 (23 * c + 1) ≤ 9) ∧ (0 ≤ T 205 0 (23 * c + 2) ∧ T 205 0 (23 * c + 2) ≤ 9) ∧ (0 ≤ T 205 0 (23 * c + 3) ∧ T 205 0 (23 * c + 3) ≤ 9) := by omega
  have t := tn6_b (ru := fun w => T 205 0 (23 * c + w)) (v := fun k => vR_ T 999 (T 210 0 c + k)) (x := x) hb (T 211 0 c).toNat
  have d := h11 x
  unfold pr7_
  rw [e8] at t ⊢
  omega
/-- the caps are one: seat x of club v -/
theorem ca7_e {T W S U : Zt} {c b t x n : Int} {D : Int → Prop} (hT : ok_T T) (tq : TQ_ T c 999) (lm : LM7_ T c b) (kw : T 401 c 2 ≤ T 401 c 1) (hx : 0 ≤ x ∧ x < T 100 c 5) (xt : x ≠ t) (xb : T 403 c x ≠ b) (hD : ∀ k, 0 ≤ k → k < T 100 c 8 → (D k ↔ OE7_ T c b k)) (en : n = (dl9_ D (T 100 c 8).toNat).1) (ol : ∀ j : Int, 0 ≤ j → j < n → W 588 0 j = T 100 c 7 + (dl9_ D (T 100 c 8).toNat).2 j) (e2 : ∀ i j, W 102 i j = T 102 i j) (e1 : ∀ j, W 401 c j = T 401 c j) (e3 : ∀ j, W 403 c j = T 403 c j) (e9 : W 109 0 9 = n)
    (px : W 587 0 x = pr7_ T c (T 403 c x) + ol7_ T c b (T 403 c x) (T 100 c 8).toNat) (p6 : W 109 0 6 = pr7_ T c b + T 205 0 (23 * c + 1) * lf7_ T c b (T 100 c 8).toNat) (sc : S 591 0 x = cq7_ (W 401 c 1 - W 401 c 2) (wr_ (W 109 0 6 - W 587 0 x - ls7_ W c x (W 109 0 9).toNat)))
    (m1 : U 291 0 (T 403 c x) = pr7_ T c (T 403 c x)) (m2 : U 292 0 (T 403 c x) = lf7_ T c (T 403 c x) (T 100 c 8).toNat) (m3 : U 111 0 95 = pr7_ T c b + T 205 0 (23 * c + 1) * lf7_ T c b (T 100 c 8).toNat) (m4 : ∀ w, U 205 0 (23 * c + w) = T 205 0 (23 * c + w)) : S 591 0 x = cp7_ U c (T 403 c x) := by
  have hn : 0 ≤ T 100 c 8 ∧ T 100 c 8 ≤ 400 := bd_f hT 100 8 tl_0_8 c
  have ls := ls7_e (W := W) lm hn.1 hD en ol e2 (e1 3) (e3 x) xb
  have b1 := pr7_b (x := T 403 c x) hT tq
  have b2 := pr7_b (x := b) hT tq
  have l1 := lf7_b (T := T) (c := c) (v := T 403 c x) (T 100 c 8).toNat
  have l2 := lf7_b (T := T) (c := c) (v := b) (T 100 c 8).toNat
  obtain ⟨-, -, ⟨h4, -⟩, ⟨h6, -⟩, -, -⟩ := tq
  have r1 := h4 1 (by decide) (by decide)
  have r2 := h4 2 (by decide) (by decide)
  have r3 := h4 3 (by decide) (by decide)
  have q1 : 0 ≤ T 205 0 (23 * c + 1) * lf7_ T c b (T 100 c 8).toNat ∧ T 205 0 (23 * c + 1) * lf7_ T c b (T 100 c 8).toNat ≤ 9 * 800 := by
    refine ⟨Int.mul_nonneg (by omega) l2.1, ?_⟩
    exact Int.mul_le_mul (by omega) (by omega) l2.1 (by decide)
  have q2 : 0 ≤ T 205 0 (23 * c + 3) * lf7_ T c (T 403 c x) (T 100 c 8).toNat ∧ T 205 0 (23 * c + 3) * lf7_ T c (T 403 c x) (T 100 c 8).toNat ≤ 9 * 800 := by
    refine ⟨Int.mul_nonneg (by omega) l1.1, ?_⟩
    exact Int.mul_le_mul (by omega) (by omega) l1.1 (by decide)
  have sp : W 109 0 6 - W 587 0 x - ls7_ W c x (W 109 0 9).toNat = U 111 0 95 - U 291 0 (T 403 c x) - U 205 0 (23 * c + 3) * U 292 0 (T 403 c x) := by
    rw [e9, m1, m2, m3, m4, p6, px, ← ls]
    omega
  have bd : -2000000 ≤ U 111 0 95 - U 291 0 (T 403 c x) - U 205 0 (23 * c + 3) * U 292 0 (T 403 c x) ∧ U 111 0 95 - U 291 0 (T 403 c x) - U 205 0 (23 * c + 3) * U 292 0 (T 403 c x) ≤ 2000000 := by
    rw [m1, m2, m3, m4]
    omega
  rw [sc, sp, e1, e1, r1, r2, cq7_e (by omega) bd]
  unfold cp7_
  rw [m4 1, m4 2]
/-- the others as bits: those that entered, but one -/
theorem ob7_e {T : Zt} {c b o v : Int} (h8 : EN1_ T c) (sk : SK_ T c) (ob : OB7_ T c b (T 208 0 c) o) (hv : 0 ≤ v ∧ v < 12) : o.toNat.testBit v.toNat = true ↔ v ≠ b ∧ T 404 c v ≠ -1 := by
  have y := ob v.toNat (by omega)
  rw [show ((v.toNat : Nat) : Int) = v by omega] at y
  rw [y, ← he_s h8 sk hv]
  exact ⟨fun ⟨n, j, h1, h2⟩ => ⟨n, j, h1.1, h1.2, h2⟩, fun ⟨n, j, h1, h2, h3⟩ => ⟨n, j, ⟨h1, h2⟩, h3⟩⟩
/-- clubs and seats of the open matches -/
theorem sq7_i {T S : Zt} {c b t n o : Int} {D : Int → Prop} (hT : ok_T T) (sk : SK_ T c) (h8 : EN1_ T c) (hc : 0 ≤ c ∧ c < T 106 0 2) (hks : KS_ T) (ht : 0 ≤ t ∧ t < T 100 c 5) (hb : T 403 c t = b) (ob : OB7_ T c b (T 208 0 c) o) (lm : LM7_ T c b) (hD : ∀ k, 0 ≤ k → k < T 100 c 8 → (D k ↔ OE7_ T c b k)) (en : n = (dl9_ D (T 100 c 8).toNat).1) (ol : ∀ j : Int, 0 ≤ j → j < n → S 588 0 j = T 100 c 7 + (dl9_ D (T 100 c 8).toNat).2 j) (hct : S 109 0 5 = c + 1) (e2 : ∀ i j, S 102 i j = T 102 i j) (e4 : ∀ i j, S 404 i j = T 404 i j) : SQ7_ o.toNat (fun v => T 404 c v) (fun j => T 232 0 (T 210 0 c + (dl9_ D (T 100 c 8).toNat).2 j)) (fun j => T 233 0 (T 210 0 c + (dl9_ D (T 100 c 8).toNat).2 j)) (hsx_ S) (asx_ S) n (T 100 c 5) t := by
  have hn : 0 ≤ T 100 c 8 ∧ T 100 c 8 ≤ 400 := bd_f hT 100 8 tl_0_8 c
  have hf : 0 ≤ T 100 c 7 ∧ T 100 c 7 ≤ 400 := bd_f hT 100 7 tl_0_7 c
  have e7 : T 210 0 c = T 100 c 7 := h8.2.2.1.symm
  refine ⟨fun k k0 k1 => ?_, fun v hv hb' => ?_, fun u v hu hv h1 h2 e => ?_⟩
  · have dd := dl7_d (D := D) (T 100 c 8).toNat k k0 (by omega)
    have bb := (dl_b (D := D) (T 100 c 8).toNat).2 k k0 (by omega)
    have ok := ol k k0 k1
    show ((0 ≤ T 232 0 (T 210 0 c + (dl9_ D (T 100 c 8).toNat).2 k) ∧ T 232 0 (T 210 0 c + (dl9_ D (T 100 c 8).toNat).2 k) < 12) ∧ (0 ≤ T 233 0 (T 210 0 c + (dl9_ D (T 100 c 8).toNat).2 k) ∧ T 233 0 (T 210 0 c + (dl9_ D (T 100 c 8).toNat).2 k) < 12)) ∧ (o.toNat.testBit (T 232 0 (T 210 0 c + (dl9_ D (T 100 c 8).toNat).2 k)).toNat = true ∧ o.toNat.testBit (T 233 0 (T 210 0 c + (dl9_ D (T 100 c 8).toNat).2 k)).toNat = true) ∧ hsx_ S k = T 404 c (T 232 0 (T 210 0 c + (dl9_ D (T 100 c 8).toNat).2 k)) ∧ asx_ S k = T 404 c (T 233 0 (T 210 0 c + (dl9_ D (T 100 c 8).toNat).2 k))
    generalize (dl9_ D (T 100 c 8).toNat).2 k = q at dd bb ok ⊢
    have oe := (hD q bb.1 (by omega)).mp dd
    have lk := lm.2.2.2 q bb.1 (by omega)
    have s := hks c hc.1 hc.2 (T 100 c 7 + q) (by omega) (by omega)
    rw [lk.1.1, lk.1.2] at s
    have a3 := bd_a hT 232 (by decide +kernel : ta_ 232 = some (1, some 400, 0, 11)) 0 (x := T 210 0 c + q) (by omega)
    have a4 := bd_a hT 233 (by decide +kernel : ta_ 233 = some (1, some 400, 0, 11)) 0 (x := T 210 0 c + q) (by omega)
    refine ⟨⟨⟨a3.1, by omega⟩, a4.1, by omega⟩, ⟨(ob7_e h8 sk ob ⟨a3.1, by omega⟩).mpr ⟨fun z => oe.2 (Or.inl z), by omega⟩, (ob7_e h8 sk ob ⟨a4.1, by omega⟩).mpr ⟨fun z => oe.2 (Or.inr z), by omega⟩⟩, ?_, ?_⟩
    · unfold hsx_
      rw [hct, show c + 1 - 1 = c by omega, ok, e4, e2, lk.1.1]
    · unfold asx_
      rw [hct, show c + 1 - 1 = c by omega, ok, e4, e2, lk.1.2]
  · have y := (ob7_e (v := (v : Int)) h8 sk ob ⟨by omega, by omega⟩).mp (by rw [Int.toNat_natCast]; exact hb')
    have s := (sk.2 (v : Int) (by omega) (by omega)).resolve_left y.2
    refine ⟨⟨s.1, s.2.1⟩, fun z => y.1 ?_⟩
    have z2 : T 404 c (v : Int) = t := z
    have w := s.2.2
    rw [z2, hb] at w
    exact w.symm
  · have y1 := (ob7_e (v := (u : Int)) h8 sk ob ⟨by omega, by omega⟩).mp (by rw [Int.toNat_natCast]; exact h1)
    have y2 := (ob7_e (v := (v : Int)) h8 sk ob ⟨by omega, by omega⟩).mp (by rw [Int.toNat_natCast]; exact h2)
    have s1 := ((sk.2 (u : Int) (by omega) (by omega)).resolve_left y1.2).2.2
    have s2 := ((sk.2 (v : Int) (by omega) (by omega)).resolve_left y2.2).2.2
    have e' : T 404 c (u : Int) = T 404 c (v : Int) := e
    rw [e', s2] at s1
    omega
/-- the reference's pictures on the way tell what stood before -/
def KR7_ (T R : Zt) : Prop := ∀ (k : Nat) (j : Int), k = 205 ∨ k = 207 ∨ k = 208 ∨ k = 210 ∨ k = 211 ∨ k = 232 ∨ k = 233 ∨ k = 235 → R k 0 j = T k 0 j
theorem oe7_k {T R : Zt} {c b : Int} (h : KR7_ T R) : OE7_ R c b = OE7_ T c b := by
  funext k
  unfold OE7_
  rw [h 235 _ (by decide), h 232 _ (by decide), h 233 _ (by decide), h 210 _ (by decide)]
theorem on7_k {T R : Zt} {c b : Int} (h : KR7_ T R) (k : Int) : ON7_ R c b k = ON7_ T c b k := by
  unfold ON7_
  rw [h 235 _ (by decide), h 232 _ (by decide), h 233 _ (by decide), h 210 _ (by decide)]
theorem ol7_k {T R : Zt} {c b v : Int} (h : KR7_ T R) : ∀ n : Nat, ol7_ R c b v n = ol7_ T c b v n
  | 0 => rfl
  | n + 1 => by
    show ol7_ R c b v n + cz_ (ON7_ R c b (n : Int) ∧ v = cz_ (R 232 0 (R 210 0 c + (n : Int)) = b) (R 233 0 (R 210 0 c + (n : Int))) (R 232 0 (R 210 0 c + (n : Int)))) (R 205 0 (23 * c + 3)) 0 = ol7_ T c b v n + cz_ (ON7_ T c b (n : Int) ∧ v = cz_ (T 232 0 (T 210 0 c + (n : Int)) = b) (T 233 0 (T 210 0 c + (n : Int))) (T 232 0 (T 210 0 c + (n : Int)))) (T 205 0 (23 * c + 3)) 0
    rw [ol7_k h n, on7_k h, h 232 _ (by decide), h 233 _ (by decide), h 210 _ (by decide), h 205 _ (by decide)]
theorem lf7_k {T R : Zt} {c v : Int} (h : KR7_ T R) : ∀ n : Nat, lf7_ R c v n = lf7_ T c v n
  | 0 => rfl
  | n + 1 => by
    show lf7_ R c v n + cz_ (R 235 0 (R 210 0 c + (n : Int)) = 0 ∨ R 235 0 (R 210 0 c + (n : Int)) = 1) ((if v = R 232 0 (R 210 0 c + (n : Int)) then 1 else 0) + (if v = R 233 0 (R 210 0 c + (n : Int)) then 1 else 0)) 0 = lf7_ T c v n + cz_ (T 235 0 (T 210 0 c + (n : Int)) = 0 ∨ T 235 0 (T 210 0 c + (n : Int)) = 1) ((if v = T 232 0 (T 210 0 c + (n : Int)) then 1 else 0) + (if v = T 233 0 (T 210 0 c + (n : Int)) then 1 else 0)) 0
    rw [lf7_k h n, h 235 _ (by decide), h 232 _ (by decide), h 233 _ (by decide), h 210 _ (by decide)]
/-- a club's own matches give itself no loser's points -/
theorem ol7_z {T : Zt} {c b : Int} : ∀ n : Nat, (∀ k, 0 ≤ k → k < (n : Int) → T 232 0 (T 210 0 c + k) ≠ T 233 0 (T 210 0 c + k)) → ol7_ T c b b n = 0
  | 0, _ => rfl
  | n + 1, h => by
    show ol7_ T c b b n + cz_ (ON7_ T c b (n : Int) ∧ b = cz_ (T 232 0 (T 210 0 c + (n : Int)) = b) (T 233 0 (T 210 0 c + (n : Int))) (T 232 0 (T 210 0 c + (n : Int)))) (T 205 0 (23 * c + 3)) 0 = 0
    have ne := h (n : Int) (by omega) (by omega)
    rw [ol7_z n (fun k a d => h k a (by omega)), cz_f (fun q => by
      have e := q.2
      by_cases z : T 232 0 (T 210 0 c + (n : Int)) = b
      · rw [cz_t z] at e
        exact ne (z.trans e)
      · rw [cz_f z] at e
        exact z e.symm)]
    rfl
/-- what the list tells, on the reference's words -/
theorem lo7_x {T U V : Zt} {c b n y : Int} (lm : LM7_ T c b) (hm : 0 ≤ T 100 c 7 ∧ 0 ≤ T 100 c 8 ∧ T 100 c 7 + T 100 c 8 ≤ 400) (a : AS7_ T U c) (lo : po_X9_listOpen_e U b n V (some (vI y))) : fr_ [(109, [9]), (584, []), (588, [])] U V ∧ ((y = 1 ∧ V 109 0 9 = (dl9_ (OE7_ T c b) (T 100 c 8).toNat).1 ∧ (∀ j : Int, 0 ≤ j → j < V 109 0 9 → V 588 0 j = T 100 c 7 + (dl9_ (OE7_ T c b) (T 100 c 8).toNat).2 j) ∧ (∀ k, 0 ≤ k → k < T 100 c 8 → (V 584 0 (T 100 c 7 + k) ≠ -1 ↔ OM7_ T c b k)) ∧ V 109 0 9 ≤ n ∧ (∀ k, 0 ≤ k → k < T 100 c 8 → OM7_ T c b k → V 584 0 (T 100 c 7 + k) = cz_ (T 102 (T 100 c 7 + k) 3 = b) 0 2) ∧ (∀ y, 0 ≤ y → y < 400 → (∀ k, 0 ≤ k → k < T 100 c 8 → OM7_ T c b k → y ≠ T 100 c 7 + k) → V 584 0 y = -1)) ∨ (y = 0 ∧ n < (dl9_ (OE7_ T c b) (T 100 c 8).toNat).1)) := by
  obtain ⟨x, e, fV, h⟩ := lo
  cases e
  have eU : ∀ k ∈ [100, 102, 103], ∀ i j, U k i j = T k i j := fun k hk i j => by
    simp only [List.mem_cons, List.not_mem_nil, or_false] at hk
    rcases hk with rfl | rfl | rfl <;> exact a.1 _ i j rfl
  have ed := dn7_l lm hm.2.1 eU
  rw [← lm.2.1] at ed
  refine ⟨fV, ?_⟩
  rw [a.2.1, show c + 1 - 1 = c by omega] at h
  rcases h with ⟨h1, ⟨h2, h3⟩, h4, h5, h6⟩ | ⟨h1, h2⟩
  · rw [ed] at h2 h3
    rw [a.1 100 c 7 rfl] at h3
    have e0 : ∀ i j, U 100 i j = T 100 i j := fun i j => a.1 100 i j rfl
    have e2 : ∀ i j, U 102 i j = T 102 i j := fun i j => a.1 102 i j rfl
    have e3 : ∀ i j, U 103 i j = T 103 i j := fun i j => a.1 103 i j rfl
    have om : ∀ j, OM7_ U c b j ↔ OM7_ T c b j := fun j => by
      unfold OM7_
      simp only [e0, e2, e3]
    refine Or.inl ⟨h1, h2, h3, rs7_o a hm h4 h5, h6, fun k k0 k1 z => ?_, fun y y0 y1 hy => ?_⟩
    · have g := h4 k k0 (by rw [e0]; exact k1) ((om k).mpr z)
      rw [e0, e2] at g
      exact g
    · rw [h5 y (fun j j0 j1 z => by
        rw [e0]
        exact hy j j0 (by rw [← e0]; exact j1) ((om j).mp z))]
      exact a.2.2.2 y y0 y1
  · rw [ed] at h2
    exact Or.inr ⟨h1, h2⟩
/-- seats of other clubs are other seats -/
theorem si7_ {T : Zt} {c b t : Int} (sk : SK_ T c) (ht : 0 ≤ t ∧ t < T 100 c 5) (hb : T 403 c t = b) : ∀ x, 0 ≤ x → x < T 100 c 5 → x ≠ t → T 403 c x ≠ b := fun x x0 x1 xt e => by
  have y1 := sk.1 x x0 x1
  have y2 := sk.1 t ht.1 ht.2
  rw [e, ← hb, y2] at y1
  exact xt y1.symm
/-- the list of open matches is that of the reference -/
theorem pl7_e {T R : Zt} {c b : Int} (lm : LM7_ T c b) (kr : KR7_ T R) : plf_ R b (R 211 0 c).toNat (R 210 0 c) = lh7_ (fun j => T 232 0 (T 210 0 c + (dl9_ (OE7_ T c b) (T 100 c 8).toNat).2 j)) (fun j => T 233 0 (T 210 0 c + (dl9_ (OE7_ T c b) (T 100 c 8).toNat).2 j)) (dl9_ (OE7_ T c b) (T 100 c 8).toNat).1.toNat 0 := by
  rw [kr 211 c (by decide), kr 210 c (by decide), ← lm.2.1, plf_e (T := T) (T1 := R) (fun j => kr 235 j (by decide)) (fun j => kr 232 j (by decide)) (fun j => kr 233 j (by decide))]
  exact (dl7_p (D := OE7_ T c b) (T := T) (cl := b) (fo := T 210 0 c) (T 100 c 8).toNat (fun k p q => by
    have y := (lm.2.2.2 k p (by omega)).2.1
    unfold OE7_
    exact ⟨fun z => ⟨z.1, fun w => z.2 (Or.inl w), fun w => z.2 (Or.inr w), y⟩, fun z => ⟨z.1, fun w => w.elim z.2.1 z.2.2.1⟩⟩)).symm
/-- where the points go evenly: both answers are one -/
theorem ev7_x {T U V W S P R R' : Zt} {c b t x1 x2 o : Int} (hT : ok_T T) (hc : 0 ≤ c ∧ c < T 106 0 2) (tq : TQ_ T c 999) (hks : KS_ T) (hkw : T 401 c 2 ≤ T 401 c 1) (lm : LM7_ T c b) (sm : SM7_ T c) (ht : 0 ≤ t ∧ t < T 100 c 5) (hb : T 403 c t = b) (a : AS7_ T U c) (fV : fr_ [(109, [9]), (584, []), (588, [])] U V) (en : V 109 0 9 = (dl9_ (OE7_ T c b) (T 100 c 8).toNat).1) (ol : ∀ j : Int, 0 ≤ j → j < V 109 0 9 → V 588 0 j = T 100 c 7 + (dl9_ (OE7_ T c b) (T 100 c 8).toNat).2 j) (hr : ∀ k, 0 ≤ k → k < T 100 c 8 → (V 584 0 (T 100 c 7 + k) ≠ -1 ↔ OM7_ T c b k)) (pt : ∀ x, 0 ≤ x → x < T 100 c 5 → W 587 0 x = pp7_ T c x + os7_ V c t x (V 100 c 8).toNat) (tp : po_X9_takePoints_e V t W none) (sc : po_X9_setCaps_e W t S none) (sp : po_X9_spreadParts_e S (T 100 c 5) t P (some (vI x1)))
    (kr : KR7_ T R) (m1 : ∀ v, 0 ≤ v → v < 12 → R 291 0 v = pr7_ T c v) (m2 : ∀ v, 0 ≤ v → v < 12 → R 292 0 v = lf7_ T c v (T 100 c 8).toNat) (m3 : R 111 0 95 = pr7_ T c b + T 205 0 (23 * c + 1) * lf7_ T c b (T 100 c 8).toNat) (ho : 0 ≤ o ∧ o ≤ 4095) (ob : OB7_ T c b (T 208 0 c) o) (re : RE7_ R R' c b o x2) (l40 : (dl9_ (OE7_ T c b) (T 100 c 8).toNat).1 ≤ 40) : x1 = x2 ∧ (x1 = 1 → (∀ j, 0 ≤ j → j < (dl9_ (OE7_ T c b) (T 100 c 8).toNat).1 → P 584 0 (T 100 c 7 + (dl9_ (OE7_ T c b) (T 100 c 8).toNat).2 j) = R' 289 0 (T 210 0 c + (dl9_ (OE7_ T c b) (T 100 c 8).toNat).2 j)) ∧ (∀ y, (∀ j, 0 ≤ j → j < (dl9_ (OE7_ T c b) (T 100 c 8).toNat).1 → y ≠ T 100 c 7 + (dl9_ (OE7_ T c b) (T 100 c 8).toNat).2 j) → P 584 0 y = V 584 0 y) ∧ OW7_ R R' b (R 210 0 c) (R 210 0 c + R 211 0 c)) ∧ (x1 = 1 → R' 111 0 90 = 0) ∧ (x1 ≠ 1 → ∀ T' : Zt, CK7_ P T' c t x1 → T' 109 0 3 = R' 111 0 90) := by
  have tq0 := tq
  obtain ⟨-, -, -, -, ⟨h8, sk, -⟩, -⟩ := tq0
  have hi := si7_ sk ht hb
  have pw := pw7_e hT tq lm sm ht hb hi fV a hr pt
  obtain ⟨-, fW, -, b6⟩ := tp
  obtain ⟨-, fS, sc1, -, -⟩ := sc
  obtain ⟨x, e, fP, sp⟩ := sp
  cases e
  have bd := (dl_b (D := OE7_ T c b) (T 100 c 8).toNat).1
  have c9W : W 109 0 5 = c + 1 := (fW 109 0 5 rfl).trans ((fV 109 0 5 rfl).trans a.2.1)
  have c9S : S 109 0 5 = c + 1 := (fS 109 0 5 rfl).trans c9W
  have w2 : ∀ i j, W 102 i j = T 102 i j := fun i j => (fW 102 i j rfl).trans ((fV 102 i j rfl).trans (a.1 102 i j rfl))
  have w4 : ∀ i j, W 404 i j = T 404 i j := fun i j => (fW 404 i j rfl).trans ((fV 404 i j rfl).trans (a.1 404 i j rfl))
  have w1 : ∀ j, W 401 c j = T 401 c j := fun j => (fW 401 c j rfl).trans ((fV 401 c j rfl).trans (a.1 401 c j rfl))
  have w3 : ∀ j, W 403 c j = T 403 c j := fun j => (fW 403 c j rfl).trans ((fV 403 c j rfl).trans (a.1 403 c j rfl))
  have w5 : W 100 c 5 = T 100 c 5 := (fW 100 c 5 rfl).trans ((fV 100 c 5 rfl).trans (a.1 100 c 5 rfl))
  have n9W : W 109 0 9 = (dl9_ (OE7_ T c b) (T 100 c 8).toNat).1 := (fW 109 0 9 rfl).trans en
  have n9S : S 109 0 9 = (dl9_ (OE7_ T c b) (T 100 c 8).toNat).1 := (fS 109 0 9 rfl).trans n9W
  have olW : ∀ j : Int, 0 ≤ j → j < (dl9_ (OE7_ T c b) (T 100 c 8).toNat).1 → W 588 0 j = T 100 c 7 + (dl9_ (OE7_ T c b) (T 100 c 8).toNat).2 j := fun j p q => (fW 588 0 j rfl).trans (ol j p (by rw [en]; exact q))
  have olS : ∀ j : Int, 0 ≤ j → j < (dl9_ (OE7_ T c b) (T 100 c 8).toNat).1 → S 588 0 j = T 100 c 7 + (dl9_ (OE7_ T c b) (T 100 c 8).toNat).2 j := fun j p q => (fS 588 0 j rfl).trans (olW j p q)
  have Q := sq7_i (S := S) (o := o) hT sk h8 hc hks ht hb ob lm (D := OE7_ T c b) (fun k _ _ => Iff.rfl) rfl olS c9S (fun i j => (fS 102 i j rfl).trans (w2 i j)) (fun i j => (fS 404 i j rfl).trans (w4 i j))
  rw [c9W, show c + 1 - 1 = c by omega, w5] at sc1
  obtain ⟨f0, hf0, re⟩ := re
  have hf : ∀ v : Nat, v < 12 → o.toNat.testBit v = true → f0 v = (fun j => S 591 0 j) ((fun v => T 404 c v) (v : Int)) := fun v hv hv2 => by
    have y := (ob7_e (v := (v : Int)) h8 sk ob ⟨by omega, by omega⟩).mp (by rw [Int.toNat_natCast]; exact hv2)
    have s := (sk.2 (v : Int) (by omega) (by omega)).resolve_left y.2
    have xt : T 404 c (v : Int) ≠ t := fun z => y.1 (by
      have w := s.2.2
      rw [z, hb] at w
      exact w.symm)
    have g := ca7_e (U := R) (S := S) (W := W) (t := t) (x := T 404 c (v : Int)) hT tq lm hkw ⟨s.1, s.2.1⟩ xt (hi _ s.1 s.2.1 xt) (D := OE7_ T c b) (fun k _ _ => Iff.rfl) rfl olW w2 w1 w3 n9W (pw.1 _ s.1 s.2.1 xt) (b6.trans pw.2) (sc1 _ s.1 s.2.1 xt) (by rw [s.2.2]; exact m1 _ (by omega) (by omega)) (by rw [s.2.2]; exact m2 _ (by omega) (by omega)) m3 (fun w => kr 205 _ (by decide))
    show f0 v = S 591 0 (T 404 c (v : Int))
    rw [g, s.2.2]
    exact hf0 v hv
  have pl := pl7_e lm kr
  have hl : ∀ p ∈ lh7_ (fun j => T 232 0 (T 210 0 c + (dl9_ (OE7_ T c b) (T 100 c 8).toNat).2 j)) (fun j => T 233 0 (T 210 0 c + (dl9_ (OE7_ T c b) (T 100 c 8).toNat).2 j)) (dl9_ (OE7_ T c b) (T 100 c 8).toNat).1.toNat 0, p.1 < 12 ∧ p.2 < 12 := lh7_b _ 0 (fun k p q => (Q.1 k p (by omega)).1)
  have ln : ((plf_ R b (R 211 0 c).toNat (R 210 0 c)).length : Int) = (dl9_ (OE7_ T c b) (T 100 c 8).toNat).1 := by
    rw [pl, lh7_n]
    omega
  rcases re with ⟨-, r2, -⟩ | ⟨-, re⟩
  · rw [ln] at r2
    omega
  · rw [pl] at re
    rcases sp with ⟨s1, s2⟩ | ⟨s1, rg, le, st, pr, po⟩
    · have nf : ¬ fe7_ o.toNat (lh7_ (fun j => T 232 0 (T 210 0 c + (dl9_ (OE7_ T c b) (T 100 c 8).toNat).2 j)) (fun j => T 233 0 (T 210 0 c + (dl9_ (OE7_ T c b) (T 100 c 8).toNat).2 j)) (dl9_ (OE7_ T c b) (T 100 c 8).toNat).1.toNat 0) f0 := by
        obtain ⟨hq, i, rg, hi', no, lt⟩ := s2
        rw [n9S] at rg no lt
        have b3 := bd_a hT 403 (by decide +kernel : ta_ 403 = some (1, some 12, 0, 11)) c (x := i) hi'.1
        have e4 := sk.1 i hi'.1 hi'.2.1
        have ce : (((T 403 c i).toNat : Nat) : Int) = T 403 c i := by omega
        have tb : o.toNat.testBit (T 403 c i).toNat = true := (ob7_e h8 sk ob ⟨b3.1, by omega⟩).mpr ⟨hi i hi'.1 hi'.2.1 hi'.2.2, by rw [e4]; omega⟩
        have sv : T 404 c (((T 403 c i).toNat : Nat) : Int) = i := by
          rw [ce]
          exact e4
        exact nf7_0 (c := fun j => S 591 0 j) (hq := hq) (v0 := (T 403 c i).toNat) Q bd.1 hf (by omega) tb rg (by rw [sv]; exact no) (by rw [sv]; exact lt)
      rcases re with ⟨r1, cu⟩ | ⟨-, -, r2, -, r3⟩
      · refine ⟨by rw [s1, r1], fun z => absurd (s1.symm.trans z) (by decide), fun z => absurd (s1.symm.trans z) (by decide), fun _ T' ck => ?_⟩
        unfold CK7_ at ck
        obtain ⟨G, eG, g9, o2, ho2, og, alt⟩ := ck s1
        have p2 : ∀ i j, G 102 i j = T 102 i j := fun i j => (eG 102 i j (by decide)).trans ((fP 102 i j rfl).trans ((fS 102 i j rfl).trans (w2 i j)))
        have p4 : ∀ j, G 404 c j = T 404 c j := fun j => (eG 404 c j (by decide)).trans ((fP 404 c j rfl).trans ((fS 404 c j rfl).trans (w4 c j)))
        have p3 : ∀ j, G 403 c j = T 403 c j := fun j => (eG 403 c j (by decide)).trans ((fP 403 c j rfl).trans ((fS 403 c j rfl).trans (w3 j)))
        have p5 : G 100 c 5 = T 100 c 5 := (eG 100 c 5 (by decide)).trans ((fP 100 c 5 rfl).trans ((fS 100 c 5 rfl).trans w5))
        have p8 : ∀ j : Int, 0 ≤ j → j < (dl9_ (OE7_ T c b) (T 100 c 8).toNat).1 → G 588 0 j = T 100 c 7 + (dl9_ (OE7_ T c b) (T 100 c 8).toNat).2 j := fun j p q => (eG 588 0 j (by decide)).trans ((fP 588 0 j rfl).trans (olS j p q))
        have p1 : ∀ j, G 591 0 j = S 591 0 j := fun j => (eG 591 0 j (by decide)).trans (fP 591 0 j rfl)
        have p9 : G 109 0 9 = (dl9_ (OE7_ T c b) (T 100 c 8).toNat).1 := g9.trans ((fP 109 0 9 rfl).trans n9S)
        have el : lh7_ (fun j => G 102 (G 588 0 j) 3) (fun j => G 102 (G 588 0 j) 4) (G 109 0 9).toNat 0 = lh7_ (fun j => T 232 0 (T 210 0 c + (dl9_ (OE7_ T c b) (T 100 c 8).toNat).2 j)) (fun j => T 233 0 (T 210 0 c + (dl9_ (OE7_ T c b) (T 100 c 8).toNat).2 j)) (dl9_ (OE7_ T c b) (T 100 c 8).toNat).1.toNat 0 := by
          rw [p9]
          refine lh7_e _ 0 (fun k p q => ?_)
          have bb := dl7_k (D := OE7_ T c b) (n := T 100 c 8) p (by omega)
          have lk := (lm.2.2.2 _ bb.1 bb.2).1
          show G 102 (G 588 0 k) 3 = T 232 0 (T 210 0 c + (dl9_ (OE7_ T c b) (T 100 c 8).toNat).2 k) ∧ G 102 (G 588 0 k) 4 = T 233 0 (T 210 0 c + (dl9_ (OE7_ T c b) (T 100 c 8).toNat).2 k)
          rw [p8 k p (by omega), p2, p2]
          exact lk
        rw [el] at alt
        have eo : o2 = o := bi7_e ho2 ho (fun v hv => by
          have y := ob7_e (v := (v : Int)) h8 sk ob ⟨by omega, by omega⟩
          rw [Int.toNat_natCast] at y
          rw [og v hv, y, p5]
          constructor
          · rintro ⟨j, ⟨j0, j1, j2⟩, w⟩
            rw [p3] at w
            have y1 := sk.1 j j0 j1
            rw [w] at y1
            exact ⟨fun z => hi j j0 j1 j2 (w.trans z), by omega⟩
          · rintro ⟨z1, z2⟩
            have s := (sk.2 (v : Int) (by omega) (by omega)).resolve_left z2
            refine ⟨T 404 c (v : Int), ⟨s.1, s.2.1, fun z => z1 ?_⟩, by rw [p3]; exact s.2.2⟩
            have w := s.2.2
            rw [z, hb] at w
            exact w.symm)
        refine ck7_u ho eo (fun k hk q => ?_) cu alt
        have y := (ob7_e (v := (k : Int)) h8 sk ob ⟨by omega, by omega⟩).mp (by rw [Int.toNat_natCast]; exact q)
        rw [hf k hk q]
        show cz_ (G 404 c (k : Int) = -1) 0 (G 591 0 (G 404 c (k : Int))) = S 591 0 (T 404 c (k : Int))
        rw [p4, p1, cz_f y.2]
      · exact absurd (lx7_f _ _ _ r2 r3) nf
    · rw [n9S] at rg le st pr po
      have fe : fe7_ o.toNat (lh7_ (fun j => T 232 0 (T 210 0 c + (dl9_ (OE7_ T c b) (T 100 c 8).toNat).2 j)) (fun j => T 233 0 (T 210 0 c + (dl9_ (OE7_ T c b) (T 100 c 8).toNat).2 j)) (dl9_ (OE7_ T c b) (T 100 c 8).toNat).1.toNat 0) f0 := by
        refine fe7_i (h := fun j => P 590 0 j) _ 0 f0 (fun k p q => rg k p (by omega)) (fun k p q => ?_)
        rw [fc7_t (c := fun j => S 591 0 j) Q hf p q bd.1]
        have z := Q.2.1 k p q
        have w := le ((fun v => T 404 c v) (k : Int)) z.1.1 z.1.2
        show 0 ≤ S 591 0 ((fun v => T 404 c v) (k : Int)) - sf9_ (pk7_ (hsx_ S) (asx_ S) (fun j => P 590 0 j) ((fun v => T 404 c v) (k : Int))) 0 (dl9_ (OE7_ T c b) (T 100 c 8).toNat).1.toNat
        omega
      rcases re with ⟨-, r2⟩ | ⟨r1, r90, r2, ow, -⟩
      · exact absurd fe (cu7_x ho hl r2)
      · have hne : ∀ k, 0 ≤ k → k < (dl9_ (OE7_ T c b) (T 100 c 8).toNat).1 → hsx_ S k ≠ asx_ S k := fun k k0 k1 z => by
          have y := Q.1 k k0 k1
          have y1 : 0 ≤ T 232 0 (T 210 0 c + (dl9_ (OE7_ T c b) (T 100 c 8).toNat).2 k) ∧ T 232 0 (T 210 0 c + (dl9_ (OE7_ T c b) (T 100 c 8).toNat).2 k) < 12 := y.1.1
          have y2 : 0 ≤ T 233 0 (T 210 0 c + (dl9_ (OE7_ T c b) (T 100 c 8).toNat).2 k) ∧ T 233 0 (T 210 0 c + (dl9_ (OE7_ T c b) (T 100 c 8).toNat).2 k) < 12 := y.1.2
          have bb := (dl_b (D := OE7_ T c b) (T 100 c 8).toNat).2 k k0 k1
          have lk := (lm.2.2.2 _ bb.1 (by omega)).2.1
          have w := Q.2.2 (T 232 0 (T 210 0 c + (dl9_ (OE7_ T c b) (T 100 c 8).toNat).2 k)).toNat (T 233 0 (T 210 0 c + (dl9_ (OE7_ T c b) (T 100 c 8).toNat).2 k)).toNat (by omega) (by omega) y.2.1.1 y.2.1.2 (by
            have a1 : (((T 232 0 (T 210 0 c + (dl9_ (OE7_ T c b) (T 100 c 8).toNat).2 k)).toNat : Nat) : Int) = T 232 0 (T 210 0 c + (dl9_ (OE7_ T c b) (T 100 c 8).toNat).2 k) := by omega
            have a2 : (((T 233 0 (T 210 0 c + (dl9_ (OE7_ T c b) (T 100 c 8).toNat).2 k)).toNat : Nat) : Int) = T 233 0 (T 210 0 c + (dl9_ (OE7_ T c b) (T 100 c 8).toNat).2 k) := by omega
            rw [a1, a2]
            exact (y.2.2.1.symm.trans z).trans y.2.2.2)
          omega
        have lxh : LX7_ o.toNat (lh7_ (fun j => T 232 0 (T 210 0 c + (dl9_ (OE7_ T c b) (T 100 c 8).toNat).2 j)) (fun j => T 233 0 (T 210 0 c + (dl9_ (OE7_ T c b) (T 100 c 8).toNat).2 j)) (dl9_ (OE7_ T c b) (T 100 c 8).toNat).1.toNat 0) f0 (hw7_ (fun j => P 590 0 j) (dl9_ (OE7_ T c b) (T 100 c 8).toNat).1.toNat 0) := lx7_h (c := fun j => S 591 0 j) (hp := fun j => P 590 0 j) Q hf rg le st hne (dl9_ (OE7_ T c b) (T 100 c 8).toNat).1.toNat 0 (Int.le_refl 0) (by omega)
        have wq := lx7_u _ _ _ _ r2 lxh
        rw [kr 211 c (by decide), kr 210 c (by decide), ← lm.2.1] at wq
        refine ⟨by rw [s1, r1], fun _ => ⟨fun j p q => ?_, fun y hy => ?_, ow⟩, fun _ => r90, fun z => absurd s1 z⟩
        · have g := dl7_w (T := R) (U := R') (D := OE7_ T c b) (cl := b) (fo := T 210 0 c) (h := fun j => P 590 0 j) (T 100 c 8).toNat (fun k p q => by
            have y := (lm.2.2.2 k p (by omega)).2.1
            rw [kr 235 _ (by decide), kr 232 _ (by decide), kr 233 _ (by decide)]
            unfold OE7_
            exact ⟨fun z => ⟨z.1, fun w => z.2 (Or.inl w), fun w => z.2 (Or.inr w), y⟩, fun z => ⟨z.1, fun w => w.elim z.2.1 z.2.2.1⟩⟩) wq j p q
          have g2 := pr j p q
          rw [olS j p q] at g2
          rw [g2]
          exact g.symm
        · rw [po y (fun j p q => by rw [olS j p q]; exact hy j p q), fS 584 0 y rfl, fW 584 0 y rfl]
theorem rl7_a {U : Zt} {op g : Int → Int} : ∀ (i : Nat) (k : Int), rl7_ U op i k = la7_ g i k → ∀ j, k ≤ j → j < k + (i : Int) → U 584 0 (op j) = g j
  | 0, _, _, j, a, b => by omega
  | i + 1, k, h, j, a, b => by
    have h2 : U 584 0 (op k) :: rl7_ U op i (k + 1) = g k :: la7_ g i (k + 1) := h
    by_cases z : j = k
    · rw [z]
      exact (List.cons.inj h2).1
    · exact rl7_a i (k + 1) (List.cons.inj h2).2 j (by omega) (by omega)
/-- where they don't: both answers are one -/
theorem od7_x {T U V W P R R' : Zt} {c b t z x1 x2 : Int} (hT : ok_T T) (hc : 0 ≤ c ∧ c < T 106 0 2) (tq : TQ_ T c 999) (hks : KS_ T) (lm : LM7_ T c b) (sm : SM7_ T c) (ht : 0 ≤ t ∧ t < T 100 c 5) (hb : T 403 c t = b) (a : AS7_ T U c) (fV : fr_ [(109, [9]), (584, []), (588, [])] U V) (en : V 109 0 9 = (dl9_ (OE7_ T c b) (T 100 c 8).toNat).1) (ol : ∀ j : Int, 0 ≤ j → j < V 109 0 9 → V 588 0 j = T 100 c 7 + (dl9_ (OE7_ T c b) (T 100 c 8).toNat).2 j) (hr : ∀ k, 0 ≤ k → k < T 100 c 8 → (V 584 0 (T 100 c 7 + k) ≠ -1 ↔ OM7_ T c b k)) (pt : ∀ x, 0 ≤ x → x < T 100 c 5 → W 587 0 x = pp7_ T c x + os7_ V c t x (V 100 c 8).toNat) (tp : po_X9_takePoints_e V t W none) (na : po_X9_noneAbove_e W t W (some (vI z))) (sr : (z = 0 ∧ x1 = 0) ∨ (z = 1 ∧ po_X9_search_e8 W (T 100 c 5) 0 P (some (vI x1))))
    (kr : KR7_ T R) (m1 : ∀ v, 0 ≤ v → v < 12 → R 291 0 v = pr7_ T c v) (m3 : R 111 0 95 = pr7_ T c b + T 205 0 (23 * c + 1) * lf7_ T c b (T 100 c 8).toNat) (ct : CT7_ R R' c b x2) (l8 : (dl9_ (OE7_ T c b) (T 100 c 8).toNat).1 ≤ 8) : x1 = x2 ∧ (x1 = 1 → (∀ j, 0 ≤ j → j < (dl9_ (OE7_ T c b) (T 100 c 8).toNat).1 → P 584 0 (T 100 c 7 + (dl9_ (OE7_ T c b) (T 100 c 8).toNat).2 j) = R' 289 0 (T 210 0 c + (dl9_ (OE7_ T c b) (T 100 c 8).toNat).2 j)) ∧ ∀ y, (∀ j, 0 ≤ j → j < (dl9_ (OE7_ T c b) (T 100 c 8).toNat).1 → y ≠ T 100 c 7 + (dl9_ (OE7_ T c b) (T 100 c 8).toNat).2 j) → P 584 0 y = V 584 0 y) := by
  have tq0 := tq
  obtain ⟨-, -, ⟨h4, -⟩, ⟨h6, -⟩, ⟨h8, sk, -⟩, -⟩ := tq0
  have hi := si7_ sk ht hb
  have pw := pw7_e hT tq lm sm ht hb hi fV a hr pt
  obtain ⟨-, fW, -, b6⟩ := tp
  have hf7 : 0 ≤ T 100 c 7 ∧ T 100 c 7 ≤ 400 := bd_f hT 100 7 tl_0_7 c
  have bd := dl_b (D := OE7_ T c b) (T 100 c 8).toNat
  have c9W : W 109 0 5 = c + 1 := (fW 109 0 5 rfl).trans ((fV 109 0 5 rfl).trans a.2.1)
  have w2 : ∀ i j, W 102 i j = T 102 i j := fun i j => (fW 102 i j rfl).trans ((fV 102 i j rfl).trans (a.1 102 i j rfl))
  have w4 : ∀ i j, W 404 i j = T 404 i j := fun i j => (fW 404 i j rfl).trans ((fV 404 i j rfl).trans (a.1 404 i j rfl))
  have w1 : ∀ j, W 401 c j = T 401 c j := fun j => (fW 401 c j rfl).trans ((fV 401 c j rfl).trans (a.1 401 c j rfl))
  have w5 : W 100 c 5 = T 100 c 5 := (fW 100 c 5 rfl).trans ((fV 100 c 5 rfl).trans (a.1 100 c 5 rfl))
  have n9W : W 109 0 9 = (dl9_ (OE7_ T c b) (T 100 c 8).toNat).1 := (fW 109 0 9 rfl).trans en
  have olW : ∀ j : Int, 0 ≤ j → j < (dl9_ (OE7_ T c b) (T 100 c 8).toNat).1 → W 588 0 j = T 100 c 7 + (dl9_ (OE7_ T c b) (T 100 c 8).toNat).2 j := fun j p q => (fW 588 0 j rfl).trans (ol j p (by rw [en]; exact q))
  have be : W 109 0 6 = R 111 0 95 := (b6.trans pw.2).trans m3.symm
  -- the rules of both
  have ru : ∀ w, 1 ≤ w → w ≤ 3 → (fun w => W 401 c w) w = (fun w => T 205 0 (23 * c + w)) w := fun w p q => by
    show W 401 c w = T 205 0 (23 * c + w)
    rw [w1]
    exact h4 w (by omega) (by omega)
  have rb : ∀ w, 1 ≤ w ∧ w ≤ 3 → 0 ≤ (fun w => W 401 c w) w ∧ (fun w => W 401 c w) w ≤ 1000 := fun w hw => by
    show 0 ≤ W 401 c w ∧ W 401 c w ≤ 1000
    rw [w1]
    rcases (by omega : w = 1 ∨ w = 2 ∨ w = 3) with z | z | z
    · rw [z]; omega
    · rw [z]; omega
    · rw [z]; omega
  have rb2 : ∀ w, 1 ≤ w ∧ w ≤ 3 → 0 ≤ (fun w => T 205 0 (23 * c + w)) w ∧ (fun w => T 205 0 (23 * c + w)) w ≤ 1000 := fun w hw => by
    have y : 0 ≤ W 401 c w ∧ W 401 c w ≤ 1000 := rb w hw
    have z : W 401 c w = T 205 0 (23 * c + w) := ru w hw.1 hw.2
    show 0 ≤ T 205 0 (23 * c + w) ∧ T 205 0 (23 * c + w) ≤ 1000
    omega
  -- the seats and clubs of the open matches
  have oh : ∀ k, 0 ≤ k → k < (dl9_ (OE7_ T c b) (T 100 c 8).toNat).1 → (0 ≤ hsx_ W k ∧ hsx_ W k < T 100 c 5 ∧ hsx_ W k ≠ t ∧ T 403 c (hsx_ W k) = T 232 0 (T 210 0 c + (dl9_ (OE7_ T c b) (T 100 c 8).toNat).2 k)) ∧ (0 ≤ asx_ W k ∧ asx_ W k < T 100 c 5 ∧ asx_ W k ≠ t ∧ T 403 c (asx_ W k) = T 233 0 (T 210 0 c + (dl9_ (OE7_ T c b) (T 100 c 8).toNat).2 k)) := fun k k0 k1 => by
    have dd := dl7_d (D := OE7_ T c b) (T 100 c 8).toNat k k0 k1
    have bb := bd.2 k k0 k1
    have ok := olW k k0 k1
    unfold hsx_ asx_
    rw [c9W, show c + 1 - 1 = c by omega, ok, w4, w4, w2, w2]
    generalize (dl9_ (OE7_ T c b) (T 100 c 8).toNat).2 k = q at dd bb ⊢
    have lk := lm.2.2.2 q bb.1 (by omega)
    have s := hks c hc.1 hc.2 (T 100 c 7 + q) (by omega) (by omega)
    have b3 : 0 ≤ T 102 (T 100 c 7 + q) 3 ∧ T 102 (T 100 c 7 + q) 3 ≤ 11 := bd_f hT 102 3 tl_2_3 _
    have b4 : 0 ≤ T 102 (T 100 c 7 + q) 4 ∧ T 102 (T 100 c 7 + q) 4 ≤ 11 := bd_f hT 102 4 tl_2_4 _
    have s3 := (sk.2 _ b3.1 (by omega)).resolve_left (by omega : T 404 c (T 102 (T 100 c 7 + q) 3) ≠ -1)
    have s4 := (sk.2 _ b4.1 (by omega)).resolve_left (by omega : T 404 c (T 102 (T 100 c 7 + q) 4) ≠ -1)
    refine ⟨⟨s3.1, s3.2.1, fun z => dd.2 (Or.inl ?_), s3.2.2.trans lk.1.1⟩, s4.1, s4.2.1, fun z => dd.2 (Or.inr ?_), s4.2.2.trans lk.1.2⟩
    · have w := s3.2.2
      rw [z, hb] at w
      rw [← lk.1.1]
      exact w.symm
    · have w := s4.2.2
      rw [z, hb] at w
      rw [← lk.1.2]
      exact w.symm
  have sx : ∀ x y, 0 ≤ x → x < T 100 c 5 → 0 ≤ y → y < T 100 c 5 → (x = y ↔ T 403 c x = T 403 c y) := fun x y x0 x1 y0 y1 => ⟨fun e => by rw [e], fun e => by
    have p := sk.1 x x0 x1
    have q := sk.1 y y0 y1
    rw [e, q] at p
    exact p.symm⟩
  have lfb := lf7_b (T := T) (c := c) (v := b) (T 100 c 8).toNat
  have q1 : 0 ≤ T 205 0 (23 * c + 1) * lf7_ T c b (T 100 c 8).toNat := Int.mul_nonneg (by have y := h4 1 (by decide) (by decide); omega) lfb.1
  have b12 : 0 ≤ b ∧ b < 12 := by
    have y := bd_a hT 403 (by decide +kernel : ta_ 403 = some (1, some 12, 0, 11)) c (x := t) ht.1
    rw [hb] at y
    omega
  have olz := ol7_z (T := T) (c := c) (b := b) (T 100 c 8).toNat (fun k p q => (lm.2.2.2 k p (by omega)).2.1)
  -- the points of both
  have pA : ∀ x, (0 ≤ x ∧ x < T 100 c 5) → x ≠ t → (fun v => W 587 0 v) x = (fun v => R 291 0 v + ol7_ T c b v (T 100 c 8).toNat) ((fun x => T 403 c x) x) := fun x hx xt => by
    have y := bd_a hT 403 (by decide +kernel : ta_ 403 = some (1, some 12, 0, 11)) c (x := x) hx.1
    show W 587 0 x = R 291 0 (T 403 c x) + ol7_ T c b (T 403 c x) (T 100 c 8).toNat
    rw [pw.1 x hx.1 hx.2 xt, m1 _ y.1 (by omega)]
  have E : ∀ l : List Int, l.length = (dl9_ (OE7_ T c b) (T 100 c 8).toNat).1.toNat → VD7_ l → (ok7_ (fun w => W 401 c w) (hsx_ W) (asx_ W) (fun x => 0 ≤ x ∧ x < T 100 c 5) (R 111 0 95) l 0 (fun v => W 587 0 v) ↔ ok7_ (fun w => T 205 0 (23 * c + w)) (fun j => T 232 0 (T 210 0 c + (dl9_ (OE7_ T c b) (T 100 c 8).toNat).2 j)) (fun j => T 233 0 (T 210 0 c + (dl9_ (OE7_ T c b) (T 100 c 8).toNat).2 j)) (fun v => ∃ i9 : Int, (0 ≤ i9 ∧ i9 < T 208 0 c) ∧ T 207 0 (12 * c + i9) = v) (R 111 0 95) l 0 (fun v => R 291 0 v + ol7_ T c b v (T 100 c 8).toNat)) := fun l ll vd => by
    have nt : gs7_ (fun w => W 401 c w) (hsx_ W) (asx_ W) l 0 t = 0 := gs7_z l 0 (fun j p q => by
      have y := oh j p (by omega)
      exact ⟨fun e => y.1.2.2.1 e.symm, fun e => y.2.2.2.1 e.symm⟩)
    have nb : gs7_ (fun w => T 205 0 (23 * c + w)) (fun j => T 232 0 (T 210 0 c + (dl9_ (OE7_ T c b) (T 100 c 8).toNat).2 j)) (fun j => T 233 0 (T 210 0 c + (dl9_ (OE7_ T c b) (T 100 c 8).toNat).2 j)) l 0 b = 0 := gs7_z l 0 (fun j p q => by
      have dd := dl7_d (D := OE7_ T c b) (T 100 c 8).toNat j p (by omega)
      exact ⟨fun e => dd.2 (Or.inl e.symm), fun e => dd.2 (Or.inr e.symm)⟩)
    refine ok7_q (cl := fun x => T 403 c x) (t := t) (fun v => ?_) (fun x hx => ?_) pA ?_ ?_
    · constructor
      · rintro ⟨i, hi9, e⟩
        refine ⟨i, ⟨hi9.1, by rw [h8.1]; exact hi9.2⟩, ?_⟩
        show T 403 c i = v
        rw [h8.2.2.2.2.1 i hi9.1 (by rw [h8.1]; exact hi9.2)]
        exact e
      · rintro ⟨x, hx, e⟩
        have e2 : T 403 c x = v := e
        exact ⟨x, ⟨hx.1, by rw [← h8.1]; exact hx.2⟩, by rw [← h8.2.2.2.2.1 x hx.1 hx.2]; exact e2⟩
    · refine gs7_m l 0 vd ru (fun j p q => ?_)
      have y := oh j p (by omega)
      show (x = hsx_ W j ↔ T 403 c x = T 232 0 (T 210 0 c + (dl9_ (OE7_ T c b) (T 100 c 8).toNat).2 j)) ∧ (x = asx_ W j ↔ T 403 c x = T 233 0 (T 210 0 c + (dl9_ (OE7_ T c b) (T 100 c 8).toNat).2 j))
      rw [← y.1.2.2.2, ← y.2.2.2.2]
      exact ⟨sx x _ hx.1 hx.2 y.1.1 y.1.2.1, sx x _ hx.1 hx.2 y.2.1 y.2.2.1⟩
    · show W 587 0 t + gs7_ (fun w => W 401 c w) (hsx_ W) (asx_ W) l 0 t ≤ R 111 0 95
      rw [nt, ← be, b6]
      omega
    · show R 291 0 (T 403 c t) + ol7_ T c b (T 403 c t) (T 100 c 8).toNat + gs7_ (fun w => T 205 0 (23 * c + w)) (fun j => T 232 0 (T 210 0 c + (dl9_ (OE7_ T c b) (T 100 c 8).toNat).2 j)) (fun j => T 233 0 (T 210 0 c + (dl9_ (OE7_ T c b) (T 100 c 8).toNat).2 j)) l 0 (T 403 c t) ≤ R 111 0 95
      rw [hb, nb, olz, m1 b b12.1 b12.2, m3]
      omega
  -- the reference's answer, in the words of before
  have e11 : R 211 0 c = T 100 c 8 := (kr 211 c (by decide)).trans lm.2.1.symm
  have e10 : R 210 0 c = T 210 0 c := kr 210 c (by decide)
  have e05 : (fun w => R 205 0 (23 * c + w)) = (fun w => T 205 0 (23 * c + w)) := funext (fun w => kr 205 _ (by decide))
  have e32 : (fun j => R 232 0 (T 210 0 c + (dl9_ (OE7_ T c b) (T 100 c 8).toNat).2 j)) = (fun j => T 232 0 (T 210 0 c + (dl9_ (OE7_ T c b) (T 100 c 8).toNat).2 j)) := funext (fun j => kr 232 _ (by decide))
  have e33 : (fun j => R 233 0 (T 210 0 c + (dl9_ (OE7_ T c b) (T 100 c 8).toNat).2 j)) = (fun j => T 233 0 (T 210 0 c + (dl9_ (OE7_ T c b) (T 100 c 8).toNat).2 j)) := funext (fun j => kr 233 _ (by decide))
  have eVC : (fun v => ∃ i9 : Int, (0 ≤ i9 ∧ i9 < R 208 0 c) ∧ R 207 0 (12 * c + i9) = v) = (fun v => ∃ i9 : Int, (0 ≤ i9 ∧ i9 < T 208 0 c) ∧ T 207 0 (12 * c + i9) = v) := funext (fun v => by simp only [kr 208 c (by decide), fun j => kr 207 j (by decide)])
  have eol : (fun v => R 291 0 v + ol7_ R c b v (T 100 c 8).toNat) = (fun v => R 291 0 v + ol7_ T c b v (T 100 c 8).toNat) := funext (fun v => by rw [ol7_k kr])
  unfold CT7_ at ct
  rw [oe7_k kr, e11] at ct
  rcases ct with ⟨-, g⟩ | ⟨-, -, -, ct⟩
  · omega
  · rw [e10, e05, e32, e33, eVC, eol] at ct
    obtain ⟨-, zz, e, na⟩ := na
    cases e
    rw [c9W, show c + 1 - 1 = c by omega, w5, be] at na
    rcases sr with ⟨z0, s0⟩ | ⟨z1, sr⟩
    · -- one is above from the start
      rcases na with ⟨n1, -⟩ | ⟨-, v, hv, lt⟩
      · omega
      · rcases ct with ⟨-, w, hw, g, -, -⟩ | ⟨c0, -⟩
        · exfalso
          have vd := (dw7_v _ w hw.1 hw.2).1
          have y := (E _ (dw7_l _ w) vd).mpr g
          exact ok7_a (v := v) rb ⟨hv.1, hv.2.1⟩ lt _ vd 0 y
        · exact ⟨by rw [s0, c0], fun z => absurd (s0.symm.trans z) (by decide)⟩
    · rcases na with ⟨-, n2⟩ | ⟨n1, -⟩
      · obtain ⟨xx, e, -, ps⟩ := sr
        cases e
        rw [c9W, show c + 1 - 1 = c by omega, n9W, be] at ps
        unfold PS7_ at ps
        rw [show (dl9_ (OE7_ T c b) (T 100 c 8).toNat).1 - 0 = (dl9_ (OE7_ T c b) (T 100 c 8).toNat).1 by omega] at ps
        have hp : ∀ v, (0 ≤ v ∧ v < T 100 c 5) → (fun v => W 587 0 v) v ≤ R 111 0 95 := fun v hv => by
          show W 587 0 v ≤ R 111 0 95
          by_cases q : v = t
          · rw [q, ← b6, be]
            exact Int.le_refl _
          · exact n2 v hv.1 hv.2 q
        have tr := tr7_q (ru := fun w => W 401 c w) (hs := hsx_ W) (aw := asx_ W) (p := fun v => W 587 0 v) (VS := fun x => 0 ≤ x ∧ x < T 100 c 5) (be := R 111 0 95) (n := (dl9_ (OE7_ T c b) (T 100 c 8).toNat).1.toNat) rb hp (fun j p q => by
          have y := oh j p (by omega)
          exact ⟨⟨y.1.1, y.1.2.1⟩, y.2.1, y.2.2.1⟩) E
        rcases ct with ⟨c1, w, hw, g, gu, la⟩ | ⟨c0, g⟩
        · have y := tr.1 w hw.1 hw.2 g gu
          rcases ps.1 with ⟨p1, p2⟩ | ⟨-, p2, -⟩
          · rw [y] at p2
            have rl := Option.some.inj p2
            rw [← la] at rl
            have pj := rl7_a (U := P) (op := fun j => W 588 0 j) (g := fun j => R' 289 0 (T 210 0 c + (dl9_ (OE7_ T c b) (T 100 c 8).toNat).2 j)) _ 0 rl.symm
            refine ⟨by rw [p1, c1], fun _ => ⟨fun j p q => ?_, fun yy hy => ?_⟩⟩
            · have g9 : P 584 0 (W 588 0 j) = R' 289 0 (T 210 0 c + (dl9_ (OE7_ T c b) (T 100 c 8).toNat).2 j) := pj j p (by omega)
              rw [olW j p q] at g9
              exact g9
            · have g9 := ps.2.2 yy (fun j p q => by
                show yy ≠ W 588 0 j
                rw [olW j p q]
                exact hy j p q)
              rw [g9, fW 584 0 yy rfl]
          · rw [y] at p2
            exact absurd p2 (by simp)
        · have y := tr.2 g
          rcases ps.1 with ⟨-, p2⟩ | ⟨p1, -, -⟩
          · rw [y] at p2
            exact absurd p2 (by simp)
          · exact ⟨by rw [p1, c0], fun z => absurd (p1.symm.trans z) (by decide)⟩
      · omega
/-- what stands of a witness is the same on both sides -/
def WIT_ (T : Zt) : Prop := (T 109 0 2 ≠ 1 ∧ T 111 0 88 = -1) ∨ (T 109 0 2 = 1 ∧ (0 ≤ T 111 0 88 ∧ T 111 0 88 < T 106 0 2) ∧ T 100 (T 111 0 88) 6 ≠ 0 ∧ ∀ m, 0 ≤ m → m < 400 → (m < T 106 0 4 → T 102 m 0 = T 111 0 88 → T 584 0 m = T 289 0 m) ∧ (T 106 0 4 ≤ m ∨ T 102 m 0 ≠ T 111 0 88 → T 584 0 m = -1))
theorem wit_k {T U : Zt} (h : WIT_ T) (e9 : U 109 0 2 = T 109 0 2) (e88 : U 111 0 88 = T 111 0 88) (e2 : U 106 0 2 = T 106 0 2) (e4 : U 106 0 4 = T 106 0 4) (e6 : ∀ c, U 100 c 6 = T 100 c 6) (e0 : ∀ m, U 102 m 0 = T 102 m 0) (eh : ∀ m, U 584 0 m = T 584 0 m) (er : ∀ m, U 289 0 m = T 289 0 m) : WIT_ U := by
  unfold WIT_ at h ⊢
  rw [e9, e88, e2, e4, e6]
  simp only [e0, eh, er]
  exact h
/-- a competition more -/
theorem wit_c {T U : Zt} (h : WIT_ T) (ax : T 106 0 2 ≤ U 106 0 2 ∧ ∀ c, c < T 106 0 2 → U 100 c 6 = T 100 c 6) (e9 : U 109 0 2 = T 109 0 2) (e88 : U 111 0 88 = T 111 0 88) (e4 : U 106 0 4 = T 106 0 4) (e0 : ∀ m, U 102 m 0 = T 102 m 0) (eh : ∀ m, U 584 0 m = T 584 0 m) (er : ∀ m, U 289 0 m = T 289 0 m) : WIT_ U := by
  unfold WIT_ at h ⊢
  rw [e9, e88, e4]
  simp only [e0, eh, er]
  rcases h with h | ⟨h1, h2, h3, h4⟩
  · exact Or.inl h
  · exact Or.inr ⟨h1, ⟨h2.1, by omega⟩, by rw [ax.2 _ h2.2]; exact h3, h4⟩
/-- a plan -/
theorem wit_p {T U : Zt} {c b x : Int} (h : WIT_ T) (p : PH9_ T U c b x) : WIT_ U := by
  rcases p with ⟨z, -⟩ | ⟨hc, -, h6, -, -, -, -, sj, ap⟩
  · rw [z]
    exact h
  · obtain ⟨-, f, od, -, -, oc⟩ := sj
    rcases h with h | ⟨h1, h2, h3, h4⟩
    · exact Or.inl ⟨by rw [f 109 0 2 rfl]; exact h.1, (f 111 0 88 rfl).trans h.2⟩
    · have ne : T 111 0 88 ≠ c := fun z => h3 (by rw [z]; exact h6)
      refine Or.inr ⟨(f 109 0 2 rfl).trans h1, ?_, ?_, fun m m0 m1 => ?_⟩
      · rw [f 111 0 88 rfl, f 106 0 2 rfl]
        exact h2
      · rw [f 111 0 88 rfl, oc _ 6 ne]
        exact h3
      · have g := h4 m m0 m1
        have le : T 106 0 4 ≤ U 106 0 4 := by
          have y := ap.1
          omega
        rw [f 111 0 88 rfl, f 584 0 m rfl, f 289 0 m rfl]
        by_cases z : m < T 106 0 4
        · rw [od m 0 z]
          exact ⟨fun _ q => g.1 z q, fun q => g.2 (q.elim (fun w => absurd w (by omega)) Or.inr)⟩
        · refine ⟨fun q w => ?_, fun _ => g.2 (Or.inl (by omega))⟩
          exfalso
          have hk : (m - T 106 0 4).toNat < (pl9_ (T 100 c 5) (T 100 c 5 + an_ (T 100 c 5) 1 - 1) b (T 401 c 7) (T 401 c 6).toNat).length := by
            have y := ap.1
            omega
          have y := (ap.2 (m - T 106 0 4).toNat _ (List.getElem?_eq_getElem hk)).1
          rw [show T 106 0 4 + (((m - T 106 0 4).toNat : Nat) : Int) = m by omega] at y
          exact ne (w.symm.trans y)
/-- what the reference leaves of the results when the answer is yes -/
def RF7_ (T R R' : Zt) (c b : Int) : Prop := (∀ k, 0 ≤ k → k < T 100 c 8 → ON7_ T c b k → R' 289 0 (T 210 0 c + k) = cz_ (T 232 0 (T 210 0 c + k) = b) 0 2) ∧ ∀ y, (∀ k, 0 ≤ k → k < T 100 c 8 → ON7_ T c b k ∨ OE7_ T c b k → y ≠ T 210 0 c + k) → R' 289 0 y = R 289 0 y
theorem rf7_e {T R R' : Zt} {c b : Int} (lm : LM7_ T c b) (kr : KR7_ T R) (ow : OW7_ R R' b (R 210 0 c) (R 210 0 c + R 211 0 c)) : RF7_ T R R' c b := by
  unfold OW7_ at ow
  rw [kr 211 c (by decide), kr 210 c (by decide), ← lm.2.1] at ow
  refine ⟨fun k k0 k1 z => ?_, fun y hy => ?_⟩
  · have g := ow.1 (T 210 0 c + k) (by omega) (by omega) (by rw [kr 235 _ (by decide)]; exact z.1)
    rw [kr 232 _ (by decide), kr 233 _ (by decide)] at g
    by_cases q : T 232 0 (T 210 0 c + k) = b
    · rw [cz_t q]
      exact g.1 q
    · rw [cz_f q]
      exact g.2 q (z.2.resolve_left q)
  · refine ow.2 y (fun z => ?_)
    obtain ⟨⟨z1, z2⟩, z3⟩ := z
    rw [kr 235 _ (by decide)] at z3
    have e : T 210 0 c + (y - T 210 0 c) = y := by omega
    by_cases q : T 232 0 y = b ∨ T 233 0 y = b
    · refine hy (y - T 210 0 c) (by omega) (by omega) (Or.inl ?_) e.symm
      unfold ON7_
      rw [e]
      exact ⟨z3, q⟩
    · refine hy (y - T 210 0 c) (by omega) (by omega) (Or.inr ?_) e.symm
      unfold OE7_
      rw [e]
      exact ⟨z3, q⟩
/-- a witness is the same on both sides -/
theorem wit_n {T T1 T2 V P R R' : Zt} {c b : Int} (hc : 0 ≤ c ∧ c < T 106 0 2) (h6 : T 100 c 6 ≠ 0) (hf : 0 ≤ T 100 c 7) (h4m : T 106 0 4 ≤ 400) (kc : T 100 c 7 + T 100 c 8 ≤ T 106 0 4) (hks : KS_ T) (lm : LM7_ T c b) (own : ∀ k, 0 ≤ k → k < T 100 c 8 → OM7_ T c b k → V 584 0 (T 100 c 7 + k) = cz_ (T 102 (T 100 c 7 + k) 3 = b) 0 2) (oth : ∀ y, 0 ≤ y → y < 400 → (∀ k, 0 ≤ k → k < T 100 c 8 → OM7_ T c b k → y ≠ T 100 c 7 + k) → V 584 0 y = -1)
    (pj : ∀ j, 0 ≤ j → j < (dl9_ (OE7_ T c b) (T 100 c 8).toNat).1 → P 584 0 (T 100 c 7 + (dl9_ (OE7_ T c b) (T 100 c 8).toNat).2 j) = R' 289 0 (T 210 0 c + (dl9_ (OE7_ T c b) (T 100 c 8).toNat).2 j)) (po : ∀ y, (∀ j, 0 ≤ j → j < (dl9_ (OE7_ T c b) (T 100 c 8).toNat).1 → y ≠ T 100 c 7 + (dl9_ (OE7_ T c b) (T 100 c 8).toNat).2 j) → P 584 0 y = V 584 0 y) (rf : RF7_ T R R' c b) (rm : ∀ y, 0 ≤ y → y < T 106 0 4 → R 289 0 y = -1)
    (e1 : T2 109 0 2 = 1) (e88 : T2 111 0 88 = c) (e2 : T2 106 0 2 = T 106 0 2) (e4 : T2 106 0 4 = T 106 0 4) (e6 : T2 100 c 6 = T 100 c 6) (e0 : ∀ m, T2 102 m 0 = T 102 m 0) (eh : ∀ m, T2 584 0 m = P 584 0 m) (er : ∀ m, T2 289 0 m = R' 289 0 m) : WIT_ T2 := by
  have la := dl_a (D := OE7_ T c b) (T 100 c 8).toNat
  have bd := dl_b (D := OE7_ T c b) (T 100 c 8).toNat
  have e7 := lm.1
  -- what is not open stands as behind the list
  have pv : ∀ y, ¬ (∃ k, 0 ≤ k ∧ k < T 100 c 8 ∧ OE7_ T c b k ∧ y = T 100 c 7 + k) → P 584 0 y = V 584 0 y := fun y hy => po y (fun j p q z => hy ⟨_, (bd.2 j p q).1, by have := (bd.2 j p q).2; omega, la.1 j p q, z⟩)
  have F2 : ∀ y, 0 ≤ y → y < 400 → ¬ (T 100 c 7 ≤ y ∧ y < T 100 c 7 + T 100 c 8) → P 584 0 y = -1 := fun y y0 y1 hy => by
    rw [pv y (fun ⟨k, k0, k1, _, e⟩ => hy ⟨by omega, by omega⟩)]
    exact oth y y0 y1 (fun k k0 k1 _ e => hy ⟨by omega, by omega⟩)
  have F1 : ∀ k, 0 ≤ k → k < T 100 c 8 → P 584 0 (T 100 c 7 + k) = R' 289 0 (T 100 c 7 + k) := fun k k0 k1 => by
    have lo := lm7_o lm k0 k1
    by_cases z : OE7_ T c b k
    · obtain ⟨j, j0, j1, j2⟩ := la.2.2 k k0 (by omega) z
      have g := pj j j0 j1
      rw [j2, ← e7] at g
      exact g
    · rw [pv _ (fun ⟨q, q0, q1, q2, e⟩ => z (by rw [show k = q by omega]; exact q2))]
      by_cases w : OM7_ T c b k
      · have g := rf.1 k k0 k1 (lo.2.mp w)
        rw [own k k0 k1 w, (lm.2.2.2 k k0 k1).1.1]
        rw [← e7] at g ⊢
        exact g.symm
      · rw [oth _ (by omega) (by omega) (fun q q0 q1 q2 e => w (by rw [show k = q by omega]; exact q2)), rf.2 _ (fun q q0 q1 q2 e => by
          have eq : q = k := by omega
          rw [eq] at q2
          exact q2.elim (fun v => w (lo.2.mpr v)) z), rm _ (by omega) (by omega)]
  have F3 : ∀ y, 0 ≤ y → y < T 106 0 4 → ¬ (T 100 c 7 ≤ y ∧ y < T 100 c 7 + T 100 c 8) → R' 289 0 y = -1 := fun y y0 y1 hy => by
    rw [rf.2 y (fun k k0 k1 _ e => hy ⟨by omega, by omega⟩)]
    exact rm y y0 y1
  refine Or.inr ⟨e1, ?_, ?_, fun m m0 m1 => ?_⟩
  · rw [e88, e2]
    exact hc
  · rw [e88, e6]
    exact h6
  · rw [e88, e4, e0, eh, er]
    by_cases z : T 100 c 7 ≤ m ∧ m < T 100 c 7 + T 100 c 8
    · have g := F1 (m - T 100 c 7) (by omega) (by omega)
      rw [show T 100 c 7 + (m - T 100 c 7) = m by omega] at g
      have s := (hks c hc.1 hc.2 m z.1 z.2).1
      exact ⟨fun _ _ => g, fun q => q.elim (fun w => absurd w (by omega)) (fun w => absurd s w)⟩
    · exact ⟨fun q _ => (F2 m m0 m1 z).trans (F3 m m0 q z).symm, fun _ => F2 m m0 m1 z⟩
/-- the cut is the same on both sides -/
def CUT_ (T : Zt) : Prop := T 109 0 3 = T 111 0 90
/-- the answers of can are the same, and what stands of a witness, and the cut -/
theorem can_w {T T1 T2 : Zt} {c b x1 x2 : Int} (hT : ok_T T) (tq : 0 ≤ c → c < T 106 0 2 → TQ_ T c 999) (hma : MAR_ T) (hpl : PLR_ T) (hkc : KC_ T) (hks : KS_ T) (hkw : KW_ T) (hna : HNA_ T) (hc6 : T 106 0 2 = T 111 0 6) (hc12 : T 108 0 2 = T 111 0 12) (f1 : fr_ [(109, [5, 3, 9, 6, 2, 15]), (584, []), (588, []), (587, []), (591, []), (592, []), (590, []), (593, []), (594, []), (107, [1]), (542, []), (543, []), (544, []), (545, []), (546, []), (190, []), (191, [0])] T T1) (d1 : CA7_ T T1 c b x1) (d2 : (x2 = -2 ∧ ¬ ((0 ≤ c ∧ c < T1 111 0 6) ∧ (0 ≤ b ∧ b < T1 111 0 12)) ∧ T1 = T2) ∨ (((0 ≤ c ∧ c < T1 111 0 6) ∧ (0 ≤ b ∧ b < T1 111 0 12)) ∧ ((x2 = -4 ∧ ¬ (T1 209 0 c ≠ 0 ∧ HE_ T1 c b) ∧ T1 = T2) ∨ ((T1 209 0 c ≠ 0 ∧ HE_ T1 c b) ∧ CN7_ T1 T2 c b x2)))) (f2 : fr_ [(276, []), (291, []), (292, []), (293, []), (294, []), (296, []), (289, []), (297, []), (111, [80, 82, 83, 90, 95, 88])] T1 T2) : x1 = x2 ∧ (WIT_ T → WIT_ T2) ∧ (CUT_ T → CUT_ T2) := by
  have e6 : T1 111 0 6 = T 106 0 2 := (f1 111 0 6 rfl).trans hc6.symm
  have e12 : T1 111 0 12 = T 108 0 2 := (f1 111 0 12 rfl).trans hc12.symm
  have h12 : 0 ≤ T 108 0 2 ∧ T 108 0 2 ≤ 12 := bd_f hT 108 2 tl_8_2 0
  rw [e6, e12] at d2
  unfold CA7_ at d1
  by_cases A : (0 ≤ c ∧ c < T 106 0 2) ∧ (0 ≤ b ∧ b < T 108 0 2)
  · have d1 := (d1.resolve_left (fun y => y.2.2 A)).2
    have d2 := (d2.resolve_left (fun y => y.2.1 A)).2
    have h := tq A.1.1 A.1.2
    have q := h
    obtain ⟨-, -, ⟨h4, -⟩, -, ⟨h8, h9, -⟩, -⟩ := q
    have hb : 0 ≤ b ∧ b < 12 := by omega
    have hh : HE_ T1 c b ↔ T 404 c b ≠ -1 := (hem_f (fun j => f1 207 0 j rfl) (f1 208 0 c rfl)).trans (he_s h8 h9 hb)
    have h6 : T1 209 0 c ≠ 0 ↔ T 100 c 6 ≠ 0 := by rw [f1 209 0 c rfl, h8.2.1]
    by_cases B : T 404 c b ≠ -1 ∧ T 100 c 6 ≠ 0
    · have ak := (d1.resolve_left (fun y => y.2.2.elim B.1 B.2)).2.2
      have cn := (d2.resolve_left (fun y => y.2.1 ⟨h6.2 B.2, hh.2 B.1⟩)).2
      have se := (h9.2 b hb.1 hb.2).resolve_left B.1
      have lm := lm7_i (b := b) hT h A.1 hma hpl hkc hna
      have sm := sm7_i hT A.1 h9 hks
      have hn : 0 ≤ T 100 c 8 ∧ T 100 c 8 ≤ 400 := bd_f hT 100 8 tl_0_8 c
      have hf : 0 ≤ T 100 c 7 ∧ T 100 c 7 ≤ 400 := bd_f hT 100 7 tl_0_7 c
      have h4m : 0 ≤ T 106 0 4 ∧ T 106 0 4 ≤ 400 := bd_f hT 106 4 tl_6_4 0
      have kc := hkc c A.1.1 A.1.2
      obtain ⟨U, V, y, n, as9, ev, lo, an, rest⟩ := ak
      rw [se.2.2] at lo
      obtain ⟨fV, lo⟩ := lo7_x lm ⟨hf.1, hn.1, by omega⟩ as9 lo
      obtain ⟨R, R', ⟨fR, m1, m2, m3, r90, rm⟩, re, w89, w90, w88⟩ := cn
      have k1 : KR7_ T T1 := fun k j q9 => by rcases q9 with rfl | rfl | rfl | rfl | rfl | rfl | rfl | rfl <;> exact f1 _ 0 j rfl
      have kr : KR7_ T R := fun k j q9 => (show R k 0 j = T1 k 0 j by rcases q9 with rfl | rfl | rfl | rfl | rfl | rfl | rfl | rfl <;> exact fR _ 0 j rfl).trans (k1 k j q9)
      have ep : ∀ v, pr7_ T1 c v = pr7_ T c v := fun v => by
        have ev9 : (fun k => vR_ T1 999 (T 210 0 c + k)) = (fun k => vR_ T 999 (T 210 0 c + k)) := funext (fun k => vr_g f1 (fun k j q9 => by rcases q9 with rfl | rfl | rfl | rfl | rfl | rfl | rfl | rfl | rfl | rfl <;> rfl) rfl)
        have er : (fun w => T1 205 0 (23 * c + w)) = (fun w => T 205 0 (23 * c + w)) := funext (fun w => f1 205 0 _ rfl)
        unfold pr7_
        rw [f1 210 0 c rfl, f1 211 0 c rfl, f1 111 0 24 rfl, ev9, er, dd_k (fun k j q9 => by rcases q9 with rfl | rfl | rfl | rfl <;> exact f1 _ 0 j rfl)]
      have e11 : T1 211 0 c = T 100 c 8 := (f1 211 0 c rfl).trans lm.2.1.symm
      have M1 : ∀ v, 0 ≤ v → v < 12 → R 291 0 v = pr7_ T c v := fun v p q => (m1 v p q).trans (ep v)
      have M2 : ∀ v, 0 ≤ v → v < 12 → R 292 0 v = lf7_ T c v (T 100 c 8).toNat := fun v p q => by
        rw [m2 v p q, e11, lf7_k k1]
      have M3 : R 111 0 95 = pr7_ T c b + T 205 0 (23 * c + 1) * lf7_ T c b (T 100 c 8).toNat := by
        rw [m3, ep, e11, lf7_k k1, f1 205 0 _ rfl]
      rw [f1 205 0 (23 * c + 1) rfl, f1 205 0 (23 * c + 2) rfl, f1 205 0 (23 * c + 3) rfl, ← h4 1 (by decide) (by decide), ← h4 2 (by decide) (by decide), ← h4 3 (by decide) (by decide), f1 208 0 c rfl] at re
      have e9 : (dl9_ (OE7_ R c b) (R 211 0 c).toNat) = dl9_ (OE7_ T c b) (T 100 c 8).toNat := by
        rw [oe7_k kr, show R 211 0 c = T 100 c 8 from (fR 211 0 c rfl).trans e11]
      have ln : ((plf_ R b (R 211 0 c).toNat (R 210 0 c)).length : Int) = (dl9_ (OE7_ T c b) (T 100 c 8).toNat).1 := by
        have bd := (dl_b (D := OE7_ T c b) (T 100 c 8).toNat).1
        rw [pl7_e lm kr, lh7_n]
        omega
      have t9 : T2 109 0 2 = x1 := (f2 109 0 2 rfl).trans an
      have rm2 : ∀ y, 0 ≤ y → y < T 106 0 4 → R 289 0 y = -1 := fun y p q => rm y p (by
        rw [f1 111 0 29 rfl, ← hma.1]
        exact q)
      have cu0 : T1 109 0 3 = 0 → R' 111 0 90 = 0 → CUT_ T2 := fun p q => by
        unfold CUT_
        rw [f2 109 0 3 rfl, w90, p, q]
      -- an answer that is not yes
      have no : x2 ≠ 1 → x1 = x2 → WIT_ T → WIT_ T2 := fun z e _ => Or.inl ⟨by rw [t9, e]; exact z, by rw [w88, cz_f z]⟩
      have yes : ∀ P : Zt, (∀ j, T1 584 0 j = P 584 0 j) → x1 = x2 → x1 = 1 → (∀ k, 0 ≤ k → k < T 100 c 8 → OM7_ T c b k → V 584 0 (T 100 c 7 + k) = cz_ (T 102 (T 100 c 7 + k) 3 = b) 0 2) → (∀ y, 0 ≤ y → y < 400 → (∀ k, 0 ≤ k → k < T 100 c 8 → OM7_ T c b k → y ≠ T 100 c 7 + k) → V 584 0 y = -1) → (∀ j, 0 ≤ j → j < (dl9_ (OE7_ T c b) (T 100 c 8).toNat).1 → P 584 0 (T 100 c 7 + (dl9_ (OE7_ T c b) (T 100 c 8).toNat).2 j) = R' 289 0 (T 210 0 c + (dl9_ (OE7_ T c b) (T 100 c 8).toNat).2 j)) → (∀ y, (∀ j, 0 ≤ j → j < (dl9_ (OE7_ T c b) (T 100 c 8).toNat).1 → y ≠ T 100 c 7 + (dl9_ (OE7_ T c b) (T 100 c 8).toNat).2 j) → P 584 0 y = V 584 0 y) → RF7_ T R R' c b → WIT_ T2 := fun P eP ex x1e own oth pj po rf => wit_n (P := P) (T1 := T1) A.1 B.2 hf.1 h4m.2 kc hks lm own oth pj po rf rm2 (t9.trans x1e) (by rw [w88, cz_t (ex.symm.trans x1e)]) ((f2 106 0 2 rfl).trans (f1 106 0 2 rfl)) ((f2 106 0 4 rfl).trans (f1 106 0 4 rfl)) ((f2 100 c 6 rfl).trans (f1 100 c 6 rfl)) (fun m => (f2 102 m 0 rfl).trans (f1 102 m 0 rfl)) (fun m => (f2 584 0 m rfl).trans (eP m)) w89
      rcases ev with ⟨v1, v2⟩ | ⟨v1, v2⟩
      · obtain ⟨-, o, ⟨ho, ob⟩, re⟩ := re.resolve_right (fun z => z.1 v1)
        have ob2 : OB7_ T c b (T 208 0 c) o := fun v hv => by
          have y := ob v hv
          simp only [fun j => k1 207 j (by decide)] at y
          exact y
        rcases rest with ⟨y0, r0, c0, -⟩ | ⟨y1, W, pt, tp, rest⟩
        · have l9 := (lo.resolve_left (fun z => by have := z.1; omega)).2
          obtain ⟨f0, -, re⟩ := re
          rcases re with ⟨r1, -, r3⟩ | ⟨r2, -⟩
          · exact ⟨by rw [r0, r1], no (by omega) (by rw [r0, r1]), fun _ => cu0 c0 (r3.trans r90)⟩
          · rw [ln] at r2
            omega
        · obtain ⟨-, en, ol, hr, nn, own, oth⟩ := lo.resolve_right (fun z => by have := z.1; omega)
          obtain ⟨-, S, P, sc, sp, c1e, eP, ck⟩ := rest.resolve_right (fun z => by have := z.1; omega)
          have g := ev7_x hT A.1 h hks (hkw c A.1.1 A.1.2) lm sm ⟨se.1, se.2.1⟩ se.2.2 as9 fV en ol hr pt tp sc sp kr M1 M2 M3 ho ob2 re (by omega)
          refine ⟨g.1, fun hw => ?_, fun _ => ?_⟩
          · by_cases z : x1 = 1
            · have q := g.2.1 z
              exact yes P eP g.1 z own oth q.1 q.2.1 (rf7_e lm kr q.2.2)
            · exact no (fun w => z (g.1.trans w)) g.1 hw
          · by_cases z : x1 = 1
            · exact cu0 (c1e z) (g.2.2.1 z)
            · unfold CUT_
              rw [f2 109 0 3 rfl, w90]
              exact g.2.2.2 z T1 ck
      · obtain ⟨-, ct, ct90⟩ := re.resolve_left (fun z => v1 z.1)
        rcases rest with ⟨y0, r0, c0, -⟩ | ⟨y1, W, pt, tp, rest⟩
        · have l9 := (lo.resolve_left (fun z => by have := z.1; omega)).2
          unfold CT7_ at ct
          rw [e9] at ct
          rcases ct with ⟨r1, -⟩ | ⟨r2, -⟩
          · exact ⟨by rw [r0, r1], no (by omega) (by rw [r0, r1]), fun _ => cu0 c0 (ct90.trans r90)⟩
          · omega
        · obtain ⟨-, en, ol, hr, nn, own, oth⟩ := lo.resolve_right (fun z => by have := z.1; omega)
          obtain ⟨-, c0, z, na, sr⟩ := rest.resolve_left (fun z => by have := z.1; omega)
          have rf : RF7_ T R R' c b := by
            have ct2 := ct
            unfold CT7_ at ct2
            rw [e9, show R 211 0 c = T 100 c 8 from (fR 211 0 c rfl).trans e11, show R 210 0 c = T 210 0 c from kr 210 c (by decide), oe7_k kr] at ct2
            rcases ct2 with ⟨-, r2⟩ | ⟨-, c1, c2, -⟩
            · omega
            · refine ⟨fun k p q z => ?_, fun y hy => c2 y (fun k p q z => hy k p q ?_)⟩
              · have g := c1 k p q (by rw [on7_k kr]; exact z)
                rw [kr 232 _ (by decide)] at g
                exact g
              · rw [on7_k kr] at z
                exact z
          rcases sr with ⟨z0, q1, q2⟩ | ⟨z1, P, sr, eP⟩
          · have g := od7_x (P := W) hT A.1 h hks lm sm ⟨se.1, se.2.1⟩ se.2.2 as9 fV en ol hr pt tp na (Or.inl ⟨z0, q1⟩) kr M1 M3 ct (by omega)
            exact ⟨g.1, no (by have := g.1; omega) g.1, fun _ => cu0 c0 (ct90.trans r90)⟩
          · have g := od7_x hT A.1 h hks lm sm ⟨se.1, se.2.1⟩ se.2.2 as9 fV en ol hr pt tp na (Or.inr ⟨z1, sr⟩) kr M1 M3 ct (by omega)
            refine ⟨g.1, fun hw => ?_, fun _ => cu0 c0 (ct90.trans r90)⟩
            by_cases z : x1 = 1
            · have q := g.2 z
              exact yes P eP g.1 z own oth q.1 q.2 rf
            · exact no (fun w => z (g.1.trans w)) g.1 hw
    · have y1 : x1 = -4 := by
        rcases d1 with y | y
        · exact y.2.1
        · exact absurd ⟨y.1, y.2.1⟩ B
      have y2 : x2 = -4 := by
        rcases d2 with y | y
        · exact y.1
        · exact absurd ⟨hh.1 y.1.2, h6.1 y.1.1⟩ B
      have g1 : T1 = T := by
        rcases d1 with y | y
        · exact y.1
        · exact absurd ⟨y.1, y.2.1⟩ B
      have g2 : T1 = T2 := by
        rcases d2 with y | y
        · exact y.2.2
        · exact absurd ⟨hh.1 y.1.2, h6.1 y.1.1⟩ B
      have g3 : T2 = T := g2.symm.trans g1
      rw [g3]
      exact ⟨by omega, fun hw => hw, fun hw => hw⟩
  · have y1 : x1 = -2 := by
      rcases d1 with y | y
      · exact y.2.1
      · exact absurd y.1 A
    have y2 : x2 = -2 := by
      rcases d2 with y | y
      · exact y.1
      · exact absurd y.1 A
    have g1 : T1 = T := by
      rcases d1 with y | y
      · exact y.1
      · exact absurd y.1 A
    have g2 : T1 = T2 := by
      rcases d2 with y | y
      · exact y.2.2
      · exact absurd y.1 A
    have g3 : T2 = T := g2.symm.trans g1
    rw [g3]
    exact ⟨by omega, fun hw => hw, fun hw => hw⟩
/-- the answers of witness are the same -/
theorem wit_x {T : Zt} {m x1 x2 : Int} (hw : WIT_ T) (hma : MAR_ T) (h4m : T 106 0 4 ≤ 400) (d1 : (x1 = -2 ∧ ¬ (0 ≤ m ∧ m < T 106 0 4)) ∨ ((0 ≤ m ∧ m < T 106 0 4) ∧ ((T 109 0 2 = 1 ∧ x1 = T 584 0 m) ∨ (T 109 0 2 ≠ 1 ∧ x1 = -1)))) (d2 : (x2 = -2 ∧ ¬ (0 ≤ m ∧ m < T 111 0 29)) ∨ ((0 ≤ m ∧ m < T 111 0 29) ∧ (((T 111 0 88 = -1 ∨ T 230 0 m ≠ T 111 0 88) ∧ x2 = -1) ∨ (T 111 0 88 ≠ -1 ∧ T 230 0 m = T 111 0 88 ∧ x2 = T 289 0 m)))) : x1 = x2 := by
  rw [← hma.1] at d2
  by_cases A : 0 ≤ m ∧ m < T 106 0 4
  · have a := (d1.resolve_left (fun y => y.2 A)).2
    have b := (d2.resolve_left (fun y => y.2 A)).2
    rw [← (hma.2 m A.1 A.2).1] at b
    rcases hw with ⟨h1, h2⟩ | ⟨h1, h2, -, h4⟩
    · have y1 := (a.resolve_left (fun y => h1 y.1)).2
      have y2 := (b.resolve_right (fun y => y.1 h2)).2
      omega
    · have y1 := (a.resolve_right (fun y => y.1 h1)).2
      have g := h4 m A.1 (by omega)
      by_cases z : T 102 m 0 = T 111 0 88
      · have y2 := (b.resolve_left (fun y => y.1.elim (fun w => by omega) (fun w => w z))).2.2
        rw [y1, y2]
        exact g.1 A.2 z
      · have y2 := (b.resolve_right (fun y => z y.2.1)).2
        rw [y1, y2]
        exact g.2 (Or.inr z)
  · rcases d1 with y | y
    · rcases d2 with w | w
      · omega
      · exact absurd w.1 A
    · exact absurd y.1 A
/-- the clubs of a match are two, on the reference's side -/
theorem hn7_r {T T1 : Zt} {c : Int} (hma : MAR_ T) (hna : HNA_ T) (hen : ENR_ T) (hkc : KC_ T) (hT : ok_T T) (hc6 : T 106 0 2 = T 111 0 6) (e6 : T1 111 0 6 = T 111 0 6) (e10 : T1 210 0 c = T 210 0 c) (e11 : T1 211 0 c = T 211 0 c) (e32 : ∀ j, T1 232 0 j = T 232 0 j) (e33 : ∀ j, T1 233 0 j = T 233 0 j) : 0 ≤ c → c < T1 111 0 6 → ∀ j, T1 210 0 c ≤ j → j < T1 210 0 c + T1 211 0 c → T1 232 0 j ≠ T1 233 0 j := fun a b j p q => by
  rw [e6, ← hc6] at b
  rw [e10] at p q
  rw [e11] at q
  rw [e32, e33]
  have h8 := hen.1 c a b
  have kc := hkc c a b
  have f7 : 0 ≤ T 100 c 7 ∧ T 100 c 7 ≤ 400 := bd_f hT 100 7 tl_0_7 c
  have e7 := h8.2.2.1
  have e8 := h8.2.2.2.1
  have m := hma.2 j (by omega) (by omega)
  rw [← m.2.2.1, ← m.2.2.2]
  exact hna j (by omega) (by omega)
theorem r9_q {T : Zt} {c : Int} (tq : TQ_ T c 999) : ∀ w, 1 ≤ w ∧ w ≤ 3 → 0 ≤ T 401 c w ∧ T 401 c w ≤ 9 := fun w hw => by
  have h6 := tq.2.2.2.1.1
  rcases (by omega : w = 1 ∨ w = 2 ∨ w = 3) with z | z | z
  · rw [z]; exact h6.1
  · rw [z]; exact h6.2.1
  · rw [z]; exact h6.2.2
theorem k9_q {T : Zt} {c : Int} (hT : ok_T T) (hks : KS_ T) (hkc : KC_ T) (hna : HNA_ T) (hc : 0 ≤ c ∧ c < T 106 0 2) : ∀ k, 0 ≤ k → k < T 100 c 8 → 0 ≤ T 404 c (T 102 (T 100 c 7 + k) 3) ∧ 0 ≤ T 404 c (T 102 (T 100 c 7 + k) 4) ∧ T 102 (T 100 c 7 + k) 3 ≠ T 102 (T 100 c 7 + k) 4 := fun k a b => by
  have f7 : 0 ≤ T 100 c 7 ∧ T 100 c 7 ≤ 400 := bd_f hT 100 7 tl_0_7 c
  have kc := hkc c hc.1 hc.2
  have s := hks c hc.1 hc.2 (T 100 c 7 + k) (by omega) (by omega)
  exact ⟨s.2.1, s.2.2, hna _ (by omega) (by omega)⟩
theorem bk_X10_witness_e_0 : ck_ fX10 (some .int) cX10_witness 0 [.aload 0, .iload 1] 2 = true := qck_r (nn_ _) (by decide +kernel)
theorem bs_X10_witness_e_0 {P : Zt → Option Zv → Prop} (K : Int → Zl → List Zv → Zt → Prop) : sx_ K P [.aload 0, .iload 1] 2 = x_aload 0 (x_iload 1 (K 2)) := ((xe_aload 0).trans (congrArg (x_aload 0) ((xe_iload 1).trans (congrArg (x_iload 1) xe_nil))))
theorem bk_X10_witness_e_5 : ck_ fX10 (some .int) cX10_witness 5 [.ifCond .ne 11, .iconst (-2), .ireturn] 11 = true := qck_r (nn_ _) (by decide +kernel)
theorem bs_X10_witness_e_5 {P : Zt → Option Zv → Prop} (K : Int → Zl → List Zv → Zt → Prop) : sx_ K P [.ifCond .ne 11, .iconst (-2), .ireturn] 11 = x_ifCond .ne 11 K (x_iconst (-2) (x_ireturn P)) := ((xe_ifCond .ne 11).trans (congrArg (x_ifCond .ne 11 K) ((xe_iconst (-2)).trans (congrArg (x_iconst (-2)) (xe_ireturn)))))
theorem bk_X10_witness_e_11 : ck_ fX10 (some .int) cX10_witness 11 [.aload 0, .tableswitch 0 10 4 #[], .tableswitch 0 9 2 #[], .iconst 1, .if_icmp .ne 34, .aload 0, .tableswitch 0 10 4 #[], .tableswitch 0 9 4 #[], .iload 1, .iaload, .goto 35] 34 = true := qck_r (nn_ _) (by decide +kernel)
theorem bs_X10_witness_e_11 {P : Zt → Option Zv → Prop} (K : Int → Zl → List Zv → Zt → Prop) : sx_ K P [.aload 0, .tableswitch 0 10 4 #[], .tableswitch 0 9 2 #[], .iconst 1, .if_icmp .ne 34, .aload 0, .tableswitch 0 10 4 #[], .tableswitch 0 9 4 #[], .iload 1, .iaload, .goto 35] 34 = x_aload 0 (x_g1 110 109 (x_g0 109 2 (-1) 2 (x_iconst 1 (x_if_icmp .ne 34 K (x_aload 0 (x_g1 110 109 (x_g1 109 584 (x_iload 1 (x_iaload (x_goto 35 K)))))))))) := ((xe_aload 0).trans (congrArg (x_aload 0) ((xe_g1 (kk := 110) rfl tl_10_4).trans (congrArg (x_g1 110 109) ((xe_g0 (kk := 109) rfl tl_9_2).trans (congrArg (x_g0 109 2 (-1) 2) ((xe_iconst 1).trans (congrArg (x_iconst 1) ((xe_if_icmp .ne 34).trans (congrArg (x_if_icmp .ne 34 K) ((xe_aload 0).trans (congrArg (x_aload 0) ((xe_g1 (kk := 110) rfl tl_10_4).trans (congrArg (x_g1 110 109) ((xe_g1 (kk := 109) rfl tl_9_4).trans (congrArg (x_g1 109 584) ((xe_iload 1).trans (congrArg (x_iload 1) ((xe_iaload).trans (congrArg (x_iaload) (xe_goto 35)))))))))))))))))))))
theorem bk_X10_witness_e_34 : ck_ fX10 (some .int) cX10_witness 34 [.iconst (-1), .ireturn] 36 = true := qck_r (nn_ _) (by decide +kernel)
theorem bs_X10_witness_e_34 {P : Zt → Option Zv → Prop} (K : Int → Zl → List Zv → Zt → Prop) : sx_ K P [.iconst (-1), .ireturn] 36 = x_iconst (-1) (x_ireturn P) := ((xe_iconst (-1)).trans (congrArg (x_iconst (-1)) (xe_ireturn)))
theorem bk_X10_witness_e_35 : ck_ fX10 (some .int) cX10_witness 35 [.ireturn] 36 = true := qck_r (nn_ _) (by decide +kernel)
theorem bs_X10_witness_e_35 {P : Zt → Option Zv → Prop} (K : Int → Zl → List Zv → Zt → Prop) : sx_ K P [.ireturn] 36 = x_ireturn P := (xe_ireturn)
abbrev po_X10_witness_e (T : Zt) (m : Int) : Zt → Option Zv → Prop := fun T' r => T = T' ∧ ∃ x : Int, r = some (vI x) ∧ ((x = -2 ∧ ¬ (0 ≤ m ∧ m < T 106 0 4)) ∨ ((0 ≤ m ∧ m < T 106 0 4) ∧ ((T 109 0 2 = 1 ∧ x = T 584 0 m) ∨ (T 109 0 2 ≠ 1 ∧ x = -1))))
set_option maxHeartbeats 4000000 in
theorem ct_X10_witness_e {T : Zt} {m : Int} : Ct_ yX10_witness zX10_witness T [vR 110 0, vI m] (po_X10_witness_e T m) := by
  refine ct_of pn_10 rfl rfl (Nat.le_of_ble_eq_true rfl) (fun hT hav => ?_)
  have hr_m : -2147483648 ≤ m ∧ m ≤ 2147483647 := hav (vI m) (List.mem_cons_of_mem _ List.mem_cons_self)
  have hz : zX10_witness.2.2.2.1 = some .boolean → ∀ (T' : Zt) (x : Int), po_X10_witness_e T m T' (some (vI x)) → 0 ≤ x ∧ x ≤ 1 := fun h => by cases h
  have hb_matchCount : 0 ≤ T 106 0 4 ∧ T 106 0 4 ≤ 400 := bd_f hT 106 4 tl_6_4 0
  show J_ zX10_witness T (po_X10_witness_e T m) 0 0 0 [some (vR 110 0), some (vI m)] [] T
  refine j_blx (F := fX10) tb_X10 (nn_ _) bk_X10_witness_e_0 bs_X10_witness_e_0 hz (fun K hK => ?_)
  refine hK 2 _ [vI m, vR 110 0] T ?_
  refine j_callV (y := yX10_isMatch) (Yc := zX10_isMatch) (rest := []) [vI m] (ct_X10_isMatch (T := T)) cl_X10_195 (qd_c (by decide +kernel)) (nn_ _) rfl (rf_of rfl) (Nat.le_of_ble_eq_true rfl) (Nat.le_of_ble_eq_true rfl) (Nat.le_of_ble_eq_true rfl) rfl ?_
  rintro _ _ ⟨rfl, x1, rfl, hx1⟩
  show J_ zX10_witness T (po_X10_witness_e T m) 0 0 5 _ [vI x1] T
  refine j_blx (F := fX10) tb_X10 (nn_ _) bk_X10_witness_e_5 bs_X10_witness_e_5 hz (fun K hK => ?_)
  refine And.intro (fun c2 => ?_) (fun c2 => ?_)
  · replace hx1 := hx1.resolve_right (fun z => c2 z.1)
    clear c2
    refine hK 11 _ [] T ?_
    refine j_blx (F := fX10) tb_X10 (nn_ _) bk_X10_witness_e_11 bs_X10_witness_e_11 hz (fun K hK => ?_)
    intro b3 b3b
    refine And.intro (fun c4 => ?_) (fun c4 => ?_)
    · refine hK 34 _ [] T ?_
      refine j_blx (F := fX10) tb_X10 (nn_ _) bk_X10_witness_e_34 bs_X10_witness_e_34 hz (fun K hK => ?_)
      refine (show po_X10_witness_e T m T (some (vI (-1))) from ?_)
      exact ⟨rfl, _, rfl, by omega⟩
    · refine ix_i (by omega) ?_
      intro b5 b5b
      refine hK 35 _ [vI (T 584 0 m)] T ?_
      refine j_blx (F := fX10) tb_X10 (nn_ _) bk_X10_witness_e_35 bs_X10_witness_e_35 hz (fun K hK => ?_)
      refine (show po_X10_witness_e T m T (some (vI (T 584 0 m))) from ?_)
      exact ⟨rfl, _, rfl, by omega⟩
  · replace hx1 := hx1.resolve_left (fun z => absurd (c2.symm.trans z.1) (by decide))
    clear c2
    refine (show po_X10_witness_e T m T (some (vI (-2))) from ?_)
    exact ⟨rfl, _, rfl, by omega⟩
theorem bk_X11_witness_e_0 : ck_ fX11 (some .int) cX11_witness 0 [.iload 1, .aload 0, .tableswitch 0 11 29 #[]] 5 = true := qck_r (nn_ _) (by decide +kernel)
theorem bs_X11_witness_e_0 {P : Zt → Option Zv → Prop} (K : Int → Zl → List Zv → Zt → Prop) : sx_ K P [.iload 1, .aload 0, .tableswitch 0 11 29 #[]] 5 = x_iload 1 (x_aload 0 (x_g0 111 29 0 400 (K 5))) := ((xe_iload 1).trans (congrArg (x_iload 1) ((xe_aload 0).trans (congrArg (x_aload 0) ((xe_g0 (kk := 111) rfl tl_11_29).trans (congrArg (x_g0 111 29 0 400) xe_nil))))))
theorem bk_X11_witness_e_8 : ck_ fX11 (some .int) cX11_witness 8 [.ifCond .ne 14, .iconst (-2), .ireturn] 14 = true := qck_r (nn_ _) (by decide +kernel)
theorem bs_X11_witness_e_8 {P : Zt → Option Zv → Prop} (K : Int → Zl → List Zv → Zt → Prop) : sx_ K P [.ifCond .ne 14, .iconst (-2), .ireturn] 14 = x_ifCond .ne 14 K (x_iconst (-2) (x_ireturn P)) := ((xe_ifCond .ne 14).trans (congrArg (x_ifCond .ne 14 K) ((xe_iconst (-2)).trans (congrArg (x_iconst (-2)) (xe_ireturn)))))
theorem bk_X11_witness_e_14 : ck_ fX11 (some .int) cX11_witness 14 [.aload 0, .tableswitch 0 11 88 #[], .iconst (-1), .if_icmp .eq 35, .aload 0, .tableswitch 0 11 30 #[], .iload 1, .iaload, .aload 0, .tableswitch 0 11 88 #[], .if_icmp .eq 39, .iconst (-1), .goto 45] 39 = true := qck_r (nn_ _) (by decide +kernel)
theorem bs_X11_witness_e_14 {P : Zt → Option Zv → Prop} (K : Int → Zl → List Zv → Zt → Prop) : sx_ K P [.aload 0, .tableswitch 0 11 88 #[], .iconst (-1), .if_icmp .eq 35, .aload 0, .tableswitch 0 11 30 #[], .iload 1, .iaload, .aload 0, .tableswitch 0 11 88 #[], .if_icmp .eq 39, .iconst (-1), .goto 45] 39 = x_aload 0 (x_g0 111 88 (-1) 3 (x_iconst (-1) (x_if_icmp .eq 35 K (x_aload 0 (x_g1 111 230 (x_iload 1 (x_iaload (x_aload 0 (x_g0 111 88 (-1) 3 (x_if_icmp .eq 39 K (x_iconst (-1) (x_goto 45 K)))))))))))) := ((xe_aload 0).trans (congrArg (x_aload 0) ((xe_g0 (kk := 111) rfl tl_11_88).trans (congrArg (x_g0 111 88 (-1) 3) ((xe_iconst (-1)).trans (congrArg (x_iconst (-1)) ((xe_if_icmp .eq 35).trans (congrArg (x_if_icmp .eq 35 K) ((xe_aload 0).trans (congrArg (x_aload 0) ((xe_g1 (kk := 111) rfl tl_11_30).trans (congrArg (x_g1 111 230) ((xe_iload 1).trans (congrArg (x_iload 1) ((xe_iaload).trans (congrArg (x_iaload) ((xe_aload 0).trans (congrArg (x_aload 0) ((xe_g0 (kk := 111) rfl tl_11_88).trans (congrArg (x_g0 111 88 (-1) 3) ((xe_if_icmp .eq 39).trans (congrArg (x_if_icmp .eq 39 K) ((xe_iconst (-1)).trans (congrArg (x_iconst (-1)) (xe_goto 45)))))))))))))))))))))))))
theorem bk_X11_witness_e_35 : ck_ fX11 (some .int) cX11_witness 35 [.iconst (-1), .goto 45] 39 = true := qck_r (nn_ _) (by decide +kernel)
theorem bs_X11_witness_e_35 {P : Zt → Option Zv → Prop} (K : Int → Zl → List Zv → Zt → Prop) : sx_ K P [.iconst (-1), .goto 45] 39 = x_iconst (-1) (x_goto 45 K) := ((xe_iconst (-1)).trans (congrArg (x_iconst (-1)) (xe_goto 45)))
theorem bk_X11_witness_e_45 : ck_ fX11 (some .int) cX11_witness 45 [.ireturn] 46 = true := qck_r (nn_ _) (by decide +kernel)
theorem bs_X11_witness_e_45 {P : Zt → Option Zv → Prop} (K : Int → Zl → List Zv → Zt → Prop) : sx_ K P [.ireturn] 46 = x_ireturn P := (xe_ireturn)
theorem bk_X11_witness_e_39 : ck_ fX11 (some .int) cX11_witness 39 [.aload 0, .tableswitch 0 11 89 #[], .iload 1, .iaload, .ireturn] 46 = true := qck_r (nn_ _) (by decide +kernel)
theorem bs_X11_witness_e_39 {P : Zt → Option Zv → Prop} (K : Int → Zl → List Zv → Zt → Prop) : sx_ K P [.aload 0, .tableswitch 0 11 89 #[], .iload 1, .iaload, .ireturn] 46 = x_aload 0 (x_g1 111 289 (x_iload 1 (x_iaload (x_ireturn P)))) := ((xe_aload 0).trans (congrArg (x_aload 0) ((xe_g1 (kk := 111) rfl tl_11_89).trans (congrArg (x_g1 111 289) ((xe_iload 1).trans (congrArg (x_iload 1) ((xe_iaload).trans (congrArg (x_iaload) (xe_ireturn)))))))))
abbrev po_X11_witness_e (T : Zt) (m : Int) : Zt → Option Zv → Prop := fun T' r => T = T' ∧ ∃ x : Int, r = some (vI x) ∧ ((x = -2 ∧ ¬ (0 ≤ m ∧ m < T 111 0 29)) ∨ ((0 ≤ m ∧ m < T 111 0 29) ∧ (((T 111 0 88 = -1 ∨ T 230 0 m ≠ T 111 0 88) ∧ x = -1) ∨ (T 111 0 88 ≠ -1 ∧ T 230 0 m = T 111 0 88 ∧ x = T 289 0 m))))
set_option maxHeartbeats 4000000 in
theorem ct_X11_witness_e {T : Zt} {m : Int} : Ct_ yX11_witness zX11_witness T [vR 111 0, vI m] (po_X11_witness_e T m) := by
  refine ct_of pn_11 rfl rfl (Nat.le_of_ble_eq_true rfl) (fun hT hav => ?_)
  have hr_m : -2147483648 ≤ m ∧ m ≤ 2147483647 := hav (vI m) (List.mem_cons_of_mem _ List.mem_cons_self)
  have hz : zX11_witness.2.2.2.1 = some .boolean → ∀ (T' : Zt) (x : Int), po_X11_witness_e T m T' (some (vI x)) → 0 ≤ x ∧ x ≤ 1 := fun h => by cases h
  have hb_29 : 0 ≤ T 111 0 29 ∧ T 111 0 29 ≤ 400 := bd_f hT 111 29 tl_11_29 0
  show J_ zX11_witness T (po_X11_witness_e T m) 0 0 0 [some (vR 111 0), some (vI m)] [] T
  refine j_blx (F := fX11) tb_X11 (nn_ _) bk_X11_witness_e_0 bs_X11_witness_e_0 hz (fun K hK => ?_)
  intro b1 b1b
  refine hK 5 _ [vI (T 111 0 29), vI m] T ?_
  refine j_callS (y := yX11_isOf) (Yc := zX11_isOf) (rest := []) [vI m, vI (T 111 0 29)] (ct_X11_isOf (T := T) (by omega)) cl_X11_317 (qd_c (by decide +kernel)) (nn_ _) rfl (rf_of rfl) (Nat.le_of_ble_eq_true rfl) (Nat.le_of_ble_eq_true rfl) (Nat.le_of_ble_eq_true rfl) rfl ?_
  rintro _ _ ⟨rfl, x2, rfl, hx2⟩
  show J_ zX11_witness T (po_X11_witness_e T m) 0 0 8 _ [vI x2] T
  refine j_blx (F := fX11) tb_X11 (nn_ _) bk_X11_witness_e_8 bs_X11_witness_e_8 hz (fun K hK => ?_)
  refine And.intro (fun c3 => ?_) (fun c3 => ?_)
  · replace hx2 := hx2.resolve_right (fun z => c3 z.1)
    clear c3
    refine hK 14 _ [] T ?_
    refine j_blx (F := fX11) tb_X11 (nn_ _) bk_X11_witness_e_14 bs_X11_witness_e_14 hz (fun K hK => ?_)
    intro b4 b4b
    refine And.intro (fun c5 => ?_) (fun c5 => ?_)
    · refine hK 35 _ [] T ?_
      refine j_blx (F := fX11) tb_X11 (nn_ _) bk_X11_witness_e_35 bs_X11_witness_e_35 hz (fun K hK => ?_)
      refine hK 45 _ [vI (-1)] T ?_
      refine j_blx (F := fX11) tb_X11 (nn_ _) bk_X11_witness_e_45 bs_X11_witness_e_45 hz (fun K hK => ?_)
      refine (show po_X11_witness_e T m T (some (vI (-1))) from ?_)
      exact ⟨rfl, _, rfl, by omega⟩
    · refine ix_i (by omega) ?_
      intro b6 b6b
      intro b7 b7b
      refine And.intro (fun c8 => ?_) (fun c8 => ?_)
      · refine hK 39 _ [] T ?_
        refine j_blx (F := fX11) tb_X11 (nn_ _) bk_X11_witness_e_39 bs_X11_witness_e_39 hz (fun K hK => ?_)
        refine ix_i (by omega) ?_
        intro b9 b9b
        refine (show po_X11_witness_e T m T (some (vI (T 289 0 m))) from ?_)
        exact ⟨rfl, _, rfl, by omega⟩
      · refine hK 45 _ [vI (-1)] T ?_
        refine j_blx (F := fX11) tb_X11 (nn_ _) bk_X11_witness_e_45 bs_X11_witness_e_45 hz (fun K hK => ?_)
        refine (show po_X11_witness_e T m T (some (vI (-1))) from ?_)
        exact ⟨rfl, _, rfl, by omega⟩
  · replace hx2 := hx2.resolve_left (fun z => absurd (c3.symm.trans z.1) (by decide))
    clear c3
    refine (show po_X11_witness_e T m T (some (vI (-2))) from ?_)
    exact ⟨rfl, _, rfl, by omega⟩
theorem bk_X10_cut_e_0 : ck_ fX10 (some .int) cX10_cut 0 [.aload 0, .tableswitch 0 10 4 #[], .tableswitch 0 9 3 #[], .ireturn] 8 = true := qck_r (nn_ _) (by decide +kernel)
theorem bs_X10_cut_e_0 {P : Zt → Option Zv → Prop} (K : Int → Zl → List Zv → Zt → Prop) : sx_ K P [.aload 0, .tableswitch 0 10 4 #[], .tableswitch 0 9 3 #[], .ireturn] 8 = x_aload 0 (x_g1 110 109 (x_g0 109 3 0 4095 (x_ireturn P))) := ((xe_aload 0).trans (congrArg (x_aload 0) ((xe_g1 (kk := 110) rfl tl_10_4).trans (congrArg (x_g1 110 109) ((xe_g0 (kk := 109) rfl tl_9_3).trans (congrArg (x_g0 109 3 0 4095) (xe_ireturn)))))))
abbrev po_X10_cut_e (T : Zt) : Zt → Option Zv → Prop := fun T' r => T = T' ∧ ∃ x : Int, r = some (vI x) ∧ (x = T 109 0 3)
set_option maxHeartbeats 4000000 in
theorem ct_X10_cut_e {T : Zt} : Ct_ yX10_cut zX10_cut T [vR 110 0] (po_X10_cut_e T) := by
  refine ct_of pn_10 rfl rfl (Nat.le_of_ble_eq_true rfl) (fun hT hav => ?_)
  have hz : zX10_cut.2.2.2.1 = some .boolean → ∀ (T' : Zt) (x : Int), po_X10_cut_e T T' (some (vI x)) → 0 ≤ x ∧ x ≤ 1 := fun h => by cases h
  show J_ zX10_cut T (po_X10_cut_e T) 0 0 0 [some (vR 110 0)] [] T
  refine j_blx (F := fX10) tb_X10 (nn_ _) bk_X10_cut_e_0 bs_X10_cut_e_0 hz (fun K hK => ?_)
  intro b1 b1b
  refine (show po_X10_cut_e T T (some (vI (T 109 0 3))) from ?_)
  exact ⟨rfl, _, rfl, by omega⟩
theorem bk_X11_cut_e_0 : ck_ fX11 (some .int) cX11_cut 0 [.aload 0, .tableswitch 0 11 90 #[], .ireturn] 5 = true := qck_r (nn_ _) (by decide +kernel)
theorem bs_X11_cut_e_0 {P : Zt → Option Zv → Prop} (K : Int → Zl → List Zv → Zt → Prop) : sx_ K P [.aload 0, .tableswitch 0 11 90 #[], .ireturn] 5 = x_aload 0 (x_g0 111 90 0 4095 (x_ireturn P)) := ((xe_aload 0).trans (congrArg (x_aload 0) ((xe_g0 (kk := 111) rfl tl_11_90).trans (congrArg (x_g0 111 90 0 4095) (xe_ireturn)))))
abbrev po_X11_cut_e (T : Zt) : Zt → Option Zv → Prop := fun T' r => T = T' ∧ ∃ x : Int, r = some (vI x) ∧ (x = T 111 0 90)
set_option maxHeartbeats 4000000 in
theorem ct_X11_cut_e {T : Zt} : Ct_ yX11_cut zX11_cut T [vR 111 0] (po_X11_cut_e T) := by
  refine ct_of pn_11 rfl rfl (Nat.le_of_ble_eq_true rfl) (fun hT hav => ?_)
  have hz : zX11_cut.2.2.2.1 = some .boolean → ∀ (T' : Zt) (x : Int), po_X11_cut_e T T' (some (vI x)) → 0 ≤ x ∧ x ≤ 1 := fun h => by cases h
  show J_ zX11_cut T (po_X11_cut_e T) 0 0 0 [some (vR 111 0)] [] T
  refine j_blx (F := fX11) tb_X11 (nn_ _) bk_X11_cut_e_0 bs_X11_cut_e_0 hz (fun K hK => ?_)
  intro b1 b1b
  refine (show po_X11_cut_e T T (some (vI (T 111 0 90))) from ?_)
  exact ⟨rfl, _, rfl, by omega⟩
