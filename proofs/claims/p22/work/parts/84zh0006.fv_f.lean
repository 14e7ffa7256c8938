/-- what pot, chance, ball answer of the house -/
def PTH_ (T T' : Zt) (c k x : Int) : Prop := (T' = T ∧ ((x = -2 ∧ ¬ (0 ≤ c ∧ c < T 108 0 2)) ∨ ((0 ≤ c ∧ c < T 108 0 2) ∧ x = -3 ∧ ¬ (0 ≤ k ∧ k < 3)) ∨ ((0 ≤ c ∧ c < T 108 0 2) ∧ (0 ≤ k ∧ k < 3) ∧ x = -4 ∧ (T 101 0 1 = 0 ∨ T 428 0 c ≠ -1 ∨ 0 < T 101 0 4)) ∨ ((0 ≤ c ∧ c < T 108 0 2) ∧ (0 ≤ k ∧ k < 3) ∧ ¬ (T 101 0 1 = 0 ∨ T 428 0 c ≠ -1 ∨ 0 < T 101 0 4) ∧ x = -5 ∧ T 101 0 1 ≤ T 430 0 k))) ∨ ((0 ≤ c ∧ c < T 108 0 2) ∧ (0 ≤ k ∧ k < 3) ∧ ¬ (T 101 0 1 = 0 ∨ T 428 0 c ≠ -1 ∨ 0 < T 101 0 4) ∧ T 430 0 k < T 101 0 1 ∧ x = T 430 0 k + 1 ∧ (T' 428 0 c = k ∧ ∀ j, j ≠ c → T' 428 0 j = T 428 0 j) ∧ (T' 430 0 k = T 430 0 k + 1 ∧ ∀ j, j ≠ k → T' 430 0 j = T 430 0 j) ∧ T' 101 0 3 = T 101 0 3 + 1 ∧ T' 101 0 7 = 0)
def WW9_ (T : Zt) (c g x : Int) : Prop := (T 429 0 c ≠ -1 ∧ ((T 429 0 c = g ∧ x = T 101 0 6) ∨ (T 429 0 c ≠ g ∧ x = 0))) ∨ (T 429 0 c = -1 ∧ x = T 431 0 (c * 4 + g))
def WYH_ (T T' : Zt) (x : Int) : Prop := (T' = T ∧ T 101 0 1 = 0 ∧ x = -4) ∨ (T 101 0 1 ≠ 0 ∧ RFP_ T T' ∧ x = T' 101 0 6)
def CHH_ (T T' : Zt) (c g x : Int) : Prop := (T' = T ∧ ((x = -2 ∧ ¬ ((0 ≤ c ∧ c < T 108 0 2) ∧ T 101 0 1 ≠ 0 ∧ T 428 0 c ≠ -1)) ∨ (((0 ≤ c ∧ c < T 108 0 2) ∧ T 101 0 1 ≠ 0 ∧ T 428 0 c ≠ -1) ∧ x = -3 ∧ ¬ (0 ≤ g ∧ g < T 101 0 1)))) ∨ (((0 ≤ c ∧ c < T 108 0 2) ∧ T 101 0 1 ≠ 0 ∧ T 428 0 c ≠ -1) ∧ (0 ≤ g ∧ g < T 101 0 1) ∧ RFP_ T T' ∧ WW9_ T' c g x)
/-- a ball of the house, the counts being fresh in T -/
def BA9_ (T T' : Zt) (s b x : Int) : Prop := ∃ (s0 n : Int) (T1 : Zt), ((b = 0 ∧ s0 = T 101 0 5) ∨ (b ≠ 0 ∧ s0 = s)) ∧ n = cpw_ T (T 428 0 (T 432 0 0)) (T 101 0 13).toNat ∧ 1 ≤ n ∧ fr_ [(101, [5])] T T1 ∧ T1 101 0 5 = (tb9_ n s0).2 ∧ PL9_ T1 T' (T 432 0 (tb9_ n s0).1) ∧ x = 8 * T 432 0 (tb9_ n s0).1 + T' 429 0 (T 432 0 (tb9_ n s0).1)
def BLH_ (T T' : Zt) (s b x : Int) : Prop := (T' = T ∧ x = -4 ∧ (T 101 0 1 = 0 ∨ T 101 0 3 ≤ T 101 0 4)) ∨ (¬ (T 101 0 1 = 0 ∨ T 101 0 3 ≤ T 101 0 4) ∧ ∃ T1, RFP_ T T1 ∧ fr_ [(101, [13, 6, 7]), (434, []), (435, []), (431, []), (432, [])] T T1 ∧ ((T1 101 0 6 = 0 ∧ x = -4 ∧ T' = T1) ∨ (T1 101 0 6 ≠ 0 ∧ BA9_ T1 T' s b x)))
def DWH_ (T : Zt) (c x : Int) : Prop := (x = -2 ∧ ¬ (0 ≤ c ∧ c < T 108 0 2)) ∨ ((0 ≤ c ∧ c < T 108 0 2) ∧ ((T 101 0 1 = 0 ∧ x = -1) ∨ (T 101 0 1 ≠ 0 ∧ x = T 429 0 c)))
/-- a new draw -/
def NDH_ (T T' : Zt) (g l x : Int) : Prop := (T' = T ∧ x = -3 ∧ ¬ (1 ≤ g ∧ g ≤ 4 ∧ 1 ≤ l ∧ l ≤ 3)) ∨ ((1 ≤ g ∧ g ≤ 4 ∧ 1 ≤ l ∧ l ≤ 3) ∧ x = 1 ∧ T' 101 0 1 = g ∧ T' 101 0 2 = l ∧ T' 101 0 3 = 0 ∧ T' 101 0 4 = 0 ∧ T' 101 0 7 = 0 ∧ (∀ j, 0 ≤ j → j < 12 → T' 428 0 j = -1 ∧ T' 429 0 j = -1) ∧ ∀ j, 0 ≤ j → j < 3 → T' 430 0 j = 0)
theorem fv_f {ws : List (Nat × List Int)} {T T' : Zt} (h : FV_ T) (f : fr_ ws T T') (w : (∀ j, fw_ ws 428 j = false) ∧ (∀ j, fw_ ws 429 j = false) ∧ (∀ j, fw_ ws 561 j = false) ∧ (∀ j, fw_ ws 431 j = false) ∧ (∀ j, fw_ ws 432 j = false) ∧ fw_ ws 101 1 = false ∧ fw_ ws 101 2 = false ∧ fw_ ws 101 6 = false ∧ fw_ ws 101 13 = false) : FV_ T' := by
  obtain ⟨w1, w2, w3, w4, w5, w6, w7, w8, w9⟩ := w
  have hE : ∀ k, T' 428 0 k = T 428 0 k := fun k => f 428 0 k (w1 k)
  have hG : ∀ k, T' 429 0 k = T 429 0 k := fun k => f 429 0 k (w2 k)
  unfold FV_
  rw [dh_e hE (fun k => f 561 0 k (w3 k)) (f 101 0 1 w6) (f 101 0 2 w7), lhw_e hE hG, ghw_e hG, f 101 0 6 w8]
  exact ⟨h.1, fun c hc u a b => by rw [f 431 0 _ (w4 _)]; exact h.2.1 c hc u a b, wl_e (fun j => f 432 0 j (w5 j)) (f 101 0 13 w9) h.2.2⟩
