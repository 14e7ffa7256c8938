-- counts of a row's places
def cnz_ (f : Int → Int) (v : Int) : Nat → Int
  | 0 => 0
  | k + 1 => cnz_ f v k + (if f k = v then 1 else 0)
theorem cnz_b (f : Int → Int) (v : Int) : ∀ k : Nat, 0 ≤ cnz_ f v k ∧ cnz_ f v k ≤ k
  | 0 => by simp [cnz_]
  | k + 1 => by
      have i := cnz_b f v k
      unfold cnz_
      split <;> omega
theorem cnz_t {f : Int → Int} {v k : Int} (hk : 0 ≤ k) (c : f k = v) : cnz_ f v (k + 1).toNat = cnz_ f v k.toNat + 1 := by
  rw [show (k + 1).toNat = k.toNat + 1 by omega]
  show cnz_ f v k.toNat + (if f (k.toNat : Int) = v then (1 : Int) else 0) = _
  rw [show ((k.toNat : Nat) : Int) = k by omega, if_pos c]
theorem cnz_f {f : Int → Int} {v k : Int} (hk : 0 ≤ k) (c : ¬ f k = v) : cnz_ f v (k + 1).toNat = cnz_ f v k.toNat := by
  rw [show (k + 1).toNat = k.toNat + 1 by omega]
  show cnz_ f v k.toNat + (if f (k.toNat : Int) = v then (1 : Int) else 0) = _
  rw [show ((k.toNat : Nat) : Int) = k by omega, if_neg c, Int.add_zero]
theorem cnz_e {f g : Int → Int} {v : Int} : ∀ n : Nat, (∀ k : Int, 0 ≤ k → k < n → f k = g k) → cnz_ f v n = cnz_ g v n
  | 0, _ => rfl
  | n + 1, h => by
    have i := cnz_e (v := v) n (fun k a b => h k a (by omega))
    show cnz_ f v n + (if f n = v then (1 : Int) else 0) = cnz_ g v n + (if g n = v then (1 : Int) else 0)
    rw [i, h n (by omega) (by omega)]
theorem cnz_n {f : Int → Int} {v : Int} : ∀ n : Nat, (∀ k : Int, 0 ≤ k → k < n → f k ≠ v) → cnz_ f v n = 0
  | 0, _ => rfl
  | n + 1, h => by
    have i := cnz_n (f := f) (v := v) n (fun k a b => h k a (by omega))
    show cnz_ f v n + (if f n = v then (1 : Int) else 0) = 0
    rw [i, if_neg (h n (by omega) (by omega))]; rfl
theorem cnz_a {f : Int → Int} {v : Int} : ∀ n : Nat, (∀ k : Int, 0 ≤ k → k < n → f k = v) → cnz_ f v n = n
  | 0, _ => rfl
  | n + 1, h => by
    have i := cnz_a (f := f) (v := v) n (fun k a b => h k a (by omega))
    show cnz_ f v n + (if f n = v then (1 : Int) else 0) = _
    rw [i, if_pos (h n (by omega) (by omega))]; omega
theorem cnz_p {f : Int → Int} {v j : Int} (h0 : 0 ≤ j) (c : f j = v) : ∀ n : Nat, j < n → 0 < cnz_ f v n
  | 0, h => by omega
  | n + 1, h => by
    have b := cnz_b f v n
    show 0 < cnz_ f v n + (if f n = v then (1 : Int) else 0)
    by_cases z : j = n
    · rw [← z, if_pos c]; omega
    · have := cnz_p h0 c n (by omega)
      split <;> omega
/-- one place changed -/
theorem cnz_u {f g : Int → Int} {v x : Int} (h0 : 0 ≤ x) (e : ∀ k, k ≠ x → g k = f k) : ∀ n : Nat, x < n → cnz_ g v n = cnz_ f v n - (if f x = v then 1 else 0) + (if g x = v then 1 else 0)
  | 0, h => by omega
  | n + 1, h => by
    show cnz_ g v n + (if g n = v then (1 : Int) else 0) = cnz_ f v n + (if f n = v then (1 : Int) else 0) - (if f x = v then 1 else 0) + (if g x = v then 1 else 0)
    by_cases z : x = n
    · rw [cnz_e n (f := g) (g := f) (fun k a b => e k (by omega)), ← z]
      omega
    · rw [cnz_u h0 e n (by omega), e n (fun q => z q.symm)]
      omega
/-- where one holds the other does -/
theorem cnz_l {f g : Int → Int} {v w : Int} : ∀ n : Nat, (∀ k : Int, 0 ≤ k → k < n → f k = v → g k = w) → cnz_ f v n ≤ cnz_ g w n
  | 0, _ => Int.le_refl _
  | n + 1, h => by
    have i := cnz_l (f := f) (g := g) (v := v) (w := w) n (fun k a b => h k a (by omega))
    show cnz_ f v n + (if f n = v then (1 : Int) else 0) ≤ cnz_ g w n + (if g n = w then (1 : Int) else 0)
    by_cases z : f n = v
    · rw [if_pos z, if_pos (h n (by omega) (by omega) z)]; omega
    · rw [if_neg z]; split <;> omega
theorem cnz_s {f g : Int → Int} {v w j : Int} (h0 : 0 ≤ j) (a1 : f j ≠ v) (a2 : g j = w) : ∀ n : Nat, j < n → (∀ k : Int, 0 ≤ k → k < n → f k = v → g k = w) → cnz_ f v n < cnz_ g w n
  | 0, h, _ => by omega
  | n + 1, h, e => by
    show cnz_ f v n + (if f n = v then (1 : Int) else 0) < cnz_ g w n + (if g n = w then (1 : Int) else 0)
    have l := cnz_l (f := f) (g := g) (v := v) (w := w) n (fun k a b => e k a (by omega))
    by_cases z : j = n
    · rw [← z, if_neg a1, if_pos a2]; omega
    · have i := cnz_s h0 a1 a2 n (by omega) (fun k a b => e k a (by omega))
      by_cases y : f n = v
      · rw [if_pos y, if_pos (e n (by omega) (by omega) y)]; omega
      · rw [if_neg y]; split <;> omega
-- what is taken below m
def ns9_ (s : Int) : Int := wr_ (wr_ (s * 1664525) + 1013904223)
def tb9_ (m s : Int) : Int × Int := if us_ (ns9_ s) 1 < 2147483648 - 2147483648 % m then (us_ (ns9_ s) 1 % m, ns9_ s) else (us_ (ns9_ (ns9_ s)) 1 % m, ns9_ (ns9_ s))
theorem tb9_a {m s r v : Int} (h : v = us_ (ns9_ r) 1) (lt : v < 2147483648 - 2147483648 % m) (t : r = s ∨ (r = ns9_ s ∧ ¬ us_ (ns9_ s) 1 < 2147483648 - 2147483648 % m)) : v % m = (tb9_ m s).1 ∧ ns9_ r = (tb9_ m s).2 := by
  unfold tb9_
  rcases t with t | ⟨t, n⟩
  · subst t
    rw [h] at lt
    rw [if_pos lt, h]
    exact ⟨rfl, rfl⟩
  · rw [if_neg n, h, t]
    exact ⟨rfl, rfl⟩
theorem tb9_b {m s : Int} (hm : 1 ≤ m ∧ m ≤ 13824) (n : ¬ us_ (ns9_ s) 1 < 2147483648 - 2147483648 % m) : us_ (ns9_ (ns9_ s)) 1 < 2147483648 - 2147483648 % m := by
  have h1 := Int.emod_nonneg 2147483648 (show m ≠ 0 by omega)
  have h2 := Int.emod_lt_of_pos 2147483648 (show 0 < m by omega)
  have k := tk_2 (s := ns9_ s) (wr_r _) (by omega)
  have k2 : us_ (ns9_ (ns9_ s)) 1 < 2147469824 := k
  omega
theorem tb9_r {m s : Int} (hm : 1 ≤ m) : 0 ≤ (tb9_ m s).1 ∧ (tb9_ m s).1 < m := by
  unfold tb9_
  split
  · exact ⟨Int.emod_nonneg _ (by omega), Int.emod_lt_of_pos _ (by omega)⟩
  · exact ⟨Int.emod_nonneg _ (by omega), Int.emod_lt_of_pos _ (by omega)⟩
/-- how many of those that wait, before the k-th, are of pot p -/
def cpw_ (T : Zt) (p : Int) (k : Nat) : Int := cnz_ (fun j => T 428 0 (T 432 0 j)) p k
/-- sums of the ways with a club in the groups before the n-th -/
def swn_ (T : Zt) (c : Int) : Nat → Int
  | 0 => 0
  | u + 1 => swn_ T c u + T 431 0 (c * 4 + u)
theorem swn_s {T : Zt} {c g : Int} (h : 0 ≤ g) : swn_ T c (g + 1).toNat = swn_ T c g.toNat + T 431 0 (c * 4 + g) := by
  rw [show (g + 1).toNat = g.toNat + 1 by omega]
  show swn_ T c g.toNat + T 431 0 (c * 4 + (g.toNat : Int)) = _
  rw [show ((g.toNat : Nat) : Int) = g by omega]
theorem swn_b {T : Zt} {c : Int} (h : ∀ u, 0 ≤ u → u < 4 → 0 ≤ T 431 0 (c * 4 + u) ∧ T 431 0 (c * 4 + u) ≤ 13824) : ∀ n : Nat, n ≤ 4 → 0 ≤ swn_ T c n ∧ swn_ T c n ≤ 13824 * n
  | 0, _ => ⟨Int.le_refl _, Int.le_refl _⟩
  | n + 1, q => by
    have i := swn_b h n (by omega)
    have k := h n (by omega) (by omega)
    show 0 ≤ swn_ T c n + T 431 0 (c * 4 + n) ∧ swn_ T c n + T 431 0 (c * 4 + n) ≤ 13824 * ((n + 1 : Nat) : Int)
    omega
/-- what place leaves -/
def PL9_ (T T' : Zt) (c : Int) : Prop := ∃ g, (0 ≤ g ∧ g < T 101 0 1) ∧ (swn_ T c g.toNat ≤ (tb9_ (T 101 0 6) (T 101 0 5)).1 ∧ (tb9_ (T 101 0 6) (T 101 0 5)).1 < swn_ T c (g + 1).toNat) ∧ T' 429 0 c = g ∧ (∀ j, j ≠ c → T' 429 0 j = T 429 0 j) ∧ T' 101 0 4 = T 101 0 4 + 1 ∧ T' 101 0 7 = 0 ∧ T' 101 0 5 = (tb9_ (T 101 0 6) (T 101 0 5)).2
/-- the draw of the house: its counts, and what was counted -/
def LH_ (T : Zt) : Prop := T 101 0 3 = 12 - cnz_ (fun k => T 428 0 k) (-1) 12 ∧ T 101 0 4 = 12 - cnz_ (fun k => T 429 0 k) (-1) 12 ∧ (∀ p, 0 ≤ p → p ≤ 2 → T 430 0 p = cnz_ (fun k => T 428 0 k) p 12 ∧ T 430 0 p ≤ T 101 0 1) ∧ (∀ k, 0 ≤ k → k < 12 → T 428 0 k = -1 → T 429 0 k = -1) ∧ (∀ k, T 108 0 2 ≤ k → k < 12 → T 428 0 k = -1) ∧ (T 101 0 7 = 0 ∨ FV_ T)
/-- the draw, alike on both sides -/
def LOR_ (T : Zt) : Prop := (T 101 0 1 = T 111 0 99 ∧ T 101 0 2 = T 111 0 100 ∧ T 101 0 5 = T 111 0 103 ∧ ((T 101 0 1 = 0 ∧ T 111 0 98 = 0) ∨ (T 101 0 1 ≠ 0 ∧ T 111 0 98 ≠ 0))) ∧ (∀ k, 0 ≤ k → k < 12 → T 428 0 k = T 301 0 k ∧ T 429 0 k = T 302 0 k) ∧ (T 101 0 1 = 0 ∨ LH_ T)
theorem lhw_b {T : Zt} (h : LH_ T) : (0 ≤ T 101 0 3 ∧ T 101 0 3 ≤ 12) ∧ (0 ≤ T 101 0 4 ∧ T 101 0 4 ≤ 12) := by
  have a := cnz_b (fun k => T 428 0 k) (-1) 12
  have b := cnz_b (fun k => T 429 0 k) (-1) 12
  have c := h.1
  have d := h.2.1
  omega
/-- with clubs that wait the row waiting has a first one -/
theorem fv_w2 {T U : Zt} (hb : ∀ j, 0 ≤ j → -1 ≤ T 428 0 j ∧ T 428 0 j ≤ 2) (k : LH_ T) (l : T 101 0 4 < T 101 0 3) (a1 : ∀ k, U 428 0 k = T 428 0 k) (a2 : ∀ k, U 429 0 k = T 429 0 k) (h : FV_ U) : 1 ≤ U 101 0 13 := by
  have w := wl_c h.2.2
  rw [lhw_e a1 a2] at w
  cases e : lhw_ T with
  | cons x l => rw [e, List.length_cons] at w; omega
  | nil =>
    exfalso
    have a := k.1
    have b := k.2.1
    have c : cnz_ (fun k => T 429 0 k) (-1) 12 ≤ cnz_ (fun k => T 428 0 k) (-1) 12 := cnz_l 12 (fun j p q r => by
      show T 428 0 j = -1
      by_cases z : T 428 0 j = -1
      · exact z
      · exfalso
        have y := hb j p
        have m : j ∈ lhw_ T := lhw_i p (by omega) r (by omega) (by omega)
        rw [e] at m
        exact absurd m List.not_mem_nil)
    omega
/-- what pot, chance, ball answer of the house -/
def PTH_ (T T' : Zt) (c k x : Int) : Prop := (T' = T ∧ ((x = -2 ∧ ¬ (0 ≤ c ∧ c < T 108 0 2)) ∨ ((0 ≤ c ∧ c < T 108 0 2) ∧ x = -3 ∧ ¬ (0 ≤ k ∧ k < 3)) ∨ ((0 ≤ c ∧ c < T 108 0 2) ∧ (0 ≤ k ∧ k < 3) ∧ x = -4 ∧ (T 101 0 1 = 0 ∨ T 428 0 c ≠ -1 ∨ 0 < T 101 0 4)) ∨ ((0 ≤ c ∧ c < T 108 0 2) ∧ (0 ≤ k ∧ k < 3) ∧ ¬ (T 101 0 1 = 0 ∨ T 428 0 c ≠ -1 ∨ 0 < T 101 0 4) ∧ x = -5 ∧ T 101 0 1 ≤ T 430 0 k))) ∨ ((0 ≤ c ∧ c < T 108 0 2) ∧ (0 ≤ k ∧ k < 3) ∧ ¬ (T 101 0 1 = 0 ∨ T 428 0 c ≠ -1 ∨ 0 < T 101 0 4) ∧ T 430 0 k < T 101 0 1 ∧ x = T 430 0 k + 1 ∧ (T' 428 0 c = k ∧ ∀ j, j ≠ c → T' 428 0 j = T 428 0 j) ∧ (T' 430 0 k = T 430 0 k + 1 ∧ ∀ j, j ≠ k → T' 430 0 j = T 430 0 j) ∧ T' 101 0 3 = T 101 0 3 + 1 ∧ T' 101 0 7 = 0)
def WW9_ (T : Zt) (c g x : Int) : Prop := (T 429 0 c ≠ -1 ∧ ((T 429 0 c = g ∧ x = T 101 0 6) ∨ (T 429 0 c ≠ g ∧ x = 0))) ∨ (T 429 0 c = -1 ∧ x = T 431 0 (c * 4 + g))
def WYH_ (T T' : Zt) (x : Int) : Prop := (T' = T ∧ T 101 0 1 = 0 ∧ x = -4) ∨ (T 101 0 1 ≠ 0 ∧ RFP_ T T' ∧ x = T' 101 0 6)
def CHH_ (T T' : Zt) (c g x : Int) : Prop := (T' = T ∧ ((x = -2 ∧ ¬ ((0 ≤ c ∧ c < T 108 0 2) ∧ T 101 0 1 ≠ 0 ∧ T 428 0 c ≠ -1)) ∨ (((0 ≤ c ∧ c < T 108 0 2) ∧ T 101 0 1 ≠ 0 ∧ T 428 0 c ≠ -1) ∧ x = -3 ∧ ¬ (0 ≤ g ∧ g < T 101 0 1)))) ∨ (((0 ≤ c ∧ c < T 108 0 2) ∧ T 101 0 1 ≠ 0 ∧ T 428 0 c ≠ -1) ∧ (0 ≤ g ∧ g < T 101 0 1) ∧ RFP_ T T' ∧ WW9_ T' c g x)
/-- a ball of the house, the counts being fresh in T -/
def BA9_ (T T' : Zt) (s b x : Int) : Prop := ∃ (s0 n : Int) (T1 : Zt), ((b = 0 ∧ s0 = T 101 0 5) ∨ (b ≠ 0 ∧ s0 = s)) ∧ n = cpw_ T (T 428 0 (T 432 0 0)) (T 101 0 13).toNat ∧ 1 ≤ n ∧ fr_ [(101, [5])] T T1 ∧ T1 101 0 5 = (tb9_ n s0).2 ∧ PL9_ T1 T' (T 432 0 (tb9_ n s0).1) ∧ x = 8 * T 432 0 (tb9_ n s0).1 + T' 429 0 (T 432 0 (tb9_ n s0).1)
def BLH_ (T T' : Zt) (s b x : Int) : Prop := (T' = T ∧ x = -4 ∧ (T 101 0 1 = 0 ∨ T 101 0 3 ≤ T 101 0 4)) ∨ (¬ (T 101 0 1 = 0 ∨ T 101 0 3 ≤ T 101 0 4) ∧ ∃ T1, RFP_ T T1 ∧ fr_ [(101, [13, 6, 7]), (434, []), (435, []), (431, []), (432, [])] T T1 ∧ ((T1 101 0 6 = 0 ∧ x = -4 ∧ T' = T1) ∨ (T1 101 0 6 ≠ 0 ∧ BA9_ T1 T' s b x)))
def DWH_ (T : Zt) (c x : Int) : Prop := (x = -2 ∧ ¬ (0 ≤ c ∧ c < T 108 0 2)) ∨ ((0 ≤ c ∧ c < T 108 0 2) ∧ ((T 101 0 1 = 0 ∧ x = -1) ∨ (T 101 0 1 ≠ 0 ∧ x = T 429 0 c)))
/-- a new draw -/
def NDH_ (T T' : Zt) (g l x : Int) : Prop := (T' = T ∧ x = -3 ∧ ¬ (1 ≤ g ∧ g ≤ 4 ∧ 1 ≤ l ∧ l ≤ 3)) ∨ ((1 ≤ g ∧ g ≤ 4 ∧ 1 ≤ l ∧ l ≤ 3) ∧ x = 1 ∧ T' 101 0 1 = g ∧ T' 101 0 2 = l ∧ T' 101 0 3 = 0 ∧ T' 101 0 4 = 0 ∧ T' 101 0 7 = 0 ∧ (∀ j, 0 ≤ j → j < 12 → T' 428 0 j = -1 ∧ T' 429 0 j = -1) ∧ ∀ j, 0 ≤ j → j < 3 → T' 430 0 j = 0)
theorem fv_f {ws : List (Nat × List Int)} {T T' : Zt} (h : FV_ T) (f : fr_ ws T T') (w : (∀ j, fw_ ws 428 j = false) ∧ (∀ j, fw_ ws 429 j = false) ∧ (∀ j, fw_ ws 561 j = false) ∧ (∀ j, fw_ ws 431 j = false) ∧ (∀ j, fw_ ws 432 j = false) ∧ fw_ ws 101 1 = false ∧ fw_ ws 101 2 = false ∧ fw_ ws 101 6 = false ∧ fw_ ws 101 13 = false) : FV_ T' := by
  obtain ⟨w1, w2, w3, w4, w5, w6, w7, w8, w9⟩ := w
  have hE : ∀ k, T' 428 0 k = T 428 0 k := fun k => f 428 0 k (w1 k)
  have hG : ∀ k, T' 429 0 k = T 429 0 k := fun k => f 429 0 k (w2 k)
  unfold FV_
  rw [dh_e hE (fun k => f 561 0 k (w3 k)) (f 101 0 1 w6) (f 101 0 2 w7), lhw_e hE hG, ghw_e hG, f 101 0 6 w8]
  exact ⟨h.1, fun c hc u a b => by rw [f 431 0 _ (w4 _)]; exact h.2.1 c hc u a b, (wl_e (fun j => f 432 0 j (w5 j)) (f 101 0 13 w9) (h.2.2 :) :)⟩
theorem wl_i {T : Zt} : ∀ {l : List Int} {k i : Int}, WL_ T l k → 0 ≤ i → i < (l.length : Int) → T 432 0 (k + i) ∈ l
  | [], _, _, _, a, b => by rw [List.length_nil] at b; omega
  | x :: l, k, i, h, a, b => by
    by_cases z : i = 0
    · rw [z, show k + 0 = k by omega, h.1]; exact List.mem_cons_self
    · have q := wl_i (i := i - 1) h.2 (by omega) (by rw [List.length_cons] at b; omega)
      rw [show k + 1 + (i - 1) = k + i by omega] at q
      exact List.mem_cons_of_mem _ q
theorem qs_z {C : Int → Prop} {V : Int → Nat} {t : Int} (h : ∀ g, V g = 0) : qs_ C V t = 0 := by
  unfold qs_
  rw [h 0, h 1, h 2, h 3, q1_z, q1_z, q1_z, q1_z]
theorem nw_z {d : Dr_} {c u : Int} (hu : d.G ≤ u) : ∀ (l : List Int) (f : Int → Int), c ∈ l → nw_ d c u l f = 0
  | [], _, h => absurd h List.not_mem_nil
  | x :: l, f, h => by
    show qs_ (ok_ d c u f x) (fun g => nw_ d c u l (fu_ f x g)) (-1) = 0
    by_cases z : x = c
    · exact qs_n (fun g _ _ _ q => by have := q.1; have := q.2.1 z; omega)
    · have m : c ∈ l := (List.mem_cons.mp h).resolve_left (fun q => z q.symm)
      exact qs_z (fun g => nw_z hu l _ m)
theorem fh_b {T : Zt} {fx gp : Int} (hb : ∀ j, 0 ≤ j → -1 ≤ T 428 0 j ∧ T 428 0 j ≤ 2) (hc : ∀ j, 0 ≤ j → 0 ≤ T 561 0 j ∧ T 561 0 j ≤ 7) : nw_ (dh_ T) fx gp (lhw_ T) (ghw_ T) ≤ 13824 := fz_b rfl ⟨lhw_d T, fun z hz => by
  have q := lhw_m hz
  exact ⟨⟨q.1, q.2.1⟩, q.2.2.1, q.2.2.2, hc z q.1⟩⟩
/-- what place wants -/
theorem pl_h {T U : Zt} {w : Int} (hb : ∀ j, 0 ≤ j → -1 ≤ T 428 0 j ∧ T 428 0 j ≤ 2) (hc : ∀ j, 0 ≤ j → 0 ≤ T 561 0 j ∧ T 561 0 j ≤ 7) (hG : 1 ≤ T 101 0 1 ∧ T 101 0 1 ≤ 4) (h : FV_ T) (f : fr_ [(101, [5])] T U) (hw : 0 ≤ w ∧ w < T 101 0 13) : T 432 0 w ∈ lhw_ T ∧ (∀ u, 0 ≤ u → u < 4 → 0 ≤ U 431 0 (T 432 0 w * 4 + u) ∧ U 431 0 (T 432 0 w * 4 + u) ≤ 13824) ∧ U 101 0 6 = swn_ U (T 432 0 w) (U 101 0 1).toNat := by
  have wc := wl_c h.2.2
  have m : T 432 0 w ∈ lhw_ T := by
    have q := wl_i (i := w) h.2.2 hw.1 (by omega)
    rwa [show (0 : Int) + w = w by omega] at q
  have e : ∀ u, 0 ≤ u → u < 4 → U 431 0 (T 432 0 w * 4 + u) = (nw_ (dh_ T) (T 432 0 w) u (lhw_ T) (ghw_ T) : Nat) := fun u a b => (f 431 0 _ rfl).trans (h.2.1 _ m u a b)
  refine ⟨m, fun u a b => ?_, ?_⟩
  · rw [e u a b]
    have y := fh_b (fx := T 432 0 w) (gp := u) hb hc
    omega
  · have q := lhw_m m
    have s := nw_s (d := dh_ T) (c := T 432 0 w) (by omega) (lhw_ T) (ghw_ T) m (lhw_d T) (fun x hx => by have := lhw_m hx; omega)
    have z : ∀ u, T 101 0 1 ≤ u → nw_ (dh_ T) (T 432 0 w) u (lhw_ T) (ghw_ T) = 0 := fun u hu => nw_z (d := dh_ T) hu _ _ m
    have e0 := e 0 (by decide) (by decide)
    have e1 := e 1 (by decide) (by decide)
    have e2 := e 2 (by decide) (by decide)
    have e3 := e 3 (by decide) (by decide)
    rw [f 101 0 6 rfl, f 101 0 1 rfl, h.1, ← s]
    rcases (by omega : T 101 0 1 = 1 ∨ T 101 0 1 = 2 ∨ T 101 0 1 = 3 ∨ T 101 0 1 = 4) with k | k | k | k
    · rw [k]
      have z1 := z 1 (by omega)
      have z2 := z 2 (by omega)
      have z3 := z 3 (by omega)
      show _ = (0 : Int) + U 431 0 (T 432 0 w * 4 + ((0 : Nat) : Int))
      show _ = (0 : Int) + U 431 0 (T 432 0 w * 4 + 0)
      omega
    · rw [k]
      have z2 := z 2 (by omega)
      have z3 := z 3 (by omega)
      show _ = (0 : Int) + U 431 0 (T 432 0 w * 4 + 0) + U 431 0 (T 432 0 w * 4 + 1)
      omega
    · rw [k]
      have z3 := z 3 (by omega)
      show _ = (0 : Int) + U 431 0 (T 432 0 w * 4 + 0) + U 431 0 (T 432 0 w * 4 + 1) + U 431 0 (T 432 0 w * 4 + 2)
      omega
    · rw [k]
      show _ = (0 : Int) + U 431 0 (T 432 0 w * 4 + 0) + U 431 0 (T 432 0 w * 4 + 1) + U 431 0 (T 432 0 w * 4 + 2) + U 431 0 (T 432 0 w * 4 + 3)
      omega
theorem ba_i {T U2 U3 T' : Zt} {s b x c : Int} (h2 : fr_ [(101, [5])] T U2) (hs : (b = 0 ∧ U2 101 0 5 = T 101 0 5) ∨ (b ≠ 0 ∧ U2 101 0 5 = s)) (qc : c = U2 432 0 (tb9_ (cpw_ U2 (U2 428 0 (U2 432 0 0)) (U2 101 0 13).toNat) (U2 101 0 5)).1) (q2 : U3 101 0 5 = (tb9_ (cpw_ U2 (U2 428 0 (U2 432 0 0)) (U2 101 0 13).toNat) (U2 101 0 5)).2) (q3 : 1 ≤ cpw_ U2 (U2 428 0 (U2 432 0 0)) (U2 101 0 13).toNat) (h3 : fr_ [(101, [5])] U2 U3) (p : PL9_ U3 T' c) (hx : x = 8 * c + T' 429 0 c) : BA9_ T T' s b x := by
  have e : cpw_ U2 (U2 428 0 (U2 432 0 0)) (U2 101 0 13).toNat = cpw_ T (T 428 0 (T 432 0 0)) (T 101 0 13).toNat := by
    unfold cpw_
    rw [h2 101 0 13 rfl, h2 432 0 0 rfl, h2 428 0 _ rfl, show (fun j => U2 428 0 (U2 432 0 j)) = (fun j => T 428 0 (T 432 0 j)) from funext (fun j => by rw [h2 432 0 j rfl, h2 428 0 _ rfl])]
  rw [e] at qc q2 q3
  rw [h2 432 0 _ rfl] at qc
  subst qc
  exact ⟨U2 101 0 5, _, U3, hs, rfl, q3, fr_t h2 h3, q2, p, hx⟩
theorem bk_X1_takeBelow_e_71 : ck_ fX1 (some .int) cX1_takeBelow 71 [.iload 6, .iload 1, .irem, .ireturn] 76 = true := qck_r (nn_ _) (by decide +kernel)
theorem bs_X1_takeBelow_e_71 {P : Zt → Option Zv → Prop} (K : Int → Zl → List Zv → Zt → Prop) : sx_ K P [.iload 6, .iload 1, .irem, .ireturn] 76 = x_iload 6 (x_iload 1 (x_irem (x_ireturn P))) := ((xe_iload 6).trans (congrArg (x_iload 6) ((xe_iload 1).trans (congrArg (x_iload 1) ((xe_irem).trans (congrArg (x_irem) (xe_ireturn)))))))
theorem bk_X1_takeBelow_e_24 : ck_ fX1 (some .int) cX1_takeBelow 24 [.iload 7, .iconst 1000000, .if_icmp .ge 71, .aload 0, .aload 0, .tableswitch 0 1 5 #[], .iconst 1664525, .fmul, .iconst 1013904223, .fadd, .tableswitch 1 1 5 #[], .aload 0, .tableswitch 0 1 5 #[], .iconst 1, .iushr, .istore 6, .iload 6, .i2l, .lload 4, .lcmp, .ifCond .ge 65, .goto 71] 65 = true := qck_r (nn_ _) (by decide +kernel)
theorem bs_X1_takeBelow_e_24 {P : Zt → Option Zv → Prop} (K : Int → Zl → List Zv → Zt → Prop) : sx_ K P [.iload 7, .iconst 1000000, .if_icmp .ge 71, .aload 0, .aload 0, .tableswitch 0 1 5 #[], .iconst 1664525, .fmul, .iconst 1013904223, .fadd, .tableswitch 1 1 5 #[], .aload 0, .tableswitch 0 1 5 #[], .iconst 1, .iushr, .istore 6, .iload 6, .i2l, .lload 4, .lcmp, .ifCond .ge 65, .goto 71] 65 = x_iload 7 (x_iconst 1000000 (x_if_icmp .ge 71 K (x_aload 0 (x_aload 0 (x_g0 101 5 (-2147483648) 2147483647 (x_iconst 1664525 (x_fmul (x_iconst 1013904223 (x_fadd (x_p 101 5 (-2147483648) 2147483647 (x_aload 0 (x_g0 101 5 (-2147483648) 2147483647 (x_iconst 1 (x_iushr (x_istore 6 (x_iload 6 (x_i2l (x_lload 4 (x_lcmp (x_ifCond .ge 65 K (x_goto 71 K))))))))))))))))))))) := ((xe_iload 7).trans (congrArg (x_iload 7) ((xe_iconst 1000000).trans (congrArg (x_iconst 1000000) ((xe_if_icmp .ge 71).trans (congrArg (x_if_icmp .ge 71 K) ((xe_aload 0).trans (congrArg (x_aload 0) ((xe_aload 0).trans (congrArg (x_aload 0) ((xe_g0 (kk := 101) rfl tl_1_5).trans (congrArg (x_g0 101 5 (-2147483648) 2147483647) ((xe_iconst 1664525).trans (congrArg (x_iconst 1664525) ((xe_fmul).trans (congrArg (x_fmul) ((xe_iconst 1013904223).trans (congrArg (x_iconst 1013904223) ((xe_fadd).trans (congrArg (x_fadd) ((xe_p (kk := 101) rfl tl_1_5).trans (congrArg (x_p 101 5 (-2147483648) 2147483647) ((xe_aload 0).trans (congrArg (x_aload 0) ((xe_g0 (kk := 101) rfl tl_1_5).trans (congrArg (x_g0 101 5 (-2147483648) 2147483647) ((xe_iconst 1).trans (congrArg (x_iconst 1) ((xe_iushr).trans (congrArg (x_iushr) ((xe_istore 6).trans (congrArg (x_istore 6) ((xe_iload 6).trans (congrArg (x_iload 6) ((xe_i2l).trans (congrArg (x_i2l) ((xe_lload 4).trans (congrArg (x_lload 4) ((xe_lcmp).trans (congrArg (x_lcmp) ((xe_ifCond .ge 65).trans (congrArg (x_ifCond .ge 65 K) (xe_goto 71)))))))))))))))))))))))))))))))))))))))))))
theorem bk_X1_takeBelow_e_65 : ck_ fX1 (some .int) cX1_takeBelow 65 [.iinc 7 1, .goto 24] 71 = true := qck_r (nn_ _) (by decide +kernel)
theorem bs_X1_takeBelow_e_65 {P : Zt → Option Zv → Prop} (K : Int → Zl → List Zv → Zt → Prop) : sx_ K P [.iinc 7 1, .goto 24] 71 = x_iinc 7 1 (x_goto 24 K) := ((xe_iinc 7 1).trans (congrArg (x_iinc 7 1) (xe_goto 24)))
theorem bk_X1_takeBelow_e_0 : ck_ fX1 (some .int) cX1_takeBelow 0 [.iload 1, .ifCond .gt 6, .iconst 0, .ireturn] 6 = true := qck_r (nn_ _) (by decide +kernel)
theorem bs_X1_takeBelow_e_0 {P : Zt → Option Zv → Prop} (K : Int → Zl → List Zv → Zt → Prop) : sx_ K P [.iload 1, .ifCond .gt 6, .iconst 0, .ireturn] 6 = x_iload 1 (x_ifCond .gt 6 K (x_iconst 0 (x_ireturn P))) := ((xe_iload 1).trans (congrArg (x_iload 1) ((xe_ifCond .gt 6).trans (congrArg (x_ifCond .gt 6 K) ((xe_iconst 0).trans (congrArg (x_iconst 0) (xe_ireturn)))))))
theorem bk_X1_takeBelow_e_6 : ck_ fX1 (some .int) cX1_takeBelow 6 [.sipush 2147483648, .lstore 2, .lload 2, .lload 2, .iload 1, .i2l, .lrem, .lsub, .lstore 4, .iconst 0, .istore 6, .iconst 0, .istore 7] 24 = true := qck_r (nn_ _) (by decide +kernel)
theorem bs_X1_takeBelow_e_6 {P : Zt → Option Zv → Prop} (K : Int → Zl → List Zv → Zt → Prop) : sx_ K P [.sipush 2147483648, .lstore 2, .lload 2, .lload 2, .iload 1, .i2l, .lrem, .lsub, .lstore 4, .iconst 0, .istore 6, .iconst 0, .istore 7] 24 = x_sipush 2147483648 (x_lstore 2 (x_lload 2 (x_lload 2 (x_iload 1 (x_i2l (x_lrem (x_lsub (x_lstore 4 (x_iconst 0 (x_istore 6 (x_iconst 0 (x_istore 7 (K 24))))))))))))) := ((xe_sipush 2147483648).trans (congrArg (x_sipush 2147483648) ((xe_lstore 2).trans (congrArg (x_lstore 2) ((xe_lload 2).trans (congrArg (x_lload 2) ((xe_lload 2).trans (congrArg (x_lload 2) ((xe_iload 1).trans (congrArg (x_iload 1) ((xe_i2l).trans (congrArg (x_i2l) ((xe_lrem).trans (congrArg (x_lrem) ((xe_lsub).trans (congrArg (x_lsub) ((xe_lstore 4).trans (congrArg (x_lstore 4) ((xe_iconst 0).trans (congrArg (x_iconst 0) ((xe_istore 6).trans (congrArg (x_istore 6) ((xe_iconst 0).trans (congrArg (x_iconst 0) ((xe_istore 7).trans (congrArg (x_istore 7) xe_nil))))))))))))))))))))))))))
abbrev po_X1_takeBelow_e (T : Zt) (m : Int) : Zt → Option Zv → Prop := fun T' r => ∃ x : Int, r = some (vI x) ∧ fr_ [(101, [5])] T T' ∧ (x = (tb9_ m (T 101 0 5)).1 ∧ T' 101 0 5 = (tb9_ m (T 101 0 5)).2 ∧ 0 ≤ x ∧ x < m)
set_option maxHeartbeats 4000000 in
theorem ct_X1_takeBelow_e {T : Zt} {m : Int} (h1 : 1 ≤ m ∧ m ≤ 13824) : Ct_ yX1_takeBelow zX1_takeBelow T [vR 101 0, vI m] (po_X1_takeBelow_e T m) := by
  refine ct_of pn_1 rfl rfl (Nat.le_of_ble_eq_true rfl) (fun hT hav => ?_)
  have hr_m : -2147483648 ≤ m ∧ m ≤ 2147483647 := hav (vI m) (List.mem_cons_of_mem _ List.mem_cons_self)
  have hz : zX1_takeBelow.2.2.2.1 = some .boolean → ∀ (T' : Zt) (x : Int), po_X1_takeBelow_e T m T' (some (vI x)) → 0 ≤ x ∧ x ≤ 1 := fun h => by cases h
  have hr1 := Int.emod_nonneg 2147483648 (b := m)
  have hr2 := Int.emod_lt_of_pos 2147483648 (b := m)
  show J_ zX1_takeBelow T (po_X1_takeBelow_e T m) 0 0 0 [some (vR 101 0), some (vI m), none, none, none, none, none, none] [] T
  have c_71 : ∀ (v : Int) (T2 : Zt), (fr_ [(101, [5])] T T2) → (0 ≤ v ∧ 0 < m) → (v % m = (tb9_ m (T 101 0 5)).1 ∧ T2 101 0 5 = (tb9_ m (T 101 0 5)).2) → J_ zX1_takeBelow T (po_X1_takeBelow_e T m) 0 0 71 [some (vR 101 0), some (vI m), none, none, none, none, some (vI v), none] [] T2 := by
    intro v T2 hf_71 i2 t2
    refine j_blx (F := fX1) tb_X1 (nn_ _) bk_X1_takeBelow_e_71 bs_X1_takeBelow_e_71 hz (fun K hK => ?_)
    have hv1 := Int.emod_nonneg v (show m ≠ 0 by omega)
    have hv2 := Int.emod_lt_of_pos v (show 0 < m by omega)
    refine dv_i (by omega) ?_
    refine (show po_X1_takeBelow_e T m T2 (some (vI (v % m))) from ?_)
    exact ⟨_, rfl, hf_71, t2.1, t2.2, hv1, hv2⟩
  have c_24 : ∀ (nn : Nat) (v : Int) (n : Int) (fa : Int) (T1 : Zt), ((1000000 - n).toNat) ≤ nn → (fr_ [(101, [5])] T T1) → (0 ≤ v ∧ 0 ≤ n ∧ fa = 2147483648 - 2147483648 % m) → ((n = 0 ∧ T1 101 0 5 = (T 101 0 5)) ∨ (n = 1 ∧ T1 101 0 5 = ns9_ (T 101 0 5) ∧ ¬ us_ (ns9_ (T 101 0 5)) 1 < 2147483648 - 2147483648 % m)) → J_ zX1_takeBelow T (po_X1_takeBelow_e T m) 0 0 24 [some (vR 101 0), some (vI m), none, none, some (vL fa), none, some (vI v), some (vI n)] [] T1 := by
    intro nn
    induction nn using Nat.strongRecOn with
    | _ nn ih_24 =>
      intro v n fa T1 hm_24 hf_24 i1 t1
      replace hm_24 := fun (_ : Unit) => hm_24
      refine j_blx (F := fX1) tb_X1 (nn_ _) bk_X1_takeBelow_e_24 bs_X1_takeBelow_e_24 hz (fun K hK => ?_)
      refine And.intro (fun c1 => ?_) (fun c1 => ?_)
      · exact absurd c1 (by omega)
      · intro b2 b2b
        intro w3 w3b
        intro w4 w4b
        refine bd_i (by omega) ?_
        refine x_nm (fun U5 hU5 => ?_)
        have e6 := up_f hU5
        intro b7 b7b
        have e8 : U5 101 0 5 = wr_ ((wr_ ((T1 101 0 5) * 1664525)) + 1013904223) := up_f hU5
        rw [e8] at b7 b7b ⊢
        intro w9 w9b
        have u10 := us_1c (x := (wr_ ((wr_ ((T1 101 0 5) * 1664525)) + 1013904223)))
        refine And.intro (fun c11 => ?_) (And.intro (fun c11 => ?_) (fun c11 => ?_))
        · refine And.intro (fun c12 => ?_) (fun c12 => ?_)
          · exact absurd c12 (by decide)
          · refine hK 71 [some (vR 101 0), some (vI m), none, none, some (vL fa), none, some (vI (us_ (wr_ ((wr_ ((T1 101 0 5) * 1664525)) + 1013904223)) 1)), some (vI n)] [] U5 ?_
            refine j_drop [some (vR 101 0), some (vI m), none, none, none, none, some (vI (us_ (wr_ ((wr_ ((T1 101 0 5) * 1664525)) + 1013904223)) 1)), none] (fun k v hk => ?_) rfl ?_
            · match k, hk with
              | 0, hk => exact hk
              | 1, hk => exact hk
              | 2, hk => cases hk
              | 3, hk => cases hk
              | 4, hk => cases hk
              | 5, hk => cases hk
              | 6, hk => exact hk
              | 7, hk => cases hk
              | k + 8, hk => cases hk
            have e13 : U5 101 0 5 = wr_ ((wr_ ((T1 101 0 5) * 1664525)) + 1013904223) := up_f hU5
            refine c_71 (us_ (wr_ ((wr_ ((T1 101 0 5) * 1664525)) + 1013904223)) 1) U5 ?_ ?_ ?_
            · exact fr_u (fr_t (fr_0 _ _) (fr_s hf_24 rfl)) hU5 rfl
            · omega
            · have y := tb9_a (m := m) (s := (T 101 0 5)) (r := T1 101 0 5) (v := us_ (wr_ ((wr_ ((T1 101 0 5) * 1664525)) + 1013904223)) 1) rfl (by omega) (t1.imp (fun z => z.2) (fun z => z.2))
              exact ⟨y.1, (up_f hU5).trans y.2⟩
        · refine And.intro (fun c14 => ?_) (fun c14 => ?_)
          · refine hK 65 [some (vR 101 0), some (vI m), none, none, some (vL fa), none, some (vI (us_ (wr_ ((wr_ ((T1 101 0 5) * 1664525)) + 1013904223)) 1)), some (vI n)] [] U5 ?_
            refine j_blx (F := fX1) tb_X1 (nn_ _) bk_X1_takeBelow_e_65 bs_X1_takeBelow_e_65 hz (fun K hK => ?_)
            refine rg_i (by omega) ?_
            refine hK 24 [some (vR 101 0), some (vI m), none, none, some (vL fa), none, some (vI (us_ (wr_ ((wr_ ((T1 101 0 5) * 1664525)) + 1013904223)) 1)), some (vI (n + 1))] [] U5 ?_
            have e15 : U5 101 0 5 = wr_ ((wr_ ((T1 101 0 5) * 1664525)) + 1013904223) := up_f hU5
            refine ih_24 _ ?_ (us_ (wr_ ((wr_ ((T1 101 0 5) * 1664525)) + 1013904223)) 1) (n + 1) fa U5 (Nat.le_refl _) ?_ ?_ ?_
            · have hm_24 := hm_24 (); omega
            · exact fr_u (fr_t (fr_0 _ _) (fr_s hf_24 rfl)) hU5 rfl
            · omega
            · rcases t1 with ⟨z1, z2⟩ | ⟨z1, z2, z3⟩
              · refine Or.inr ⟨by omega, ?_, ?_⟩
                · rw [up_f hU5, z2]; rfl
                · have e9 : us_ (ns9_ (T 101 0 5)) 1 = us_ (wr_ ((wr_ ((T1 101 0 5) * 1664525)) + 1013904223)) 1 := by rw [← z2]; rfl
                  rw [e9]; omega
              · exfalso
                have e9 : us_ (ns9_ (ns9_ (T 101 0 5))) 1 = us_ (wr_ ((wr_ ((T1 101 0 5) * 1664525)) + 1013904223)) 1 := by rw [← z2]; rfl
                have e8 := tb9_b h1 z3
                rw [e9] at e8
                omega
          · exact absurd c14 (by decide)
        · refine And.intro (fun c16 => ?_) (fun c16 => ?_)
          · refine hK 65 [some (vR 101 0), some (vI m), none, none, some (vL fa), none, some (vI (us_ (wr_ ((wr_ ((T1 101 0 5) * 1664525)) + 1013904223)) 1)), some (vI n)] [] U5 ?_
            refine j_blx (F := fX1) tb_X1 (nn_ _) bk_X1_takeBelow_e_65 bs_X1_takeBelow_e_65 hz (fun K hK => ?_)
            refine rg_i (by omega) ?_
            refine hK 24 [some (vR 101 0), some (vI m), none, none, some (vL fa), none, some (vI (us_ (wr_ ((wr_ ((T1 101 0 5) * 1664525)) + 1013904223)) 1)), some (vI (n + 1))] [] U5 ?_
            have e17 : U5 101 0 5 = wr_ ((wr_ ((T1 101 0 5) * 1664525)) + 1013904223) := up_f hU5
            refine ih_24 _ ?_ (us_ (wr_ ((wr_ ((T1 101 0 5) * 1664525)) + 1013904223)) 1) (n + 1) fa U5 (Nat.le_refl _) ?_ ?_ ?_
            · have hm_24 := hm_24 (); omega
            · exact fr_u (fr_t (fr_0 _ _) (fr_s hf_24 rfl)) hU5 rfl
            · omega
            · rcases t1 with ⟨z1, z2⟩ | ⟨z1, z2, z3⟩
              · refine Or.inr ⟨by omega, ?_, ?_⟩
                · rw [up_f hU5, z2]; rfl
                · have e9 : us_ (ns9_ (T 101 0 5)) 1 = us_ (wr_ ((wr_ ((T1 101 0 5) * 1664525)) + 1013904223)) 1 := by rw [← z2]; rfl
                  rw [e9]; omega
              · exfalso
                have e9 : us_ (ns9_ (ns9_ (T 101 0 5))) 1 = us_ (wr_ ((wr_ ((T1 101 0 5) * 1664525)) + 1013904223)) 1 := by rw [← z2]; rfl
                have e8 := tb9_b h1 z3
                rw [e9] at e8
                omega
          · exact absurd c16 (by decide)
  refine j_blx (F := fX1) tb_X1 (nn_ _) bk_X1_takeBelow_e_0 bs_X1_takeBelow_e_0 hz (fun K hK => ?_)
  refine And.intro (fun c18 => ?_) (fun c18 => ?_)
  · refine hK 6 _ [] T ?_
    refine j_blx (F := fX1) tb_X1 (nn_ _) bk_X1_takeBelow_e_6 bs_X1_takeBelow_e_6 hz (fun K hK => ?_)
    refine dv_i (by omega) ?_
    refine rl_i (by omega) ?_
    refine hK 24 [some (vR 101 0), some (vI m), some (vL 2147483648), none, some (vL (2147483648 - (2147483648 % m))), none, some (vI 0), some (vI 0)] [] T ?_
    refine j_drop [some (vR 101 0), some (vI m), none, none, some (vL (2147483648 - (2147483648 % m))), none, some (vI 0), some (vI 0)] (fun k v hk => ?_) rfl ?_
    · match k, hk with
      | 0, hk => exact hk
      | 1, hk => exact hk
      | 2, hk => cases hk
      | 3, hk => cases hk
      | 4, hk => exact hk
      | 5, hk => cases hk
      | 6, hk => exact hk
      | 7, hk => exact hk
      | k + 8, hk => cases hk
    refine c_24 _ 0 0 (2147483648 - (2147483648 % m)) T (Nat.le_refl _) ?_ ?_ ?_
    · exact fr_0 _ _
    · omega
    · exact Or.inl ⟨rfl, rfl⟩
  · exact absurd c18 (by omega)
theorem bk_X1_takeClub_e_16 : ck_ fX1 (some .int) cX1_takeClub 16 [.iload 3, .aload 0, .tableswitch 0 1 13 #[], .if_icmp .ge 48, .aload 0, .tableswitch 0 1 8 #[], .aload 0, .tableswitch 0 1 12 #[], .iload 3, .iaload, .iaload, .iload 1, .if_icmp .ne 42, .iinc 2 1, .iinc 3 1, .goto 16] 48 = true := qck_r (nn_ _) (by decide +kernel)
theorem bs_X1_takeClub_e_16 {P : Zt → Option Zv → Prop} (K : Int → Zl → List Zv → Zt → Prop) : sx_ K P [.iload 3, .aload 0, .tableswitch 0 1 13 #[], .if_icmp .ge 48, .aload 0, .tableswitch 0 1 8 #[], .aload 0, .tableswitch 0 1 12 #[], .iload 3, .iaload, .iaload, .iload 1, .if_icmp .ne 42, .iinc 2 1, .iinc 3 1, .goto 16] 48 = x_iload 3 (x_aload 0 (x_g0 101 13 0 12 (x_if_icmp .ge 48 K (x_aload 0 (x_g1 101 428 (x_aload 0 (x_g1 101 432 (x_iload 3 (x_iaload (x_iaload (x_iload 1 (x_if_icmp .ne 42 K (x_iinc 2 1 (x_iinc 3 1 (x_goto 16 K))))))))))))))) := ((xe_iload 3).trans (congrArg (x_iload 3) ((xe_aload 0).trans (congrArg (x_aload 0) ((xe_g0 (kk := 101) rfl tl_1_13).trans (congrArg (x_g0 101 13 0 12) ((xe_if_icmp .ge 48).trans (congrArg (x_if_icmp .ge 48 K) ((xe_aload 0).trans (congrArg (x_aload 0) ((xe_g1 (kk := 101) rfl tl_1_8).trans (congrArg (x_g1 101 428) ((xe_aload 0).trans (congrArg (x_aload 0) ((xe_g1 (kk := 101) rfl tl_1_12).trans (congrArg (x_g1 101 432) ((xe_iload 3).trans (congrArg (x_iload 3) ((xe_iaload).trans (congrArg (x_iaload) ((xe_iaload).trans (congrArg (x_iaload) ((xe_iload 1).trans (congrArg (x_iload 1) ((xe_if_icmp .ne 42).trans (congrArg (x_if_icmp .ne 42 K) ((xe_iinc 2 1).trans (congrArg (x_iinc 2 1) ((xe_iinc 3 1).trans (congrArg (x_iinc 3 1) (xe_goto 16)))))))))))))))))))))))))))))))
theorem bk_X1_takeClub_e_48 : ck_ fX1 (some .int) cX1_takeClub 48 [.aload 0, .tableswitch 0 1 12 #[], .aload 0, .iload 2] 54 = true := qck_r (nn_ _) (by decide +kernel)
theorem bs_X1_takeClub_e_48 {P : Zt → Option Zv → Prop} (K : Int → Zl → List Zv → Zt → Prop) : sx_ K P [.aload 0, .tableswitch 0 1 12 #[], .aload 0, .iload 2] 54 = x_aload 0 (x_g1 101 432 (x_aload 0 (x_iload 2 (K 54)))) := ((xe_aload 0).trans (congrArg (x_aload 0) ((xe_g1 (kk := 101) rfl tl_1_12).trans (congrArg (x_g1 101 432) ((xe_aload 0).trans (congrArg (x_aload 0) ((xe_iload 2).trans (congrArg (x_iload 2) xe_nil))))))))
theorem bk_X1_takeClub_e_57 : ck_ fX1 (some .int) cX1_takeClub 57 [.iaload, .ireturn] 59 = true := qck_r (nn_ _) (by decide +kernel)
theorem bs_X1_takeClub_e_57 {P : Zt → Option Zv → Prop} (K : Int → Zl → List Zv → Zt → Prop) : sx_ K P [.iaload, .ireturn] 59 = x_iaload (x_ireturn P) := ((xe_iaload).trans (congrArg (x_iaload) (xe_ireturn)))
theorem bk_X1_takeClub_e_42 : ck_ fX1 (some .int) cX1_takeClub 42 [.iinc 3 1, .goto 16] 48 = true := qck_r (nn_ _) (by decide +kernel)
theorem bs_X1_takeClub_e_42 {P : Zt → Option Zv → Prop} (K : Int → Zl → List Zv → Zt → Prop) : sx_ K P [.iinc 3 1, .goto 16] 48 = x_iinc 3 1 (x_goto 16 K) := ((xe_iinc 3 1).trans (congrArg (x_iinc 3 1) (xe_goto 16)))
theorem bk_X1_takeClub_e_0 : ck_ fX1 (some .int) cX1_takeClub 0 [.aload 0, .tableswitch 0 1 8 #[], .aload 0, .tableswitch 0 1 12 #[], .iconst 0, .iaload, .iaload, .istore 1, .iconst 0, .istore 2, .iconst 0, .istore 3] 16 = true := qck_r (nn_ _) (by decide +kernel)
theorem bs_X1_takeClub_e_0 {P : Zt → Option Zv → Prop} (K : Int → Zl → List Zv → Zt → Prop) : sx_ K P [.aload 0, .tableswitch 0 1 8 #[], .aload 0, .tableswitch 0 1 12 #[], .iconst 0, .iaload, .iaload, .istore 1, .iconst 0, .istore 2, .iconst 0, .istore 3] 16 = x_aload 0 (x_g1 101 428 (x_aload 0 (x_g1 101 432 (x_iconst 0 (x_iaload (x_iaload (x_istore 1 (x_iconst 0 (x_istore 2 (x_iconst 0 (x_istore 3 (K 16)))))))))))) := ((xe_aload 0).trans (congrArg (x_aload 0) ((xe_g1 (kk := 101) rfl tl_1_8).trans (congrArg (x_g1 101 428) ((xe_aload 0).trans (congrArg (x_aload 0) ((xe_g1 (kk := 101) rfl tl_1_12).trans (congrArg (x_g1 101 432) ((xe_iconst 0).trans (congrArg (x_iconst 0) ((xe_iaload).trans (congrArg (x_iaload) ((xe_iaload).trans (congrArg (x_iaload) ((xe_istore 1).trans (congrArg (x_istore 1) ((xe_iconst 0).trans (congrArg (x_iconst 0) ((xe_istore 2).trans (congrArg (x_istore 2) ((xe_iconst 0).trans (congrArg (x_iconst 0) ((xe_istore 3).trans (congrArg (x_istore 3) xe_nil))))))))))))))))))))))))
abbrev po_X1_takeClub_e (T : Zt) : Zt → Option Zv → Prop := fun T' r => ∃ x : Int, r = some (vI x) ∧ fr_ [(101, [5])] T T' ∧ (x = T 432 0 (tb9_ (cpw_ T (T 428 0 (T 432 0 0)) (T 101 0 13).toNat) (T 101 0 5)).1 ∧ T' 101 0 5 = (tb9_ (cpw_ T (T 428 0 (T 432 0 0)) (T 101 0 13).toNat) (T 101 0 5)).2 ∧ 1 ≤ cpw_ T (T 428 0 (T 432 0 0)) (T 101 0 13).toNat ∧ (0 ≤ (tb9_ (cpw_ T (T 428 0 (T 432 0 0)) (T 101 0 13).toNat) (T 101 0 5)).1 ∧ (tb9_ (cpw_ T (T 428 0 (T 432 0 0)) (T 101 0 13).toNat) (T 101 0 5)).1 < T 101 0 13) ∧ 0 ≤ x ∧ x < 12)
set_option maxHeartbeats 4000000 in
theorem ct_X1_takeClub_e {T : Zt} (h1 : 1 ≤ T 101 0 13) : Ct_ yX1_takeClub zX1_takeClub T [vR 101 0] (po_X1_takeClub_e T) := by
  refine ct_of pn_1 rfl rfl (Nat.le_of_ble_eq_true rfl) (fun hT hav => ?_)
  have hz : zX1_takeClub.2.2.2.1 = some .boolean → ∀ (T' : Zt) (x : Int), po_X1_takeClub_e T T' (some (vI x)) → 0 ≤ x ∧ x ≤ 1 := fun h => by cases h
  have hwc : 0 ≤ T 101 0 13 ∧ T 101 0 13 ≤ 12 := bd_f hT 101 13 tl_1_13 0
  show J_ zX1_takeClub T (po_X1_takeClub_e T) 0 0 0 [some (vR 101 0), none, none, none] [] T
  have c_16 : ∀ (nn : Nat) (n : Int) (k : Int), ((12 - k).toNat) ≤ nn → (0 ≤ n ∧ n ≤ k ∧ 0 ≤ k ∧ k ≤ T 101 0 13) → (n = cpw_ T (T 428 0 (T 432 0 0)) k.toNat) → J_ zX1_takeClub T (po_X1_takeClub_e T) 0 0 16 [some (vR 101 0), some (vI (T 428 0 (T 432 0 0))), some (vI n), some (vI k)] [] T := by
    intro nn
    induction nn using Nat.strongRecOn with
    | _ nn ih_16 =>
      intro n k hm_16 i1 ic
      replace hm_16 := fun (_ : Unit) => hm_16
      refine j_blx (F := fX1) tb_X1 (nn_ _) bk_X1_takeClub_e_16 bs_X1_takeClub_e_16 hz (fun K hK => ?_)
      intro b1 b1b
      refine And.intro (fun c2 => ?_) (fun c2 => ?_)
      · refine hK 48 _ [] T ?_
        have hk : k = T 101 0 13 := by omega
        have hn1 : 0 < n := by
          have y := cnz_p (f := fun j => T 428 0 (T 432 0 j)) (v := (T 428 0 (T 432 0 0))) (j := 0) (by decide) rfl k.toNat (by omega)
          have z : n = cnz_ (fun j => T 428 0 (T 432 0 j)) (T 428 0 (T 432 0 0)) k.toNat := ic
          omega
        refine j_blx (F := fX1) tb_X1 (nn_ _) bk_X1_takeClub_e_48 bs_X1_takeClub_e_48 hz (fun K hK => ?_)
        refine hK 54 _ [vI n, vR 101 0, vR 432 0] T ?_
        refine j_callV (y := yX1_takeBelow) (Yc := zX1_takeBelow) (rest := [vR 432 0]) [vI n] (ct_X1_takeBelow_e (T := T) (by omega)) cl_X1_75 (qd_c (by decide +kernel)) (nn_ _) rfl (rf_of rfl) (Nat.le_of_ble_eq_true rfl) (Nat.le_of_ble_eq_true rfl) (Nat.le_of_ble_eq_true rfl) rfl ?_
        rintro U3 _ ⟨x4, rfl, fU3, qU3⟩
        show J_ zX1_takeClub T (po_X1_takeClub_e T) 0 0 57 _ [vI x4, vR 432 0] U3
        refine j_blx (F := fX1) tb_X1 (nn_ _) bk_X1_takeClub_e_57 bs_X1_takeClub_e_57 hz (fun K hK => ?_)
        refine ix_i (by omega) ?_
        intro b5 b5b
        have e6 : U3 432 0 x4 = T 432 0 x4 := fU3 432 0 x4 rfl
        rw [e6] at b5 b5b ⊢
        refine (show po_X1_takeClub_e T U3 (some (vI (T 432 0 x4))) from ?_)
        have hcp : n = cpw_ T (T 428 0 (T 432 0 0)) (T 101 0 13).toNat := by rw [← hk]; exact ic
        have y1 : x4 = (tb9_ (cpw_ T (T 428 0 (T 432 0 0)) (T 101 0 13).toNat) (T 101 0 5)).1 := by rw [← hcp]; exact qU3.1
        have y2 : U3 101 0 5 = (tb9_ (cpw_ T (T 428 0 (T 432 0 0)) (T 101 0 13).toNat) (T 101 0 5)).2 := by rw [← hcp]; exact qU3.2.1
        exact ⟨_, rfl, fr_t (fr_0 _ _) (fr_s fU3 rfl), by rw [← y1], y2, by omega, by omega, by omega, by omega⟩
      · refine ix_i (by omega) ?_
        intro b7 b7b
        refine ix_i (by omega) ?_
        intro b8 b8b
        refine And.intro (fun c9 => ?_) (fun c9 => ?_)
        · refine hK 42 _ [] T ?_
          refine j_blx (F := fX1) tb_X1 (nn_ _) bk_X1_takeClub_e_42 bs_X1_takeClub_e_42 hz (fun K hK => ?_)
          refine rg_i (by omega) ?_
          refine hK 16 [some (vR 101 0), some (vI (T 428 0 (T 432 0 0))), some (vI n), some (vI (k + 1))] [] T ?_
          refine ih_16 _ ?_ n (k + 1) (Nat.le_refl _) ?_ ?_
          · have hm_16 := hm_16 (); omega
          · omega
          · show n = cnz_ _ _ _
            rw [cnz_f (f := fun j => T 428 0 (T 432 0 j)) (v := (T 428 0 (T 432 0 0))) (k := k) (by omega) (show ¬ T 428 0 (T 432 0 k) = (T 428 0 (T 432 0 0)) by omega)]
            exact ic
        · refine rg_i (by omega) ?_
          refine rg_i (by omega) ?_
          refine hK 16 [some (vR 101 0), some (vI (T 428 0 (T 432 0 0))), some (vI (n + 1)), some (vI (k + 1))] [] T ?_
          refine ih_16 _ ?_ (n + 1) (k + 1) (Nat.le_refl _) ?_ ?_
          · have hm_16 := hm_16 (); omega
          · omega
          · show _ = cnz_ _ _ _
            rw [cnz_t (f := fun j => T 428 0 (T 432 0 j)) (v := (T 428 0 (T 432 0 0))) (k := k) (by omega) (show T 428 0 (T 432 0 k) = (T 428 0 (T 432 0 0)) by omega)]
            have y : n = cnz_ (fun j => T 428 0 (T 432 0 j)) (T 428 0 (T 432 0 0)) k.toNat := ic
            omega
  refine j_blx (F := fX1) tb_X1 (nn_ _) bk_X1_takeClub_e_0 bs_X1_takeClub_e_0 hz (fun K hK => ?_)
  refine ix_i (by omega) ?_
  intro b10 b10b
  refine ix_i (by omega) ?_
  intro b11 b11b
  refine hK 16 [some (vR 101 0), some (vI (T 428 0 (T 432 0 0))), some (vI 0), some (vI 0)] [] T ?_
  refine c_16 _ 0 0 (Nat.le_refl _) ?_ ?_
  · omega
  · rfl
theorem bk_X1_place_e_14 : ck_ fX1 none cX1_place 14 [.iload 4, .aload 0, .tableswitch 0 1 1 #[], .if_icmp .ge 72, .iload 3, .aload 0, .tableswitch 0 1 11 #[], .iload 1, .iconst 4, .imul, .iload 4, .iadd, .iaload, .iadd, .istore 3, .iload 3, .iload 2, .if_icmp .le 66, .aload 0, .tableswitch 0 1 9 #[], .iload 1, .iload 4, .iastore, .aload 0, .dup, .tableswitch 0 1 4 #[], .iconst 1, .iadd, .tableswitch 1 1 4 #[], .aload 0, .iconst 0, .tableswitch 1 1 7 #[], .return_] 66 = true := qck_r (nn_ _) (by decide +kernel)
theorem bs_X1_place_e_14 {P : Zt → Option Zv → Prop} (K : Int → Zl → List Zv → Zt → Prop) : sx_ K P [.iload 4, .aload 0, .tableswitch 0 1 1 #[], .if_icmp .ge 72, .iload 3, .aload 0, .tableswitch 0 1 11 #[], .iload 1, .iconst 4, .imul, .iload 4, .iadd, .iaload, .iadd, .istore 3, .iload 3, .iload 2, .if_icmp .le 66, .aload 0, .tableswitch 0 1 9 #[], .iload 1, .iload 4, .iastore, .aload 0, .dup, .tableswitch 0 1 4 #[], .iconst 1, .iadd, .tableswitch 1 1 4 #[], .aload 0, .iconst 0, .tableswitch 1 1 7 #[], .return_] 66 = x_iload 4 (x_aload 0 (x_g0 101 1 0 4 (x_if_icmp .ge 72 K (x_iload 3 (x_aload 0 (x_g1 101 431 (x_iload 1 (x_iconst 4 (x_imul (x_iload 4 (x_iadd (x_iaload (x_iadd (x_istore 3 (x_iload 3 (x_iload 2 (x_if_icmp .le 66 K (x_aload 0 (x_g1 101 429 (x_iload 1 (x_iload 4 (x_iastore (x_aload 0 (x_dup (x_g0 101 4 (-2147483648) 2147483647 (x_iconst 1 (x_iadd (x_p 101 4 (-2147483648) 2147483647 (x_aload 0 (x_iconst 0 (x_p 101 7 0 1 (x_return_ P)))))))))))))))))))))))))))))))) := ((xe_iload 4).trans (congrArg (x_iload 4) ((xe_aload 0).trans (congrArg (x_aload 0) ((xe_g0 (kk := 101) rfl tl_1_1).trans (congrArg (x_g0 101 1 0 4) ((xe_if_icmp .ge 72).trans (congrArg (x_if_icmp .ge 72 K) ((xe_iload 3).trans (congrArg (x_iload 3) ((xe_aload 0).trans (congrArg (x_aload 0) ((xe_g1 (kk := 101) rfl tl_1_11).trans (congrArg (x_g1 101 431) ((xe_iload 1).trans (congrArg (x_iload 1) ((xe_iconst 4).trans (congrArg (x_iconst 4) ((xe_imul).trans (congrArg (x_imul) ((xe_iload 4).trans (congrArg (x_iload 4) ((xe_iadd).trans (congrArg (x_iadd) ((xe_iaload).trans (congrArg (x_iaload) ((xe_iadd).trans (congrArg (x_iadd) ((xe_istore 3).trans (congrArg (x_istore 3) ((xe_iload 3).trans (congrArg (x_iload 3) ((xe_iload 2).trans (congrArg (x_iload 2) ((xe_if_icmp .le 66).trans (congrArg (x_if_icmp .le 66 K) ((xe_aload 0).trans (congrArg (x_aload 0) ((xe_g1 (kk := 101) rfl tl_1_9).trans (congrArg (x_g1 101 429) ((xe_iload 1).trans (congrArg (x_iload 1) ((xe_iload 4).trans (congrArg (x_iload 4) ((xe_iastore).trans (congrArg (x_iastore) ((xe_aload 0).trans (congrArg (x_aload 0) ((xe_dup).trans (congrArg (x_dup) ((xe_g0 (kk := 101) rfl tl_1_4).trans (congrArg (x_g0 101 4 (-2147483648) 2147483647) ((xe_iconst 1).trans (congrArg (x_iconst 1) ((xe_iadd).trans (congrArg (x_iadd) ((xe_p (kk := 101) rfl tl_1_4).trans (congrArg (x_p 101 4 (-2147483648) 2147483647) ((xe_aload 0).trans (congrArg (x_aload 0) ((xe_iconst 0).trans (congrArg (x_iconst 0) ((xe_p (kk := 101) rfl tl_1_7).trans (congrArg (x_p 101 7 0 1) (xe_return_)))))))))))))))))))))))))))))))))))))))))))))))))))))))))))))))))
theorem bk_X1_place_e_66 : ck_ fX1 none cX1_place 66 [.iinc 4 1, .goto 14] 72 = true := qck_r (nn_ _) (by decide +kernel)
theorem bs_X1_place_e_66 {P : Zt → Option Zv → Prop} (K : Int → Zl → List Zv → Zt → Prop) : sx_ K P [.iinc 4 1, .goto 14] 72 = x_iinc 4 1 (x_goto 14 K) := ((xe_iinc 4 1).trans (congrArg (x_iinc 4 1) (xe_goto 14)))
theorem bk_X1_place_e_0 : ck_ fX1 none cX1_place 0 [.aload 0, .aload 0, .tableswitch 0 1 6 #[]] 5 = true := qck_r (nn_ _) (by decide +kernel)
theorem bs_X1_place_e_0 {P : Zt → Option Zv → Prop} (K : Int → Zl → List Zv → Zt → Prop) : sx_ K P [.aload 0, .aload 0, .tableswitch 0 1 6 #[]] 5 = x_aload 0 (x_aload 0 (x_g0 101 6 (-2147483648) 2147483647 (K 5))) := ((xe_aload 0).trans (congrArg (x_aload 0) ((xe_aload 0).trans (congrArg (x_aload 0) ((xe_g0 (kk := 101) rfl tl_1_6).trans (congrArg (x_g0 101 6 (-2147483648) 2147483647) xe_nil))))))
theorem bk_X1_place_e_8 : ck_ fX1 none cX1_place 8 [.istore 2, .iconst 0, .istore 3, .iconst 0, .istore 4] 14 = true := qck_r (nn_ _) (by decide +kernel)
theorem bs_X1_place_e_8 {P : Zt → Option Zv → Prop} (K : Int → Zl → List Zv → Zt → Prop) : sx_ K P [.istore 2, .iconst 0, .istore 3, .iconst 0, .istore 4] 14 = x_istore 2 (x_iconst 0 (x_istore 3 (x_iconst 0 (x_istore 4 (K 14))))) := ((xe_istore 2).trans (congrArg (x_istore 2) ((xe_iconst 0).trans (congrArg (x_iconst 0) ((xe_istore 3).trans (congrArg (x_istore 3) ((xe_iconst 0).trans (congrArg (x_iconst 0) ((xe_istore 4).trans (congrArg (x_istore 4) xe_nil))))))))))
abbrev po_X1_place_e (T : Zt) (c : Int) : Zt → Option Zv → Prop := fun T' r => r = none ∧ fr_ [(101, [5, 4, 7]), (429, [])] T T' ∧ (PL9_ T T' c)
set_option maxHeartbeats 4000000 in
theorem ct_X1_place_e {T : Zt} {c : Int} (h1 : 0 ≤ c ∧ c < 12) (ht : 1 ≤ T 101 0 6 ∧ T 101 0 6 ≤ 13824) (hw : ∀ u, 0 ≤ u → u < 4 → 0 ≤ T 431 0 (c * 4 + u) ∧ T 431 0 (c * 4 + u) ≤ 13824) (hs : T 101 0 6 = swn_ T c (T 101 0 1).toNat) (hdr : 0 ≤ T 101 0 4 ∧ T 101 0 4 ≤ 12) : Ct_ yX1_place zX1_place T [vR 101 0, vI c] (po_X1_place_e T c) := by
  refine ct_of pn_1 rfl rfl (Nat.le_of_ble_eq_true rfl) (fun hT hav => ?_)
  have hr_c : -2147483648 ≤ c ∧ c ≤ 2147483647 := hav (vI c) (List.mem_cons_of_mem _ List.mem_cons_self)
  have hz : zX1_place.2.2.2.1 = some .boolean → ∀ (T' : Zt) (x : Int), po_X1_place_e T c T' (some (vI x)) → 0 ≤ x ∧ x ≤ 1 := fun h => by cases h
  have hgr : 0 ≤ T 101 0 1 ∧ T 101 0 1 ≤ 4 := bd_f hT 101 1 tl_1_1 0
  show J_ zX1_place T (po_X1_place_e T c) 0 0 0 [some (vR 101 0), some (vI c), none, none, none] [] T
  have c_14 : ∀ (nn : Nat) (t : Int) (u : Int) (g : Int) (T1 : Zt), ((4 - g).toNat) ≤ nn → (fr_ [(101, [5])] T T1) → (0 ≤ g ∧ g ≤ T 101 0 1 ∧ 0 ≤ u ∧ u ≤ 60000) → (u = swn_ T c g.toNat ∧ t = (tb9_ (T 101 0 6) (T 101 0 5)).1 ∧ T1 101 0 5 = (tb9_ (T 101 0 6) (T 101 0 5)).2 ∧ u ≤ t) → J_ zX1_place T (po_X1_place_e T c) 0 0 14 [some (vR 101 0), some (vI c), some (vI t), some (vI u), some (vI g)] [] T1 := by
    intro nn
    induction nn using Nat.strongRecOn with
    | _ nn ih_14 =>
      intro t u g T1 hm_14 hf_14 i1 i2
      replace hm_14 := fun (_ : Unit) => hm_14
      refine j_blx (F := fX1) tb_X1 (nn_ _) bk_X1_place_e_14 bs_X1_place_e_14 hz (fun K hK => ?_)
      intro b1 b1b
      have e2 : T1 101 0 1 = T 101 0 1 := hf_14 101 0 1 rfl
      rw [e2] at b1 b1b ⊢
      refine And.intro (fun c3 => ?_) (fun c3 => ?_)
      · exfalso; have y := i2.1; rw [show g = T 101 0 1 by omega, ← hs] at y; have y2 := tb9_r (m := T 101 0 6) (s := T 101 0 5) (by omega); omega
      · have hbw := hw g (by omega) (by omega)
        have hbs := swn_b hw g.toNat (by omega)
        refine rg_i (by omega) ?_
        refine rg_i (by omega) ?_
        refine ix_i (by omega) ?_
        intro b4 b4b
        have e5 : T1 431 0 ((c * 4) + g) = T 431 0 ((c * 4) + g) := hf_14 431 0 ((c * 4) + g) rfl
        rw [e5] at b4 b4b ⊢
        refine rg_i (by omega) ?_
        refine And.intro (fun c6 => ?_) (fun c6 => ?_)
        · refine hK 66 [some (vR 101 0), some (vI c), some (vI t), some (vI (u + (T 431 0 ((c * 4) + g)))), some (vI g)] [] T1 ?_
          refine j_blx (F := fX1) tb_X1 (nn_ _) bk_X1_place_e_66 bs_X1_place_e_66 hz (fun K hK => ?_)
          refine rg_i (by omega) ?_
          refine hK 14 [some (vR 101 0), some (vI c), some (vI t), some (vI (u + (T 431 0 ((c * 4) + g)))), some (vI (g + 1))] [] T1 ?_
          refine ih_14 _ ?_ t (u + (T 431 0 ((c * 4) + g))) (g + 1) T1 (Nat.le_refl _) ?_ ?_ ?_
          · have hm_14 := hm_14 (); omega
          · exact fr_t (fr_0 _ _) (fr_s hf_14 rfl)
          · omega
          · rw [swn_s (by omega)]
            exact ⟨by omega, i2.2.1, i2.2.2.1, by omega⟩
        · refine iy_i (by omega) (by omega) ?_
          refine x_nm (fun U7 hU7 => ?_)
          have e8 := up_f hU7
          intro b9 b9b
          have e10 : U7 101 0 4 = T 101 0 4 := (up_k hU7 (by exact Nat.ne_of_beq_eq_false rfl) 0 4).trans (hf_14 101 0 4 rfl)
          rw [e10] at b9 b9b ⊢
          refine rg_i (by omega) ?_
          refine bd_i (by omega) ?_
          refine x_nm (fun U11 hU11 => ?_)
          have e12 := up_f hU11
          refine bd_i (by omega) ?_
          refine x_nm (fun U13 hU13 => ?_)
          have e14 := up_f hU13
          refine (show po_X1_place_e T c U13 (none) from ?_)
          have hss := swn_s (T := T) (c := c) (g := g) (by omega)
          exact ⟨rfl, fr_u (fr_u (fr_u (fr_t (fr_0 _ _) (fr_s hf_14 rfl)) hU7 rfl) hU11 rfl) hU13 rfl, g, by omega, ⟨by omega, by omega⟩, (up_k hU13 (by exact Nat.ne_of_beq_eq_false rfl) 0 c).trans ((up_k hU11 (by exact Nat.ne_of_beq_eq_false rfl) 0 c).trans (up_f hU7)), fun j hj => (up_k hU13 (by exact Nat.ne_of_beq_eq_false rfl) 0 j).trans ((up_k hU11 (by exact Nat.ne_of_beq_eq_false rfl) 0 j).trans ((up_g hU7 (fun q => hj q.2.2)).trans (hf_14 429 0 j rfl))), (up_j hU13 (by decide) 101 0).trans (up_f hU11), up_f hU13, (up_j hU13 (by decide) 101 0).trans ((up_j hU11 (by decide) 101 0).trans ((up_k hU7 (by exact Nat.ne_of_beq_eq_false rfl) 0 5).trans i2.2.2.1))⟩
  refine j_blx (F := fX1) tb_X1 (nn_ _) bk_X1_place_e_0 bs_X1_place_e_0 hz (fun K hK => ?_)
  intro b15 b15b
  refine hK 5 _ [vI (T 101 0 6), vR 101 0] T ?_
  refine j_callV (y := yX1_takeBelow) (Yc := zX1_takeBelow) (rest := []) [vI (T 101 0 6)] (ct_X1_takeBelow_e (T := T) (by omega)) cl_X1_75 (qd_c (by decide +kernel)) (nn_ _) rfl (rf_of rfl) (Nat.le_of_ble_eq_true rfl) (Nat.le_of_ble_eq_true rfl) (Nat.le_of_ble_eq_true rfl) rfl ?_
  rintro U16 _ ⟨x17, rfl, fU16, qU16⟩
  show J_ zX1_place T (po_X1_place_e T c) 0 0 8 _ [vI x17] U16
  refine j_blx (F := fX1) tb_X1 (nn_ _) bk_X1_place_e_8 bs_X1_place_e_8 hz (fun K hK => ?_)
  refine hK 14 [some (vR 101 0), some (vI c), some (vI x17), some (vI 0), some (vI 0)] [] U16 ?_
  refine c_14 _ x17 0 0 U16 (Nat.le_refl _) ?_ ?_ ?_
  · exact fr_t (fr_0 _ _) (fr_s fU16 rfl)
  · omega
  · exact ⟨rfl, qU16.1, qU16.2.1, by show (0 : Int) ≤ _; omega⟩
theorem bk_X1_openNew_e_0 : ck_ fX1 none cX1_openNew 0 [.aload 0, .iload 1, .tableswitch 1 1 1 #[], .aload 0, .iload 2, .tableswitch 1 1 2 #[], .aload 0, .iconst 0, .tableswitch 1 1 3 #[], .aload 0, .iconst 0, .tableswitch 1 1 4 #[], .aload 0, .iconst 0, .tableswitch 1 1 7 #[], .aload 0, .tableswitch 0 1 8 #[], .iconst (-1)] 30 = true := qck_r (nn_ _) (by decide +kernel)
theorem bs_X1_openNew_e_0 {P : Zt → Option Zv → Prop} (K : Int → Zl → List Zv → Zt → Prop) : sx_ K P [.aload 0, .iload 1, .tableswitch 1 1 1 #[], .aload 0, .iload 2, .tableswitch 1 1 2 #[], .aload 0, .iconst 0, .tableswitch 1 1 3 #[], .aload 0, .iconst 0, .tableswitch 1 1 4 #[], .aload 0, .iconst 0, .tableswitch 1 1 7 #[], .aload 0, .tableswitch 0 1 8 #[], .iconst (-1)] 30 = x_aload 0 (x_iload 1 (x_p 101 1 0 4 (x_aload 0 (x_iload 2 (x_p 101 2 0 3 (x_aload 0 (x_iconst 0 (x_p 101 3 (-2147483648) 2147483647 (x_aload 0 (x_iconst 0 (x_p 101 4 (-2147483648) 2147483647 (x_aload 0 (x_iconst 0 (x_p 101 7 0 1 (x_aload 0 (x_g1 101 428 (x_iconst (-1) (K 30)))))))))))))))))) := ((xe_aload 0).trans (congrArg (x_aload 0) ((xe_iload 1).trans (congrArg (x_iload 1) ((xe_p (kk := 101) rfl tl_1_1).trans (congrArg (x_p 101 1 0 4) ((xe_aload 0).trans (congrArg (x_aload 0) ((xe_iload 2).trans (congrArg (x_iload 2) ((xe_p (kk := 101) rfl tl_1_2).trans (congrArg (x_p 101 2 0 3) ((xe_aload 0).trans (congrArg (x_aload 0) ((xe_iconst 0).trans (congrArg (x_iconst 0) ((xe_p (kk := 101) rfl tl_1_3).trans (congrArg (x_p 101 3 (-2147483648) 2147483647) ((xe_aload 0).trans (congrArg (x_aload 0) ((xe_iconst 0).trans (congrArg (x_iconst 0) ((xe_p (kk := 101) rfl tl_1_4).trans (congrArg (x_p 101 4 (-2147483648) 2147483647) ((xe_aload 0).trans (congrArg (x_aload 0) ((xe_iconst 0).trans (congrArg (x_iconst 0) ((xe_p (kk := 101) rfl tl_1_7).trans (congrArg (x_p 101 7 0 1) ((xe_aload 0).trans (congrArg (x_aload 0) ((xe_g1 (kk := 101) rfl tl_1_8).trans (congrArg (x_g1 101 428) ((xe_iconst (-1)).trans (congrArg (x_iconst (-1)) xe_nil))))))))))))))))))))))))))))))))))))
theorem bk_X1_openNew_e_33 : ck_ fX1 none cX1_openNew 33 [.aload 0, .tableswitch 0 1 9 #[], .iconst (-1)] 38 = true := qck_r (nn_ _) (by decide +kernel)
theorem bs_X1_openNew_e_33 {P : Zt → Option Zv → Prop} (K : Int → Zl → List Zv → Zt → Prop) : sx_ K P [.aload 0, .tableswitch 0 1 9 #[], .iconst (-1)] 38 = x_aload 0 (x_g1 101 429 (x_iconst (-1) (K 38))) := ((xe_aload 0).trans (congrArg (x_aload 0) ((xe_g1 (kk := 101) rfl tl_1_9).trans (congrArg (x_g1 101 429) ((xe_iconst (-1)).trans (congrArg (x_iconst (-1)) xe_nil))))))
theorem bk_X1_openNew_e_41 : ck_ fX1 none cX1_openNew 41 [.aload 0, .tableswitch 0 1 10 #[], .iconst 0] 46 = true := qck_r (nn_ _) (by decide +kernel)
theorem bs_X1_openNew_e_41 {P : Zt → Option Zv → Prop} (K : Int → Zl → List Zv → Zt → Prop) : sx_ K P [.aload 0, .tableswitch 0 1 10 #[], .iconst 0] 46 = x_aload 0 (x_g1 101 430 (x_iconst 0 (K 46))) := ((xe_aload 0).trans (congrArg (x_aload 0) ((xe_g1 (kk := 101) rfl tl_1_10).trans (congrArg (x_g1 101 430) ((xe_iconst 0).trans (congrArg (x_iconst 0) xe_nil))))))
theorem bk_X1_openNew_e_49 : ck_ fX1 none cX1_openNew 49 [.return_] 50 = true := qck_r (nn_ _) (by decide +kernel)
theorem bs_X1_openNew_e_49 {P : Zt → Option Zv → Prop} (K : Int → Zl → List Zv → Zt → Prop) : sx_ K P [.return_] 50 = x_return_ P := (xe_return_)
abbrev po_X1_openNew_e (T : Zt) (g l : Int) : Zt → Option Zv → Prop := fun T' r => r = none ∧ fr_ [(101, [1, 2, 3, 4, 7]), (428, []), (429, []), (430, [])] T T' ∧ (T' 101 0 1 = g ∧ T' 101 0 2 = l ∧ T' 101 0 3 = 0 ∧ T' 101 0 4 = 0 ∧ T' 101 0 7 = 0 ∧ (∀ j, 0 ≤ j → j < 12 → T' 428 0 j = -1 ∧ T' 429 0 j = -1) ∧ ∀ j, 0 ≤ j → j < 3 → T' 430 0 j = 0)
set_option maxHeartbeats 4000000 in
theorem ct_X1_openNew_e {T : Zt} {g l : Int} (h1 : 0 ≤ g ∧ g ≤ 4) (h2 : 0 ≤ l ∧ l ≤ 3) : Ct_ yX1_openNew zX1_openNew T [vR 101 0, vI g, vI l] (po_X1_openNew_e T g l) := by
  refine ct_of pn_1 rfl rfl (Nat.le_of_ble_eq_true rfl) (fun hT hav => ?_)
  have hr_g : -2147483648 ≤ g ∧ g ≤ 2147483647 := hav (vI g) (List.mem_cons_of_mem _ List.mem_cons_self)
  have hr_l : -2147483648 ≤ l ∧ l ≤ 2147483647 := hav (vI l) (List.mem_cons_of_mem _ (List.mem_cons_of_mem _ List.mem_cons_self))
  have hz : zX1_openNew.2.2.2.1 = some .boolean → ∀ (T' : Zt) (x : Int), po_X1_openNew_e T g l T' (some (vI x)) → 0 ≤ x ∧ x ≤ 1 := fun h => by cases h
  show J_ zX1_openNew T (po_X1_openNew_e T g l) 0 0 0 [some (vR 101 0), some (vI g), some (vI l)] [] T
  refine j_blx (F := fX1) tb_X1 (nn_ _) bk_X1_openNew_e_0 bs_X1_openNew_e_0 hz (fun K hK => ?_)
  refine bd_i (by omega) ?_
  refine x_nm (fun U1 hU1 => ?_)
  have e2 := up_f hU1
  refine bd_i (by omega) ?_
  refine x_nm (fun U3 hU3 => ?_)
  have e4 := up_f hU3
  refine bd_i (by omega) ?_
  refine x_nm (fun U5 hU5 => ?_)
  have e6 := up_f hU5
  refine bd_i (by omega) ?_
  refine x_nm (fun U7 hU7 => ?_)
  have e8 := up_f hU7
  refine bd_i (by omega) ?_
  refine x_nm (fun U9 hU9 => ?_)
  have e10 := up_f hU9
  refine hK 30 _ [vI (-1), vR 428 0] U9 ?_
  refine j_callS (y := yJ7_fill_53178) (Yc := zJ7_fill_53178) (rest := []) [vR 428 0, vI (-1)] (ct_J7_fill_428 (T := U9) (by omega)) cl_X1_54 (qd_c (by decide +kernel)) (nn_ _) rfl (rf_of rfl) (Nat.le_of_ble_eq_true rfl) (Nat.le_of_ble_eq_true rfl) (Nat.le_of_ble_eq_true rfl) rfl ?_
  rintro U11 _ ⟨rfl, fU11, qU11o, qU11⟩
  show J_ zX1_openNew T (po_X1_openNew_e T g l) 0 0 33 _ [] U11
  refine j_blx (F := fX1) tb_X1 (nn_ _) bk_X1_openNew_e_33 bs_X1_openNew_e_33 hz (fun K hK => ?_)
  refine hK 38 _ [vI (-1), vR 429 0] U11 ?_
  refine j_callS (y := yJ7_fill_53178) (Yc := zJ7_fill_53178) (rest := []) [vR 429 0, vI (-1)] (ct_J7_fill_429 (T := U11) (by omega)) cl_X1_54 (qd_c (by decide +kernel)) (nn_ _) rfl (rf_of rfl) (Nat.le_of_ble_eq_true rfl) (Nat.le_of_ble_eq_true rfl) (Nat.le_of_ble_eq_true rfl) rfl ?_
  rintro U12 _ ⟨rfl, fU12, qU12o, qU12⟩
  show J_ zX1_openNew T (po_X1_openNew_e T g l) 0 0 41 _ [] U12
  refine j_blx (F := fX1) tb_X1 (nn_ _) bk_X1_openNew_e_41 bs_X1_openNew_e_41 hz (fun K hK => ?_)
  refine hK 46 _ [vI 0, vR 430 0] U12 ?_
  refine j_callS (y := yJ7_fill_53178) (Yc := zJ7_fill_53178) (rest := []) [vR 430 0, vI 0] (ct_J7_fill_430 (T := U12) (by omega)) cl_X1_54 (qd_c (by decide +kernel)) (nn_ _) rfl (rf_of rfl) (Nat.le_of_ble_eq_true rfl) (Nat.le_of_ble_eq_true rfl) (Nat.le_of_ble_eq_true rfl) rfl ?_
  rintro U13 _ ⟨rfl, fU13, qU13o, qU13⟩
  show J_ zX1_openNew T (po_X1_openNew_e T g l) 0 0 49 _ [] U13
  refine j_blx (F := fX1) tb_X1 (nn_ _) bk_X1_openNew_e_49 bs_X1_openNew_e_49 hz (fun K hK => ?_)
  refine (show po_X1_openNew_e T g l U13 (none) from ?_)
  have e14 : U13 101 0 1 = g := (fU13 101 0 1 rfl).trans ((fU12 101 0 1 rfl).trans ((fU11 101 0 1 rfl).trans ((up_j hU9 (by decide) 101 0).trans ((up_j hU7 (by decide) 101 0).trans ((up_j hU5 (by decide) 101 0).trans ((up_j hU3 (by decide) 101 0).trans (up_f hU1)))))))
  have e15 : U13 101 0 2 = l := (fU13 101 0 2 rfl).trans ((fU12 101 0 2 rfl).trans ((fU11 101 0 2 rfl).trans ((up_j hU9 (by decide) 101 0).trans ((up_j hU7 (by decide) 101 0).trans ((up_j hU5 (by decide) 101 0).trans (up_f hU3))))))
  have e16 : U13 101 0 3 = 0 := (fU13 101 0 3 rfl).trans ((fU12 101 0 3 rfl).trans ((fU11 101 0 3 rfl).trans ((up_j hU9 (by decide) 101 0).trans ((up_j hU7 (by decide) 101 0).trans (up_f hU5)))))
  have e17 : U13 101 0 4 = 0 := (fU13 101 0 4 rfl).trans ((fU12 101 0 4 rfl).trans ((fU11 101 0 4 rfl).trans ((up_j hU9 (by decide) 101 0).trans (up_f hU7))))
  have e18 : U13 101 0 7 = 0 := (fU13 101 0 7 rfl).trans ((fU12 101 0 7 rfl).trans ((fU11 101 0 7 rfl).trans (up_f hU9)))
  exact ⟨rfl, fr_t (fr_t (fr_t (fr_u (fr_u (fr_u (fr_u (fr_u (fr_0 _ _) hU1 rfl) hU3 rfl) hU5 rfl) hU7 rfl) hU9 rfl) (fr_s fU11 rfl)) (fr_s fU12 rfl)) (fr_s fU13 rfl), (fU13 101 0 1 rfl).trans ((fU12 101 0 1 rfl).trans ((fU11 101 0 1 rfl).trans ((up_j hU9 (by decide) 101 0).trans ((up_j hU7 (by decide) 101 0).trans ((up_j hU5 (by decide) 101 0).trans ((up_j hU3 (by decide) 101 0).trans (up_f hU1))))))), (fU13 101 0 2 rfl).trans ((fU12 101 0 2 rfl).trans ((fU11 101 0 2 rfl).trans ((up_j hU9 (by decide) 101 0).trans ((up_j hU7 (by decide) 101 0).trans ((up_j hU5 (by decide) 101 0).trans (up_f hU3)))))), (fU13 101 0 3 rfl).trans ((fU12 101 0 3 rfl).trans ((fU11 101 0 3 rfl).trans ((up_j hU9 (by decide) 101 0).trans ((up_j hU7 (by decide) 101 0).trans (up_f hU5))))), (fU13 101 0 4 rfl).trans ((fU12 101 0 4 rfl).trans ((fU11 101 0 4 rfl).trans ((up_j hU9 (by decide) 101 0).trans (up_f hU7)))), (fU13 101 0 7 rfl).trans ((fU12 101 0 7 rfl).trans ((fU11 101 0 7 rfl).trans (up_f hU9))), fun j a b => ⟨(fU13 428 0 j rfl).trans ((fU12 428 0 j rfl).trans (qU11 j a b)), (fU13 429 0 j rfl).trans (qU12 j a b)⟩, fun j a b => qU13 j a b⟩
theorem bk_X10_drawing_e_0 : ck_ fX10 (some .int) cX10_drawing 0 [.iload 1, .iconst 1, .if_icmp .lt 20, .iload 1, .iconst 4, .if_icmp .gt 20, .iload 2, .iconst 1, .if_icmp .lt 20, .iload 2, .iconst 3, .if_icmp .le 23, .iconst (-3), .ireturn] 23 = true := qck_r (nn_ _) (by decide +kernel)
theorem bs_X10_drawing_e_0 {P : Zt → Option Zv → Prop} (K : Int → Zl → List Zv → Zt → Prop) : sx_ K P [.iload 1, .iconst 1, .if_icmp .lt 20, .iload 1, .iconst 4, .if_icmp .gt 20, .iload 2, .iconst 1, .if_icmp .lt 20, .iload 2, .iconst 3, .if_icmp .le 23, .iconst (-3), .ireturn] 23 = x_iload 1 (x_iconst 1 (x_if_icmp .lt 20 K (x_iload 1 (x_iconst 4 (x_if_icmp .gt 20 K (x_iload 2 (x_iconst 1 (x_if_icmp .lt 20 K (x_iload 2 (x_iconst 3 (x_if_icmp .le 23 K (x_iconst (-3) (x_ireturn P))))))))))))) := ((xe_iload 1).trans (congrArg (x_iload 1) ((xe_iconst 1).trans (congrArg (x_iconst 1) ((xe_if_icmp .lt 20).trans (congrArg (x_if_icmp .lt 20 K) ((xe_iload 1).trans (congrArg (x_iload 1) ((xe_iconst 4).trans (congrArg (x_iconst 4) ((xe_if_icmp .gt 20).trans (congrArg (x_if_icmp .gt 20 K) ((xe_iload 2).trans (congrArg (x_iload 2) ((xe_iconst 1).trans (congrArg (x_iconst 1) ((xe_if_icmp .lt 20).trans (congrArg (x_if_icmp .lt 20 K) ((xe_iload 2).trans (congrArg (x_iload 2) ((xe_iconst 3).trans (congrArg (x_iconst 3) ((xe_if_icmp .le 23).trans (congrArg (x_if_icmp .le 23 K) ((xe_iconst (-3)).trans (congrArg (x_iconst (-3)) (xe_ireturn)))))))))))))))))))))))))))
theorem bk_X10_drawing_e_20 : ck_ fX10 (some .int) cX10_drawing 20 [.iconst (-3), .ireturn] 23 = true := qck_r (nn_ _) (by decide +kernel)
theorem bs_X10_drawing_e_20 {P : Zt → Option Zv → Prop} (K : Int → Zl → List Zv → Zt → Prop) : sx_ K P [.iconst (-3), .ireturn] 23 = x_iconst (-3) (x_ireturn P) := ((xe_iconst (-3)).trans (congrArg (x_iconst (-3)) (xe_ireturn)))
theorem bk_X10_drawing_e_23 : ck_ fX10 (some .int) cX10_drawing 23 [.aload 0, .tableswitch 0 10 5 #[], .iload 1, .iload 2] 29 = true := qck_r (nn_ _) (by decide +kernel)
theorem bs_X10_drawing_e_23 {P : Zt → Option Zv → Prop} (K : Int → Zl → List Zv → Zt → Prop) : sx_ K P [.aload 0, .tableswitch 0 10 5 #[], .iload 1, .iload 2] 29 = x_aload 0 (x_g1 110 101 (x_iload 1 (x_iload 2 (K 29)))) := ((xe_aload 0).trans (congrArg (x_aload 0) ((xe_g1 (kk := 110) rfl tl_10_5).trans (congrArg (x_g1 110 101) ((xe_iload 1).trans (congrArg (x_iload 1) ((xe_iload 2).trans (congrArg (x_iload 2) xe_nil))))))))
theorem bk_X10_drawing_e_32 : ck_ fX10 (some .int) cX10_drawing 32 [.iconst 1, .ireturn] 34 = true := qck_r (nn_ _) (by decide +kernel)
theorem bs_X10_drawing_e_32 {P : Zt → Option Zv → Prop} (K : Int → Zl → List Zv → Zt → Prop) : sx_ K P [.iconst 1, .ireturn] 34 = x_iconst 1 (x_ireturn P) := ((xe_iconst 1).trans (congrArg (x_iconst 1) (xe_ireturn)))
abbrev po_X10_drawing_e (T : Zt) (g l : Int) : Zt → Option Zv → Prop := fun T' r => ∃ x : Int, r = some (vI x) ∧ fr_ [(101, [1, 2, 3, 4, 7]), (428, []), (429, []), (430, [])] T T' ∧ (((x = -3 ∧ ¬ (1 ≤ g ∧ g ≤ 4 ∧ 1 ≤ l ∧ l ≤ 3)) ∨ (x = 1 ∧ 1 ≤ g ∧ g ≤ 4 ∧ 1 ≤ l ∧ l ≤ 3)) ∧ NDH_ T T' g l x)
set_option maxHeartbeats 4000000 in
theorem ct_X10_drawing_e {T : Zt} {g l : Int} : Ct_ yX10_drawing zX10_drawing T [vR 110 0, vI g, vI l] (po_X10_drawing_e T g l) := by
  refine ct_of pn_10 rfl rfl (Nat.le_of_ble_eq_true rfl) (fun hT hav => ?_)
  have hr_g : -2147483648 ≤ g ∧ g ≤ 2147483647 := hav (vI g) (List.mem_cons_of_mem _ List.mem_cons_self)
  have hr_l : -2147483648 ≤ l ∧ l ≤ 2147483647 := hav (vI l) (List.mem_cons_of_mem _ (List.mem_cons_of_mem _ List.mem_cons_self))
  have hz : zX10_drawing.2.2.2.1 = some .boolean → ∀ (T' : Zt) (x : Int), po_X10_drawing_e T g l T' (some (vI x)) → 0 ≤ x ∧ x ≤ 1 := fun h => by cases h
  show J_ zX10_drawing T (po_X10_drawing_e T g l) 0 0 0 [some (vR 110 0), some (vI g), some (vI l)] [] T
  refine j_blx (F := fX10) tb_X10 (nn_ _) bk_X10_drawing_e_0 bs_X10_drawing_e_0 hz (fun K hK => ?_)
  refine And.intro (fun c1 => ?_) (fun c1 => ?_)
  · refine hK 20 _ [] T ?_
    refine j_blx (F := fX10) tb_X10 (nn_ _) bk_X10_drawing_e_20 bs_X10_drawing_e_20 hz (fun K hK => ?_)
    refine (show po_X10_drawing_e T g l T (some (vI (-3))) from ?_)
    exact ⟨_, rfl, fr_0 _ _, by omega, Or.inl ⟨rfl, rfl, by omega⟩⟩
  · refine And.intro (fun c2 => ?_) (fun c2 => ?_)
    · refine hK 20 _ [] T ?_
      refine j_blx (F := fX10) tb_X10 (nn_ _) bk_X10_drawing_e_20 bs_X10_drawing_e_20 hz (fun K hK => ?_)
      refine (show po_X10_drawing_e T g l T (some (vI (-3))) from ?_)
      exact ⟨_, rfl, fr_0 _ _, by omega, Or.inl ⟨rfl, rfl, by omega⟩⟩
    · refine And.intro (fun c3 => ?_) (fun c3 => ?_)
      · refine hK 20 _ [] T ?_
        refine j_blx (F := fX10) tb_X10 (nn_ _) bk_X10_drawing_e_20 bs_X10_drawing_e_20 hz (fun K hK => ?_)
        refine (show po_X10_drawing_e T g l T (some (vI (-3))) from ?_)
        exact ⟨_, rfl, fr_0 _ _, by omega, Or.inl ⟨rfl, rfl, by omega⟩⟩
      · refine And.intro (fun c4 => ?_) (fun c4 => ?_)
        · refine hK 23 _ [] T ?_
          refine j_blx (F := fX10) tb_X10 (nn_ _) bk_X10_drawing_e_23 bs_X10_drawing_e_23 hz (fun K hK => ?_)
          refine hK 29 _ [vI l, vI g, vR 101 0] T ?_
          refine j_callV (y := yX1_openNew) (Yc := zX1_openNew) (rest := []) [vI g, vI l] (ct_X1_openNew_e (T := T) (by omega) (by omega)) cl_X10_380 (qd_c (by decide +kernel)) (nn_ _) rfl (rf_of rfl) (Nat.le_of_ble_eq_true rfl) (Nat.le_of_ble_eq_true rfl) (Nat.le_of_ble_eq_true rfl) rfl ?_
          rintro U5 _ ⟨rfl, fU5, qU5⟩
          show J_ zX10_drawing T (po_X10_drawing_e T g l) 0 0 32 _ [] U5
          refine j_blx (F := fX10) tb_X10 (nn_ _) bk_X10_drawing_e_32 bs_X10_drawing_e_32 hz (fun K hK => ?_)
          refine (show po_X10_drawing_e T g l U5 (some (vI 1)) from ?_)
          exact ⟨_, rfl, fr_t (fr_0 _ _) (fr_s fU5 rfl), by omega, Or.inr ⟨by omega, rfl, qU5⟩⟩
        · refine (show po_X10_drawing_e T g l T (some (vI (-3))) from ?_)
          exact ⟨_, rfl, fr_0 _ _, by omega, Or.inl ⟨rfl, rfl, by omega⟩⟩
theorem bk_X1_putIn_e_0 : ck_ fX1 none cX1_putIn 0 [.aload 0, .tableswitch 0 1 8 #[], .iload 1, .iload 2, .iastore, .aload 0, .tableswitch 0 1 10 #[], .iload 2, .dup2, .iaload, .iconst 1, .iadd, .iastore, .aload 0, .dup, .tableswitch 0 1 3 #[], .iconst 1, .iadd, .tableswitch 1 1 3 #[], .aload 0, .iconst 0, .tableswitch 1 1 7 #[], .return_] 33 = true := qck_r (nn_ _) (by decide +kernel)
theorem bs_X1_putIn_e_0 {P : Zt → Option Zv → Prop} (K : Int → Zl → List Zv → Zt → Prop) : sx_ K P [.aload 0, .tableswitch 0 1 8 #[], .iload 1, .iload 2, .iastore, .aload 0, .tableswitch 0 1 10 #[], .iload 2, .dup2, .iaload, .iconst 1, .iadd, .iastore, .aload 0, .dup, .tableswitch 0 1 3 #[], .iconst 1, .iadd, .tableswitch 1 1 3 #[], .aload 0, .iconst 0, .tableswitch 1 1 7 #[], .return_] 33 = x_aload 0 (x_g1 101 428 (x_iload 1 (x_iload 2 (x_iastore (x_aload 0 (x_g1 101 430 (x_iload 2 (x_dup2 (x_iaload (x_iconst 1 (x_iadd (x_iastore (x_aload 0 (x_dup (x_g0 101 3 (-2147483648) 2147483647 (x_iconst 1 (x_iadd (x_p 101 3 (-2147483648) 2147483647 (x_aload 0 (x_iconst 0 (x_p 101 7 0 1 (x_return_ P)))))))))))))))))))))) := ((xe_aload 0).trans (congrArg (x_aload 0) ((xe_g1 (kk := 101) rfl tl_1_8).trans (congrArg (x_g1 101 428) ((xe_iload 1).trans (congrArg (x_iload 1) ((xe_iload 2).trans (congrArg (x_iload 2) ((xe_iastore).trans (congrArg (x_iastore) ((xe_aload 0).trans (congrArg (x_aload 0) ((xe_g1 (kk := 101) rfl tl_1_10).trans (congrArg (x_g1 101 430) ((xe_iload 2).trans (congrArg (x_iload 2) ((xe_dup2).trans (congrArg (x_dup2) ((xe_iaload).trans (congrArg (x_iaload) ((xe_iconst 1).trans (congrArg (x_iconst 1) ((xe_iadd).trans (congrArg (x_iadd) ((xe_iastore).trans (congrArg (x_iastore) ((xe_aload 0).trans (congrArg (x_aload 0) ((xe_dup).trans (congrArg (x_dup) ((xe_g0 (kk := 101) rfl tl_1_3).trans (congrArg (x_g0 101 3 (-2147483648) 2147483647) ((xe_iconst 1).trans (congrArg (x_iconst 1) ((xe_iadd).trans (congrArg (x_iadd) ((xe_p (kk := 101) rfl tl_1_3).trans (congrArg (x_p 101 3 (-2147483648) 2147483647) ((xe_aload 0).trans (congrArg (x_aload 0) ((xe_iconst 0).trans (congrArg (x_iconst 0) ((xe_p (kk := 101) rfl tl_1_7).trans (congrArg (x_p 101 7 0 1) (xe_return_)))))))))))))))))))))))))))))))))))))))))))))
abbrev po_X1_putIn_e (T : Zt) (c k : Int) : Zt → Option Zv → Prop := fun T' r => r = none ∧ fr_ [(428, []), (430, []), (101, [3, 7])] T T' ∧ ((T' 428 0 c = k ∧ ∀ j, j ≠ c → T' 428 0 j = T 428 0 j) ∧ (T' 430 0 k = T 430 0 k + 1 ∧ ∀ j, j ≠ k → T' 430 0 j = T 430 0 j) ∧ T' 101 0 3 = T 101 0 3 + 1 ∧ T' 101 0 7 = 0)
set_option maxHeartbeats 4000000 in
theorem ct_X1_putIn_e {T : Zt} {c k : Int} (h1 : 0 ≤ c ∧ c < 12) (h2 : 0 ≤ k ∧ k ≤ 2) (h3 : T 430 0 k < 4) (h4 : 0 ≤ T 101 0 3 ∧ T 101 0 3 ≤ 12) : Ct_ yX1_putIn zX1_putIn T [vR 101 0, vI c, vI k] (po_X1_putIn_e T c k) := by
  refine ct_of pn_1 rfl rfl (Nat.le_of_ble_eq_true rfl) (fun hT hav => ?_)
  have hr_c : -2147483648 ≤ c ∧ c ≤ 2147483647 := hav (vI c) (List.mem_cons_of_mem _ List.mem_cons_self)
  have hr_k : -2147483648 ≤ k ∧ k ≤ 2147483647 := hav (vI k) (List.mem_cons_of_mem _ (List.mem_cons_of_mem _ List.mem_cons_self))
  have hz : zX1_putIn.2.2.2.1 = some .boolean → ∀ (T' : Zt) (x : Int), po_X1_putIn_e T c k T' (some (vI x)) → 0 ≤ x ∧ x ≤ 1 := fun h => by cases h
  have hps : 0 ≤ T 430 0 k ∧ T 430 0 k ≤ 4 := bd_a hT 430 (by decide +kernel : ta_ 430 = some (1, some 3, 0, 4)) 0 (by omega)
  show J_ zX1_putIn T (po_X1_putIn_e T c k) 0 0 0 [some (vR 101 0), some (vI c), some (vI k)] [] T
  refine j_blx (F := fX1) tb_X1 (nn_ _) bk_X1_putIn_e_0 bs_X1_putIn_e_0 hz (fun K hK => ?_)
  refine iy_i (by omega) (by omega) ?_
  refine x_nm (fun U1 hU1 => ?_)
  have e2 := up_f hU1
  refine ix_i (by omega) ?_
  intro b3 b3b
  have e4 : U1 430 0 k = T 430 0 k := up_k hU1 (by exact Nat.ne_of_beq_eq_false rfl) 0 k
  rw [e4] at b3 b3b ⊢
  refine rg_i (by omega) ?_
  refine iy_i (by omega) (by omega) ?_
  refine x_nm (fun U5 hU5 => ?_)
  have e6 := up_f hU5
  intro b7 b7b
  have e8 : U5 101 0 3 = T 101 0 3 := (up_k hU5 (by exact Nat.ne_of_beq_eq_false rfl) 0 3).trans (up_k hU1 (by exact Nat.ne_of_beq_eq_false rfl) 0 3)
  rw [e8] at b7 b7b ⊢
  refine rg_i (by omega) ?_
  refine bd_i (by omega) ?_
  refine x_nm (fun U9 hU9 => ?_)
  have e10 := up_f hU9
  refine bd_i (by omega) ?_
  refine x_nm (fun U11 hU11 => ?_)
  have e12 := up_f hU11
  refine (show po_X1_putIn_e T c k U11 (none) from ?_)
  have e13 : U11 428 0 c = k := (up_k hU11 (by exact Nat.ne_of_beq_eq_false rfl) 0 c).trans ((up_k hU9 (by exact Nat.ne_of_beq_eq_false rfl) 0 c).trans ((up_k hU5 (by exact Nat.ne_of_beq_eq_false rfl) 0 c).trans (up_f hU1)))
  have e14 : U11 430 0 k = (T 430 0 k) + 1 := (up_k hU11 (by exact Nat.ne_of_beq_eq_false rfl) 0 k).trans ((up_k hU9 (by exact Nat.ne_of_beq_eq_false rfl) 0 k).trans (up_f hU5))
  have e15 : U11 101 0 3 = (T 101 0 3) + 1 := (up_j hU11 (by decide) 101 0).trans (up_f hU9)
  have e16 : U11 101 0 7 = 0 := up_f hU11
  exact ⟨rfl, fr_u (fr_u (fr_u (fr_u (fr_0 _ _) hU1 rfl) hU5 rfl) hU9 rfl) hU11 rfl, ⟨(up_k hU11 (by exact Nat.ne_of_beq_eq_false rfl) 0 _).trans ((up_k hU9 (by exact Nat.ne_of_beq_eq_false rfl) 0 _).trans ((up_k hU5 (by exact Nat.ne_of_beq_eq_false rfl) 0 _).trans (up_f hU1))), fun j hj => (up_k hU11 (by exact Nat.ne_of_beq_eq_false rfl) 0 j).trans ((up_k hU9 (by exact Nat.ne_of_beq_eq_false rfl) 0 j).trans ((up_k hU5 (by exact Nat.ne_of_beq_eq_false rfl) 0 j).trans (up_g hU1 (fun q => hj q.2.2))))⟩, ⟨(up_k hU11 (by exact Nat.ne_of_beq_eq_false rfl) 0 _).trans ((up_k hU9 (by exact Nat.ne_of_beq_eq_false rfl) 0 _).trans (up_f hU5)), fun j hj => (up_k hU11 (by exact Nat.ne_of_beq_eq_false rfl) 0 j).trans ((up_k hU9 (by exact Nat.ne_of_beq_eq_false rfl) 0 j).trans ((up_g hU5 (fun q => hj q.2.2)).trans (up_k hU1 (by exact Nat.ne_of_beq_eq_false rfl) 0 j)))⟩, (up_j hU11 (by decide) 101 0).trans (up_f hU9), up_f hU11⟩
theorem bk_X10_pot_e_0 : ck_ fX10 (some .int) cX10_pot 0 [.aload 0, .iload 1] 2 = true := qck_r (nn_ _) (by decide +kernel)
theorem bs_X10_pot_e_0 {P : Zt → Option Zv → Prop} (K : Int → Zl → List Zv → Zt → Prop) : sx_ K P [.aload 0, .iload 1] 2 = x_aload 0 (x_iload 1 (K 2)) := ((xe_aload 0).trans (congrArg (x_aload 0) ((xe_iload 1).trans (congrArg (x_iload 1) xe_nil))))
theorem bk_X10_pot_e_5 : ck_ fX10 (some .int) cX10_pot 5 [.ifCond .ne 11, .iconst (-2), .ireturn] 11 = true := qck_r (nn_ _) (by decide +kernel)
theorem bs_X10_pot_e_5 {P : Zt → Option Zv → Prop} (K : Int → Zl → List Zv → Zt → Prop) : sx_ K P [.ifCond .ne 11, .iconst (-2), .ireturn] 11 = x_ifCond .ne 11 K (x_iconst (-2) (x_ireturn P)) := ((xe_ifCond .ne 11).trans (congrArg (x_ifCond .ne 11 K) ((xe_iconst (-2)).trans (congrArg (x_iconst (-2)) (xe_ireturn)))))
theorem bk_X10_pot_e_11 : ck_ fX10 (some .int) cX10_pot 11 [.iload 2, .ifCond .lt 20, .iload 2, .iconst 3, .if_icmp .lt 23, .iconst (-3), .ireturn] 23 = true := qck_r (nn_ _) (by decide +kernel)
theorem bs_X10_pot_e_11 {P : Zt → Option Zv → Prop} (K : Int → Zl → List Zv → Zt → Prop) : sx_ K P [.iload 2, .ifCond .lt 20, .iload 2, .iconst 3, .if_icmp .lt 23, .iconst (-3), .ireturn] 23 = x_iload 2 (x_ifCond .lt 20 K (x_iload 2 (x_iconst 3 (x_if_icmp .lt 23 K (x_iconst (-3) (x_ireturn P)))))) := ((xe_iload 2).trans (congrArg (x_iload 2) ((xe_ifCond .lt 20).trans (congrArg (x_ifCond .lt 20 K) ((xe_iload 2).trans (congrArg (x_iload 2) ((xe_iconst 3).trans (congrArg (x_iconst 3) ((xe_if_icmp .lt 23).trans (congrArg (x_if_icmp .lt 23 K) ((xe_iconst (-3)).trans (congrArg (x_iconst (-3)) (xe_ireturn)))))))))))))
theorem bk_X10_pot_e_20 : ck_ fX10 (some .int) cX10_pot 20 [.iconst (-3), .ireturn] 23 = true := qck_r (nn_ _) (by decide +kernel)
theorem bs_X10_pot_e_20 {P : Zt → Option Zv → Prop} (K : Int → Zl → List Zv → Zt → Prop) : sx_ K P [.iconst (-3), .ireturn] 23 = x_iconst (-3) (x_ireturn P) := ((xe_iconst (-3)).trans (congrArg (x_iconst (-3)) (xe_ireturn)))
theorem bk_X10_pot_e_23 : ck_ fX10 (some .int) cX10_pot 23 [.aload 0, .tableswitch 0 10 5 #[], .tableswitch 0 1 1 #[], .ifCond .eq 56, .aload 0, .tableswitch 0 10 5 #[], .tableswitch 0 1 8 #[], .iload 1, .iaload, .iconst (-1), .if_icmp .ne 56, .aload 0, .tableswitch 0 10 5 #[], .tableswitch 0 1 4 #[], .ifCond .le 59, .iconst (-4), .ireturn] 59 = true := qck_r (nn_ _) (by decide +kernel)
theorem bs_X10_pot_e_23 {P : Zt → Option Zv → Prop} (K : Int → Zl → List Zv → Zt → Prop) : sx_ K P [.aload 0, .tableswitch 0 10 5 #[], .tableswitch 0 1 1 #[], .ifCond .eq 56, .aload 0, .tableswitch 0 10 5 #[], .tableswitch 0 1 8 #[], .iload 1, .iaload, .iconst (-1), .if_icmp .ne 56, .aload 0, .tableswitch 0 10 5 #[], .tableswitch 0 1 4 #[], .ifCond .le 59, .iconst (-4), .ireturn] 59 = x_aload 0 (x_g1 110 101 (x_g0 101 1 0 4 (x_ifCond .eq 56 K (x_aload 0 (x_g1 110 101 (x_g1 101 428 (x_iload 1 (x_iaload (x_iconst (-1) (x_if_icmp .ne 56 K (x_aload 0 (x_g1 110 101 (x_g0 101 4 (-2147483648) 2147483647 (x_ifCond .le 59 K (x_iconst (-4) (x_ireturn P)))))))))))))))) := ((xe_aload 0).trans (congrArg (x_aload 0) ((xe_g1 (kk := 110) rfl tl_10_5).trans (congrArg (x_g1 110 101) ((xe_g0 (kk := 101) rfl tl_1_1).trans (congrArg (x_g0 101 1 0 4) ((xe_ifCond .eq 56).trans (congrArg (x_ifCond .eq 56 K) ((xe_aload 0).trans (congrArg (x_aload 0) ((xe_g1 (kk := 110) rfl tl_10_5).trans (congrArg (x_g1 110 101) ((xe_g1 (kk := 101) rfl tl_1_8).trans (congrArg (x_g1 101 428) ((xe_iload 1).trans (congrArg (x_iload 1) ((xe_iaload).trans (congrArg (x_iaload) ((xe_iconst (-1)).trans (congrArg (x_iconst (-1)) ((xe_if_icmp .ne 56).trans (congrArg (x_if_icmp .ne 56 K) ((xe_aload 0).trans (congrArg (x_aload 0) ((xe_g1 (kk := 110) rfl tl_10_5).trans (congrArg (x_g1 110 101) ((xe_g0 (kk := 101) rfl tl_1_4).trans (congrArg (x_g0 101 4 (-2147483648) 2147483647) ((xe_ifCond .le 59).trans (congrArg (x_ifCond .le 59 K) ((xe_iconst (-4)).trans (congrArg (x_iconst (-4)) (xe_ireturn)))))))))))))))))))))))))))))))))
theorem bk_X10_pot_e_56 : ck_ fX10 (some .int) cX10_pot 56 [.iconst (-4), .ireturn] 59 = true := qck_r (nn_ _) (by decide +kernel)
theorem bs_X10_pot_e_56 {P : Zt → Option Zv → Prop} (K : Int → Zl → List Zv → Zt → Prop) : sx_ K P [.iconst (-4), .ireturn] 59 = x_iconst (-4) (x_ireturn P) := ((xe_iconst (-4)).trans (congrArg (x_iconst (-4)) (xe_ireturn)))
theorem bk_X10_pot_e_59 : ck_ fX10 (some .int) cX10_pot 59 [.aload 0, .tableswitch 0 10 5 #[], .tableswitch 0 1 10 #[], .iload 2, .iaload, .aload 0, .tableswitch 0 10 5 #[], .tableswitch 0 1 1 #[], .if_icmp .lt 81, .iconst (-5), .ireturn] 81 = true := qck_r (nn_ _) (by decide +kernel)
theorem bs_X10_pot_e_59 {P : Zt → Option Zv → Prop} (K : Int → Zl → List Zv → Zt → Prop) : sx_ K P [.aload 0, .tableswitch 0 10 5 #[], .tableswitch 0 1 10 #[], .iload 2, .iaload, .aload 0, .tableswitch 0 10 5 #[], .tableswitch 0 1 1 #[], .if_icmp .lt 81, .iconst (-5), .ireturn] 81 = x_aload 0 (x_g1 110 101 (x_g1 101 430 (x_iload 2 (x_iaload (x_aload 0 (x_g1 110 101 (x_g0 101 1 0 4 (x_if_icmp .lt 81 K (x_iconst (-5) (x_ireturn P)))))))))) := ((xe_aload 0).trans (congrArg (x_aload 0) ((xe_g1 (kk := 110) rfl tl_10_5).trans (congrArg (x_g1 110 101) ((xe_g1 (kk := 101) rfl tl_1_10).trans (congrArg (x_g1 101 430) ((xe_iload 2).trans (congrArg (x_iload 2) ((xe_iaload).trans (congrArg (x_iaload) ((xe_aload 0).trans (congrArg (x_aload 0) ((xe_g1 (kk := 110) rfl tl_10_5).trans (congrArg (x_g1 110 101) ((xe_g0 (kk := 101) rfl tl_1_1).trans (congrArg (x_g0 101 1 0 4) ((xe_if_icmp .lt 81).trans (congrArg (x_if_icmp .lt 81 K) ((xe_iconst (-5)).trans (congrArg (x_iconst (-5)) (xe_ireturn)))))))))))))))))))))
theorem bk_X10_pot_e_81 : ck_ fX10 (some .int) cX10_pot 81 [.aload 0, .tableswitch 0 10 5 #[], .iload 1, .iload 2] 87 = true := qck_r (nn_ _) (by decide +kernel)
theorem bs_X10_pot_e_81 {P : Zt → Option Zv → Prop} (K : Int → Zl → List Zv → Zt → Prop) : sx_ K P [.aload 0, .tableswitch 0 10 5 #[], .iload 1, .iload 2] 87 = x_aload 0 (x_g1 110 101 (x_iload 1 (x_iload 2 (K 87)))) := ((xe_aload 0).trans (congrArg (x_aload 0) ((xe_g1 (kk := 110) rfl tl_10_5).trans (congrArg (x_g1 110 101) ((xe_iload 1).trans (congrArg (x_iload 1) ((xe_iload 2).trans (congrArg (x_iload 2) xe_nil))))))))
theorem bk_X10_pot_e_90 : ck_ fX10 (some .int) cX10_pot 90 [.aload 0, .tableswitch 0 10 5 #[], .tableswitch 0 1 10 #[], .iload 2, .iaload, .ireturn] 100 = true := qck_r (nn_ _) (by decide +kernel)
theorem bs_X10_pot_e_90 {P : Zt → Option Zv → Prop} (K : Int → Zl → List Zv → Zt → Prop) : sx_ K P [.aload 0, .tableswitch 0 10 5 #[], .tableswitch 0 1 10 #[], .iload 2, .iaload, .ireturn] 100 = x_aload 0 (x_g1 110 101 (x_g1 101 430 (x_iload 2 (x_iaload (x_ireturn P))))) := ((xe_aload 0).trans (congrArg (x_aload 0) ((xe_g1 (kk := 110) rfl tl_10_5).trans (congrArg (x_g1 110 101) ((xe_g1 (kk := 101) rfl tl_1_10).trans (congrArg (x_g1 101 430) ((xe_iload 2).trans (congrArg (x_iload 2) ((xe_iaload).trans (congrArg (x_iaload) (xe_ireturn)))))))))))
abbrev po_X10_pot_e (T : Zt) (c k : Int) : Zt → Option Zv → Prop := fun T' r => ∃ x : Int, r = some (vI x) ∧ fr_ [(428, []), (430, []), (101, [3, 7])] T T' ∧ (x = x ∧ PTH_ T T' c k x)
set_option maxHeartbeats 4000000 in
theorem ct_X10_pot_e {T : Zt} {c k : Int} (hlo : LOR_ T) : Ct_ yX10_pot zX10_pot T [vR 110 0, vI c, vI k] (po_X10_pot_e T c k) := by
  refine ct_of pn_10 rfl rfl (Nat.le_of_ble_eq_true rfl) (fun hT hav => ?_)
  have hr_c : -2147483648 ≤ c ∧ c ≤ 2147483647 := hav (vI c) (List.mem_cons_of_mem _ List.mem_cons_self)
  have hr_k : -2147483648 ≤ k ∧ k ≤ 2147483647 := hav (vI k) (List.mem_cons_of_mem _ (List.mem_cons_of_mem _ List.mem_cons_self))
  have hz : zX10_pot.2.2.2.1 = some .boolean → ∀ (T' : Zt) (x : Int), po_X10_pot_e T c k T' (some (vI x)) → 0 ≤ x ∧ x ≤ 1 := fun h => by cases h
  have hb_clubs : 0 ≤ T 108 0 2 ∧ T 108 0 2 ≤ 12 := bd_f hT 108 2 tl_8_2 0
  have hgr : 0 ≤ T 101 0 1 ∧ T 101 0 1 ≤ 4 := bd_f hT 101 1 tl_1_1 0
  show J_ zX10_pot T (po_X10_pot_e T c k) 0 0 0 [some (vR 110 0), some (vI c), some (vI k)] [] T
  refine j_blx (F := fX10) tb_X10 (nn_ _) bk_X10_pot_e_0 bs_X10_pot_e_0 hz (fun K hK => ?_)
  refine hK 2 _ [vI c, vR 110 0] T ?_
  refine j_callV (y := yX10_isClub) (Yc := zX10_isClub) (rest := []) [vI c] (ct_X10_isClub (T := T)) cl_X10_137 (qd_c (by decide +kernel)) (nn_ _) rfl (rf_of rfl) (Nat.le_of_ble_eq_true rfl) (Nat.le_of_ble_eq_true rfl) (Nat.le_of_ble_eq_true rfl) rfl ?_
  rintro _ _ ⟨rfl, x1, rfl, hx1⟩
  show J_ zX10_pot T (po_X10_pot_e T c k) 0 0 5 _ [vI x1] T
  refine j_blx (F := fX10) tb_X10 (nn_ _) bk_X10_pot_e_5 bs_X10_pot_e_5 hz (fun K hK => ?_)
  refine And.intro (fun c2 => ?_) (fun c2 => ?_)
  · replace hx1 := hx1.resolve_right (fun z => c2 z.1)
    clear c2
    refine hK 11 _ [] T ?_
    refine j_blx (F := fX10) tb_X10 (nn_ _) bk_X10_pot_e_11 bs_X10_pot_e_11 hz (fun K hK => ?_)
    refine And.intro (fun c3 => ?_) (fun c3 => ?_)
    · refine hK 20 _ [] T ?_
      refine j_blx (F := fX10) tb_X10 (nn_ _) bk_X10_pot_e_20 bs_X10_pot_e_20 hz (fun K hK => ?_)
      refine (show po_X10_pot_e T c k T (some (vI (-3))) from ?_)
      exact ⟨_, rfl, fr_0 _ _, rfl, Or.inl ⟨rfl, Or.inr (Or.inl ⟨by omega, rfl, by omega⟩)⟩⟩
    · refine And.intro (fun c4 => ?_) (fun c4 => ?_)
      · refine hK 23 _ [] T ?_
        refine j_blx (F := fX10) tb_X10 (nn_ _) bk_X10_pot_e_23 bs_X10_pot_e_23 hz (fun K hK => ?_)
        intro b5 b5b
        refine And.intro (fun c6 => ?_) (fun c6 => ?_)
        · refine hK 56 _ [] T ?_
          refine j_blx (F := fX10) tb_X10 (nn_ _) bk_X10_pot_e_56 bs_X10_pot_e_56 hz (fun K hK => ?_)
          refine (show po_X10_pot_e T c k T (some (vI (-4))) from ?_)
          exact ⟨_, rfl, fr_0 _ _, rfl, Or.inl ⟨rfl, Or.inr (Or.inr (Or.inl ⟨by omega, by omega, rfl, by omega⟩))⟩⟩
        · refine ix_i (by omega) ?_
          intro b7 b7b
          refine And.intro (fun c8 => ?_) (fun c8 => ?_)
          · refine hK 56 _ [] T ?_
            refine j_blx (F := fX10) tb_X10 (nn_ _) bk_X10_pot_e_56 bs_X10_pot_e_56 hz (fun K hK => ?_)
            refine (show po_X10_pot_e T c k T (some (vI (-4))) from ?_)
            exact ⟨_, rfl, fr_0 _ _, rfl, Or.inl ⟨rfl, Or.inr (Or.inr (Or.inl ⟨by omega, by omega, rfl, by omega⟩))⟩⟩
          · intro b9 b9b
            refine And.intro (fun c10 => ?_) (fun c10 => ?_)
            · refine hK 59 _ [] T ?_
              refine j_blx (F := fX10) tb_X10 (nn_ _) bk_X10_pot_e_59 bs_X10_pot_e_59 hz (fun K hK => ?_)
              refine ix_i (by omega) ?_
              intro b11 b11b
              intro b12 b12b
              refine And.intro (fun c13 => ?_) (fun c13 => ?_)
              · refine hK 81 _ [] T ?_
                have hlb := lhw_b ((hlo.2.2).resolve_left (by omega))
                refine j_blx (F := fX10) tb_X10 (nn_ _) bk_X10_pot_e_81 bs_X10_pot_e_81 hz (fun K hK => ?_)
                refine hK 87 _ [vI k, vI c, vR 101 0] T ?_
                refine j_callV (y := yX1_putIn) (Yc := zX1_putIn) (rest := []) [vI c, vI k] (ct_X1_putIn_e (T := T) (by omega) (by omega) (by omega) (by omega)) cl_X10_396 (qd_c (by decide +kernel)) (nn_ _) rfl (rf_of rfl) (Nat.le_of_ble_eq_true rfl) (Nat.le_of_ble_eq_true rfl) (Nat.le_of_ble_eq_true rfl) rfl ?_
                rintro U14 _ ⟨rfl, fU14, qU14⟩
                show J_ zX10_pot T (po_X10_pot_e T c k) 0 0 90 _ [] U14
                refine j_blx (F := fX10) tb_X10 (nn_ _) bk_X10_pot_e_90 bs_X10_pot_e_90 hz (fun K hK => ?_)
                refine ix_i (by omega) ?_
                intro b15 b15b
                refine (show po_X10_pot_e T c k U14 (some (vI (U14 430 0 k))) from ?_)
                have y9 := qU14.2.1.1
                exact ⟨_, rfl, fr_t (fr_0 _ _) (fr_s fU14 rfl), rfl, Or.inr ⟨by omega, by omega, by omega, by omega, by omega, qU14⟩⟩
              · refine (show po_X10_pot_e T c k T (some (vI (-5))) from ?_)
                exact ⟨_, rfl, fr_0 _ _, rfl, Or.inl ⟨rfl, Or.inr (Or.inr (Or.inr ⟨by omega, by omega, by omega, rfl, by omega⟩))⟩⟩
            · refine (show po_X10_pot_e T c k T (some (vI (-4))) from ?_)
              exact ⟨_, rfl, fr_0 _ _, rfl, Or.inl ⟨rfl, Or.inr (Or.inr (Or.inl ⟨by omega, by omega, rfl, by omega⟩))⟩⟩
      · refine (show po_X10_pot_e T c k T (some (vI (-3))) from ?_)
        exact ⟨_, rfl, fr_0 _ _, rfl, Or.inl ⟨rfl, Or.inr (Or.inl ⟨by omega, rfl, by omega⟩)⟩⟩
  · replace hx1 := hx1.resolve_left (fun z => absurd (c2.symm.trans z.1) (by decide))
    clear c2
    refine (show po_X10_pot_e T c k T (some (vI (-2))) from ?_)
    exact ⟨_, rfl, fr_0 _ _, rfl, Or.inl ⟨rfl, Or.inl ⟨rfl, by omega⟩⟩⟩
theorem bk_X1_waysWith_e_0 : ck_ fX1 (some .int) cX1_waysWith 0 [.aload 0, .tableswitch 0 1 9 #[], .iload 1, .iaload, .iconst (-1), .if_icmp .eq 29, .aload 0, .tableswitch 0 1 9 #[], .iload 1, .iaload, .iload 2, .if_icmp .ne 27, .aload 0, .tableswitch 0 1 6 #[], .goto 28] 27 = true := qck_r (nn_ _) (by decide +kernel)
theorem bs_X1_waysWith_e_0 {P : Zt → Option Zv → Prop} (K : Int → Zl → List Zv → Zt → Prop) : sx_ K P [.aload 0, .tableswitch 0 1 9 #[], .iload 1, .iaload, .iconst (-1), .if_icmp .eq 29, .aload 0, .tableswitch 0 1 9 #[], .iload 1, .iaload, .iload 2, .if_icmp .ne 27, .aload 0, .tableswitch 0 1 6 #[], .goto 28] 27 = x_aload 0 (x_g1 101 429 (x_iload 1 (x_iaload (x_iconst (-1) (x_if_icmp .eq 29 K (x_aload 0 (x_g1 101 429 (x_iload 1 (x_iaload (x_iload 2 (x_if_icmp .ne 27 K (x_aload 0 (x_g0 101 6 (-2147483648) 2147483647 (x_goto 28 K)))))))))))))) := ((xe_aload 0).trans (congrArg (x_aload 0) ((xe_g1 (kk := 101) rfl tl_1_9).trans (congrArg (x_g1 101 429) ((xe_iload 1).trans (congrArg (x_iload 1) ((xe_iaload).trans (congrArg (x_iaload) ((xe_iconst (-1)).trans (congrArg (x_iconst (-1)) ((xe_if_icmp .eq 29).trans (congrArg (x_if_icmp .eq 29 K) ((xe_aload 0).trans (congrArg (x_aload 0) ((xe_g1 (kk := 101) rfl tl_1_9).trans (congrArg (x_g1 101 429) ((xe_iload 1).trans (congrArg (x_iload 1) ((xe_iaload).trans (congrArg (x_iaload) ((xe_iload 2).trans (congrArg (x_iload 2) ((xe_if_icmp .ne 27).trans (congrArg (x_if_icmp .ne 27 K) ((xe_aload 0).trans (congrArg (x_aload 0) ((xe_g0 (kk := 101) rfl tl_1_6).trans (congrArg (x_g0 101 6 (-2147483648) 2147483647) (xe_goto 28)))))))))))))))))))))))))))))
theorem bk_X1_waysWith_e_29 : ck_ fX1 (some .int) cX1_waysWith 29 [.aload 0, .tableswitch 0 1 11 #[], .iload 1, .iconst 4, .imul, .iload 2, .iadd, .iaload, .ireturn] 40 = true := qck_r (nn_ _) (by decide +kernel)
theorem bs_X1_waysWith_e_29 {P : Zt → Option Zv → Prop} (K : Int → Zl → List Zv → Zt → Prop) : sx_ K P [.aload 0, .tableswitch 0 1 11 #[], .iload 1, .iconst 4, .imul, .iload 2, .iadd, .iaload, .ireturn] 40 = x_aload 0 (x_g1 101 431 (x_iload 1 (x_iconst 4 (x_imul (x_iload 2 (x_iadd (x_iaload (x_ireturn P)))))))) := ((xe_aload 0).trans (congrArg (x_aload 0) ((xe_g1 (kk := 101) rfl tl_1_11).trans (congrArg (x_g1 101 431) ((xe_iload 1).trans (congrArg (x_iload 1) ((xe_iconst 4).trans (congrArg (x_iconst 4) ((xe_imul).trans (congrArg (x_imul) ((xe_iload 2).trans (congrArg (x_iload 2) ((xe_iadd).trans (congrArg (x_iadd) ((xe_iaload).trans (congrArg (x_iaload) (xe_ireturn)))))))))))))))))
theorem bk_X1_waysWith_e_27 : ck_ fX1 (some .int) cX1_waysWith 27 [.iconst 0, .ireturn] 29 = true := qck_r (nn_ _) (by decide +kernel)
theorem bs_X1_waysWith_e_27 {P : Zt → Option Zv → Prop} (K : Int → Zl → List Zv → Zt → Prop) : sx_ K P [.iconst 0, .ireturn] 29 = x_iconst 0 (x_ireturn P) := ((xe_iconst 0).trans (congrArg (x_iconst 0) (xe_ireturn)))
theorem bk_X1_waysWith_e_28 : ck_ fX1 (some .int) cX1_waysWith 28 [.ireturn] 29 = true := qck_r (nn_ _) (by decide +kernel)
theorem bs_X1_waysWith_e_28 {P : Zt → Option Zv → Prop} (K : Int → Zl → List Zv → Zt → Prop) : sx_ K P [.ireturn] 29 = x_ireturn P := (xe_ireturn)
abbrev po_X1_waysWith_e (T : Zt) (c g : Int) : Zt → Option Zv → Prop := fun T' r => T = T' ∧ ∃ x : Int, r = some (vI x) ∧ (WW9_ T c g x)
set_option maxHeartbeats 4000000 in
theorem ct_X1_waysWith_e {T : Zt} {c g : Int} (h1 : 0 ≤ c ∧ c < 12) (h2 : 0 ≤ g ∧ g < 4) : Ct_ yX1_waysWith zX1_waysWith T [vR 101 0, vI c, vI g] (po_X1_waysWith_e T c g) := by
  refine ct_of pn_1 rfl rfl (Nat.le_of_ble_eq_true rfl) (fun hT hav => ?_)
  have hr_c : -2147483648 ≤ c ∧ c ≤ 2147483647 := hav (vI c) (List.mem_cons_of_mem _ List.mem_cons_self)
  have hr_g : -2147483648 ≤ g ∧ g ≤ 2147483647 := hav (vI g) (List.mem_cons_of_mem _ (List.mem_cons_of_mem _ List.mem_cons_self))
  have hz : zX1_waysWith.2.2.2.1 = some .boolean → ∀ (T' : Zt) (x : Int), po_X1_waysWith_e T c g T' (some (vI x)) → 0 ≤ x ∧ x ≤ 1 := fun h => by cases h
  show J_ zX1_waysWith T (po_X1_waysWith_e T c g) 0 0 0 [some (vR 101 0), some (vI c), some (vI g)] [] T
  refine j_blx (F := fX1) tb_X1 (nn_ _) bk_X1_waysWith_e_0 bs_X1_waysWith_e_0 hz (fun K hK => ?_)
  refine ix_i (by omega) ?_
  intro b1 b1b
  refine And.intro (fun c2 => ?_) (fun c2 => ?_)
  · refine hK 29 _ [] T ?_
    refine j_blx (F := fX1) tb_X1 (nn_ _) bk_X1_waysWith_e_29 bs_X1_waysWith_e_29 hz (fun K hK => ?_)
    refine rg_i (by omega) ?_
    refine rg_i (by omega) ?_
    refine ix_i (by omega) ?_
    intro b3 b3b
    refine (show po_X1_waysWith_e T c g T (some (vI (T 431 0 ((c * 4) + g)))) from ?_)
    exact ⟨rfl, _, rfl, Or.inr ⟨by omega, rfl⟩⟩
  · refine ix_i (by omega) ?_
    intro b4 b4b
    refine And.intro (fun c5 => ?_) (fun c5 => ?_)
    · refine hK 27 _ [] T ?_
      refine j_blx (F := fX1) tb_X1 (nn_ _) bk_X1_waysWith_e_27 bs_X1_waysWith_e_27 hz (fun K hK => ?_)
      refine (show po_X1_waysWith_e T c g T (some (vI 0)) from ?_)
      exact ⟨rfl, _, rfl, Or.inl ⟨by omega, Or.inr ⟨by omega, rfl⟩⟩⟩
    · intro b6 b6b
      refine hK 28 _ [vI (T 101 0 6)] T ?_
      refine j_blx (F := fX1) tb_X1 (nn_ _) bk_X1_waysWith_e_28 bs_X1_waysWith_e_28 hz (fun K hK => ?_)
      refine (show po_X1_waysWith_e T c g T (some (vI (T 101 0 6))) from ?_)
      exact ⟨rfl, _, rfl, Or.inl ⟨by omega, Or.inl ⟨by omega, rfl⟩⟩⟩
theorem bk_X10_ways_e_0 : ck_ fX10 (some .int) cX10_ways 0 [.aload 0, .tableswitch 0 10 5 #[], .tableswitch 0 1 1 #[], .ifCond .ne 13, .iconst (-4), .ireturn] 13 = true := qck_r (nn_ _) (by decide +kernel)
theorem bs_X10_ways_e_0 {P : Zt → Option Zv → Prop} (K : Int → Zl → List Zv → Zt → Prop) : sx_ K P [.aload 0, .tableswitch 0 10 5 #[], .tableswitch 0 1 1 #[], .ifCond .ne 13, .iconst (-4), .ireturn] 13 = x_aload 0 (x_g1 110 101 (x_g0 101 1 0 4 (x_ifCond .ne 13 K (x_iconst (-4) (x_ireturn P))))) := ((xe_aload 0).trans (congrArg (x_aload 0) ((xe_g1 (kk := 110) rfl tl_10_5).trans (congrArg (x_g1 110 101) ((xe_g0 (kk := 101) rfl tl_1_1).trans (congrArg (x_g0 101 1 0 4) ((xe_ifCond .ne 13).trans (congrArg (x_ifCond .ne 13 K) ((xe_iconst (-4)).trans (congrArg (x_iconst (-4)) (xe_ireturn)))))))))))
theorem bk_X10_ways_e_13 : ck_ fX10 (some .int) cX10_ways 13 [.aload 0, .tableswitch 0 10 5 #[]] 17 = true := qck_r (nn_ _) (by decide +kernel)
theorem bs_X10_ways_e_13 {P : Zt → Option Zv → Prop} (K : Int → Zl → List Zv → Zt → Prop) : sx_ K P [.aload 0, .tableswitch 0 10 5 #[]] 17 = x_aload 0 (x_g1 110 101 (K 17)) := ((xe_aload 0).trans (congrArg (x_aload 0) ((xe_g1 (kk := 110) rfl tl_10_5).trans (congrArg (x_g1 110 101) xe_nil))))
theorem bk_X10_ways_e_20 : ck_ fX10 (some .int) cX10_ways 20 [.aload 0, .tableswitch 0 10 5 #[], .tableswitch 0 1 6 #[], .ireturn] 28 = true := qck_r (nn_ _) (by decide +kernel)
theorem bs_X10_ways_e_20 {P : Zt → Option Zv → Prop} (K : Int → Zl → List Zv → Zt → Prop) : sx_ K P [.aload 0, .tableswitch 0 10 5 #[], .tableswitch 0 1 6 #[], .ireturn] 28 = x_aload 0 (x_g1 110 101 (x_g0 101 6 (-2147483648) 2147483647 (x_ireturn P))) := ((xe_aload 0).trans (congrArg (x_aload 0) ((xe_g1 (kk := 110) rfl tl_10_5).trans (congrArg (x_g1 110 101) ((xe_g0 (kk := 101) rfl tl_1_6).trans (congrArg (x_g0 101 6 (-2147483648) 2147483647) (xe_ireturn)))))))
abbrev po_X10_ways_e (T : Zt) : Zt → Option Zv → Prop := fun T' r => ∃ x : Int, r = some (vI x) ∧ fr_ [(101, [13, 6, 7]), (434, []), (435, []), (431, []), (432, [])] T T' ∧ (x = x ∧ WYH_ T T' x)
set_option maxHeartbeats 4000000 in
theorem ct_X10_ways_e {T : Zt} : Ct_ yX10_ways zX10_ways T [vR 110 0] (po_X10_ways_e T) := by
  refine ct_of pn_10 rfl rfl (Nat.le_of_ble_eq_true rfl) (fun hT hav => ?_)
  have hz : zX10_ways.2.2.2.1 = some .boolean → ∀ (T' : Zt) (x : Int), po_X10_ways_e T T' (some (vI x)) → 0 ≤ x ∧ x ≤ 1 := fun h => by cases h
  show J_ zX10_ways T (po_X10_ways_e T) 0 0 0 [some (vR 110 0)] [] T
  refine j_blx (F := fX10) tb_X10 (nn_ _) bk_X10_ways_e_0 bs_X10_ways_e_0 hz (fun K hK => ?_)
  intro b1 b1b
  refine And.intro (fun c2 => ?_) (fun c2 => ?_)
  · refine hK 13 _ [] T ?_
    refine j_blx (F := fX10) tb_X10 (nn_ _) bk_X10_ways_e_13 bs_X10_ways_e_13 hz (fun K hK => ?_)
    refine hK 17 _ [vR 101 0] T ?_
    refine j_callV (y := yX1_refresh) (Yc := zX1_refresh) (rest := []) [] (ct_X1_refresh_e (T := T)) cl_X10_399 (qd_c (by decide +kernel)) (nn_ _) rfl (rf_of rfl) (Nat.le_of_ble_eq_true rfl) (Nat.le_of_ble_eq_true rfl) (Nat.le_of_ble_eq_true rfl) rfl ?_
    rintro U3 _ ⟨rfl, fU3, qU3⟩
    show J_ zX10_ways T (po_X10_ways_e T) 0 0 20 _ [] U3
    refine j_blx (F := fX10) tb_X10 (nn_ _) bk_X10_ways_e_20 bs_X10_ways_e_20 hz (fun K hK => ?_)
    intro b4 b4b
    refine (show po_X10_ways_e T U3 (some (vI (U3 101 0 6))) from ?_)
    exact ⟨_, rfl, fr_t (fr_0 _ _) (fr_s fU3 rfl), rfl, Or.inr ⟨by omega, qU3, rfl⟩⟩
  · refine (show po_X10_ways_e T T (some (vI (-4))) from ?_)
    exact ⟨_, rfl, fr_0 _ _, rfl, Or.inl ⟨rfl, by omega, rfl⟩⟩
theorem bk_X10_chance_e_0 : ck_ fX10 (some .int) cX10_chance 0 [.aload 0, .iload 1] 2 = true := qck_r (nn_ _) (by decide +kernel)
theorem bs_X10_chance_e_0 {P : Zt → Option Zv → Prop} (K : Int → Zl → List Zv → Zt → Prop) : sx_ K P [.aload 0, .iload 1] 2 = x_aload 0 (x_iload 1 (K 2)) := ((xe_aload 0).trans (congrArg (x_aload 0) ((xe_iload 1).trans (congrArg (x_iload 1) xe_nil))))
theorem bk_X10_chance_e_5 : ck_ fX10 (some .int) cX10_chance 5 [.ifCond .eq 31, .aload 0, .tableswitch 0 10 5 #[], .tableswitch 0 1 1 #[], .ifCond .eq 31, .aload 0, .tableswitch 0 10 5 #[], .tableswitch 0 1 8 #[], .iload 1, .iaload, .iconst (-1), .if_icmp .ne 34, .iconst (-2), .ireturn] 34 = true := qck_r (nn_ _) (by decide +kernel)
theorem bs_X10_chance_e_5 {P : Zt → Option Zv → Prop} (K : Int → Zl → List Zv → Zt → Prop) : sx_ K P [.ifCond .eq 31, .aload 0, .tableswitch 0 10 5 #[], .tableswitch 0 1 1 #[], .ifCond .eq 31, .aload 0, .tableswitch 0 10 5 #[], .tableswitch 0 1 8 #[], .iload 1, .iaload, .iconst (-1), .if_icmp .ne 34, .iconst (-2), .ireturn] 34 = x_ifCond .eq 31 K (x_aload 0 (x_g1 110 101 (x_g0 101 1 0 4 (x_ifCond .eq 31 K (x_aload 0 (x_g1 110 101 (x_g1 101 428 (x_iload 1 (x_iaload (x_iconst (-1) (x_if_icmp .ne 34 K (x_iconst (-2) (x_ireturn P))))))))))))) := ((xe_ifCond .eq 31).trans (congrArg (x_ifCond .eq 31 K) ((xe_aload 0).trans (congrArg (x_aload 0) ((xe_g1 (kk := 110) rfl tl_10_5).trans (congrArg (x_g1 110 101) ((xe_g0 (kk := 101) rfl tl_1_1).trans (congrArg (x_g0 101 1 0 4) ((xe_ifCond .eq 31).trans (congrArg (x_ifCond .eq 31 K) ((xe_aload 0).trans (congrArg (x_aload 0) ((xe_g1 (kk := 110) rfl tl_10_5).trans (congrArg (x_g1 110 101) ((xe_g1 (kk := 101) rfl tl_1_8).trans (congrArg (x_g1 101 428) ((xe_iload 1).trans (congrArg (x_iload 1) ((xe_iaload).trans (congrArg (x_iaload) ((xe_iconst (-1)).trans (congrArg (x_iconst (-1)) ((xe_if_icmp .ne 34).trans (congrArg (x_if_icmp .ne 34 K) ((xe_iconst (-2)).trans (congrArg (x_iconst (-2)) (xe_ireturn)))))))))))))))))))))))))))
theorem bk_X10_chance_e_31 : ck_ fX10 (some .int) cX10_chance 31 [.iconst (-2), .ireturn] 34 = true := qck_r (nn_ _) (by decide +kernel)
theorem bs_X10_chance_e_31 {P : Zt → Option Zv → Prop} (K : Int → Zl → List Zv → Zt → Prop) : sx_ K P [.iconst (-2), .ireturn] 34 = x_iconst (-2) (x_ireturn P) := ((xe_iconst (-2)).trans (congrArg (x_iconst (-2)) (xe_ireturn)))
theorem bk_X10_chance_e_34 : ck_ fX10 (some .int) cX10_chance 34 [.iload 2, .aload 0, .tableswitch 0 10 5 #[], .tableswitch 0 1 1 #[]] 42 = true := qck_r (nn_ _) (by decide +kernel)
theorem bs_X10_chance_e_34 {P : Zt → Option Zv → Prop} (K : Int → Zl → List Zv → Zt → Prop) : sx_ K P [.iload 2, .aload 0, .tableswitch 0 10 5 #[], .tableswitch 0 1 1 #[]] 42 = x_iload 2 (x_aload 0 (x_g1 110 101 (x_g0 101 1 0 4 (K 42)))) := ((xe_iload 2).trans (congrArg (x_iload 2) ((xe_aload 0).trans (congrArg (x_aload 0) ((xe_g1 (kk := 110) rfl tl_10_5).trans (congrArg (x_g1 110 101) ((xe_g0 (kk := 101) rfl tl_1_1).trans (congrArg (x_g0 101 1 0 4) xe_nil))))))))
theorem bk_X10_chance_e_45 : ck_ fX10 (some .int) cX10_chance 45 [.ifCond .ne 51, .iconst (-3), .ireturn] 51 = true := qck_r (nn_ _) (by decide +kernel)
theorem bs_X10_chance_e_45 {P : Zt → Option Zv → Prop} (K : Int → Zl → List Zv → Zt → Prop) : sx_ K P [.ifCond .ne 51, .iconst (-3), .ireturn] 51 = x_ifCond .ne 51 K (x_iconst (-3) (x_ireturn P)) := ((xe_ifCond .ne 51).trans (congrArg (x_ifCond .ne 51 K) ((xe_iconst (-3)).trans (congrArg (x_iconst (-3)) (xe_ireturn)))))
theorem bk_X10_chance_e_51 : ck_ fX10 (some .int) cX10_chance 51 [.aload 0, .tableswitch 0 10 5 #[]] 55 = true := qck_r (nn_ _) (by decide +kernel)
theorem bs_X10_chance_e_51 {P : Zt → Option Zv → Prop} (K : Int → Zl → List Zv → Zt → Prop) : sx_ K P [.aload 0, .tableswitch 0 10 5 #[]] 55 = x_aload 0 (x_g1 110 101 (K 55)) := ((xe_aload 0).trans (congrArg (x_aload 0) ((xe_g1 (kk := 110) rfl tl_10_5).trans (congrArg (x_g1 110 101) xe_nil))))
theorem bk_X10_chance_e_58 : ck_ fX10 (some .int) cX10_chance 58 [.aload 0, .tableswitch 0 10 5 #[], .iload 1, .iload 2] 64 = true := qck_r (nn_ _) (by decide +kernel)
theorem bs_X10_chance_e_58 {P : Zt → Option Zv → Prop} (K : Int → Zl → List Zv → Zt → Prop) : sx_ K P [.aload 0, .tableswitch 0 10 5 #[], .iload 1, .iload 2] 64 = x_aload 0 (x_g1 110 101 (x_iload 1 (x_iload 2 (K 64)))) := ((xe_aload 0).trans (congrArg (x_aload 0) ((xe_g1 (kk := 110) rfl tl_10_5).trans (congrArg (x_g1 110 101) ((xe_iload 1).trans (congrArg (x_iload 1) ((xe_iload 2).trans (congrArg (x_iload 2) xe_nil))))))))
theorem bk_X10_chance_e_67 : ck_ fX10 (some .int) cX10_chance 67 [.ireturn] 68 = true := qck_r (nn_ _) (by decide +kernel)
theorem bs_X10_chance_e_67 {P : Zt → Option Zv → Prop} (K : Int → Zl → List Zv → Zt → Prop) : sx_ K P [.ireturn] 68 = x_ireturn P := (xe_ireturn)
abbrev po_X10_chance_e (T : Zt) (c g : Int) : Zt → Option Zv → Prop := fun T' r => ∃ x : Int, r = some (vI x) ∧ fr_ [(101, [13, 6, 7]), (434, []), (435, []), (431, []), (432, [])] T T' ∧ (x = x ∧ CHH_ T T' c g x)
set_option maxHeartbeats 4000000 in
theorem ct_X10_chance_e {T : Zt} {c g : Int} : Ct_ yX10_chance zX10_chance T [vR 110 0, vI c, vI g] (po_X10_chance_e T c g) := by
  refine ct_of pn_10 rfl rfl (Nat.le_of_ble_eq_true rfl) (fun hT hav => ?_)
  have hr_c : -2147483648 ≤ c ∧ c ≤ 2147483647 := hav (vI c) (List.mem_cons_of_mem _ List.mem_cons_self)
  have hr_g : -2147483648 ≤ g ∧ g ≤ 2147483647 := hav (vI g) (List.mem_cons_of_mem _ (List.mem_cons_of_mem _ List.mem_cons_self))
  have hz : zX10_chance.2.2.2.1 = some .boolean → ∀ (T' : Zt) (x : Int), po_X10_chance_e T c g T' (some (vI x)) → 0 ≤ x ∧ x ≤ 1 := fun h => by cases h
  have hb_clubs : 0 ≤ T 108 0 2 ∧ T 108 0 2 ≤ 12 := bd_f hT 108 2 tl_8_2 0
  have hgr : 0 ≤ T 101 0 1 ∧ T 101 0 1 ≤ 4 := bd_f hT 101 1 tl_1_1 0
  show J_ zX10_chance T (po_X10_chance_e T c g) 0 0 0 [some (vR 110 0), some (vI c), some (vI g)] [] T
  refine j_blx (F := fX10) tb_X10 (nn_ _) bk_X10_chance_e_0 bs_X10_chance_e_0 hz (fun K hK => ?_)
  refine hK 2 _ [vI c, vR 110 0] T ?_
  refine j_callV (y := yX10_isClub) (Yc := zX10_isClub) (rest := []) [vI c] (ct_X10_isClub (T := T)) cl_X10_137 (qd_c (by decide +kernel)) (nn_ _) rfl (rf_of rfl) (Nat.le_of_ble_eq_true rfl) (Nat.le_of_ble_eq_true rfl) (Nat.le_of_ble_eq_true rfl) rfl ?_
  rintro _ _ ⟨rfl, x1, rfl, hx1⟩
  show J_ zX10_chance T (po_X10_chance_e T c g) 0 0 5 _ [vI x1] T
  refine j_blx (F := fX10) tb_X10 (nn_ _) bk_X10_chance_e_5 bs_X10_chance_e_5 hz (fun K hK => ?_)
  refine And.intro (fun c2 => ?_) (fun c2 => ?_)
  · replace hx1 := hx1.resolve_left (fun z => absurd (c2.symm.trans z.1) (by decide))
    clear c2
    refine hK 31 _ [] T ?_
    refine j_blx (F := fX10) tb_X10 (nn_ _) bk_X10_chance_e_31 bs_X10_chance_e_31 hz (fun K hK => ?_)
    refine (show po_X10_chance_e T c g T (some (vI (-2))) from ?_)
    exact ⟨_, rfl, fr_0 _ _, rfl, Or.inl ⟨rfl, Or.inl ⟨rfl, by omega⟩⟩⟩
  · replace hx1 := hx1.resolve_right (fun z => c2 z.1)
    clear c2
    intro b3 b3b
    refine And.intro (fun c4 => ?_) (fun c4 => ?_)
    · refine hK 31 _ [] T ?_
      refine j_blx (F := fX10) tb_X10 (nn_ _) bk_X10_chance_e_31 bs_X10_chance_e_31 hz (fun K hK => ?_)
      refine (show po_X10_chance_e T c g T (some (vI (-2))) from ?_)
      exact ⟨_, rfl, fr_0 _ _, rfl, Or.inl ⟨rfl, Or.inl ⟨rfl, by omega⟩⟩⟩
    · refine ix_i (by omega) ?_
      intro b5 b5b
      refine And.intro (fun c6 => ?_) (fun c6 => ?_)
      · refine hK 34 _ [] T ?_
        refine j_blx (F := fX10) tb_X10 (nn_ _) bk_X10_chance_e_34 bs_X10_chance_e_34 hz (fun K hK => ?_)
        intro b7 b7b
        refine hK 42 _ [vI (T 101 0 1), vI g] T ?_
        refine j_callS (y := yX10_isBelow) (Yc := zX10_isBelow) (rest := []) [vI g, vI (T 101 0 1)] (ct_X10_isBelow (T := T)) cl_X10_115 (qd_c (by decide +kernel)) (nn_ _) rfl (rf_of rfl) (Nat.le_of_ble_eq_true rfl) (Nat.le_of_ble_eq_true rfl) (Nat.le_of_ble_eq_true rfl) rfl ?_
        rintro _ _ ⟨rfl, x8, rfl, hx8⟩
        show J_ zX10_chance T (po_X10_chance_e T c g) 0 0 45 _ [vI x8] T
        refine j_blx (F := fX10) tb_X10 (nn_ _) bk_X10_chance_e_45 bs_X10_chance_e_45 hz (fun K hK => ?_)
        refine And.intro (fun c9 => ?_) (fun c9 => ?_)
        · replace hx8 := hx8.resolve_right (fun z => c9 z.1)
          clear c9
          refine hK 51 _ [] T ?_
          refine j_blx (F := fX10) tb_X10 (nn_ _) bk_X10_chance_e_51 bs_X10_chance_e_51 hz (fun K hK => ?_)
          refine hK 55 _ [vR 101 0] T ?_
          refine j_callV (y := yX1_refresh) (Yc := zX1_refresh) (rest := []) [] (ct_X1_refresh_e (T := T)) cl_X10_399 (qd_c (by decide +kernel)) (nn_ _) rfl (rf_of rfl) (Nat.le_of_ble_eq_true rfl) (Nat.le_of_ble_eq_true rfl) (Nat.le_of_ble_eq_true rfl) rfl ?_
          rintro U10 _ ⟨rfl, fU10, qU10⟩
          show J_ zX10_chance T (po_X10_chance_e T c g) 0 0 58 _ [] U10
          refine j_blx (F := fX10) tb_X10 (nn_ _) bk_X10_chance_e_58 bs_X10_chance_e_58 hz (fun K hK => ?_)
          refine hK 64 _ [vI g, vI c, vR 101 0] U10 ?_
          refine j_callV (y := yX1_waysWith) (Yc := zX1_waysWith) (rest := []) [vI c, vI g] (ct_X1_waysWith_e (T := U10) (by omega) (by omega)) cl_X10_405 (qd_c (by decide +kernel)) (nn_ _) rfl (rf_of rfl) (Nat.le_of_ble_eq_true rfl) (Nat.le_of_ble_eq_true rfl) (Nat.le_of_ble_eq_true rfl) rfl ?_
          rintro _ _ ⟨rfl, x11, rfl, hx11⟩
          show J_ zX10_chance T (po_X10_chance_e T c g) 0 0 67 _ [vI x11] U10
          refine j_blx (F := fX10) tb_X10 (nn_ _) bk_X10_chance_e_67 bs_X10_chance_e_67 hz (fun K hK => ?_)
          refine (show po_X10_chance_e T c g U10 (some (vI x11)) from ?_)
          exact ⟨_, rfl, fr_t (fr_0 _ _) (fr_s fU10 rfl), rfl, Or.inr ⟨by omega, by omega, qU10, hx11⟩⟩
        · replace hx8 := hx8.resolve_left (fun z => absurd (c9.symm.trans z.1) (by decide))
          clear c9
          refine (show po_X10_chance_e T c g T (some (vI (-3))) from ?_)
          exact ⟨_, rfl, fr_0 _ _, rfl, Or.inl ⟨rfl, Or.inr ⟨by omega, rfl, by omega⟩⟩⟩
      · refine (show po_X10_chance_e T c g T (some (vI (-2))) from ?_)
        exact ⟨_, rfl, fr_0 _ _, rfl, Or.inl ⟨rfl, Or.inl ⟨rfl, by omega⟩⟩⟩
theorem bk_X10_drawn_e_0 : ck_ fX10 (some .int) cX10_drawn 0 [.aload 0, .iload 1] 2 = true := qck_r (nn_ _) (by decide +kernel)
theorem bs_X10_drawn_e_0 {P : Zt → Option Zv → Prop} (K : Int → Zl → List Zv → Zt → Prop) : sx_ K P [.aload 0, .iload 1] 2 = x_aload 0 (x_iload 1 (K 2)) := ((xe_aload 0).trans (congrArg (x_aload 0) ((xe_iload 1).trans (congrArg (x_iload 1) xe_nil))))
theorem bk_X10_drawn_e_5 : ck_ fX10 (some .int) cX10_drawn 5 [.ifCond .ne 11, .iconst (-2), .ireturn] 11 = true := qck_r (nn_ _) (by decide +kernel)
theorem bs_X10_drawn_e_5 {P : Zt → Option Zv → Prop} (K : Int → Zl → List Zv → Zt → Prop) : sx_ K P [.ifCond .ne 11, .iconst (-2), .ireturn] 11 = x_ifCond .ne 11 K (x_iconst (-2) (x_ireturn P)) := ((xe_ifCond .ne 11).trans (congrArg (x_ifCond .ne 11 K) ((xe_iconst (-2)).trans (congrArg (x_iconst (-2)) (xe_ireturn)))))
theorem bk_X10_drawn_e_11 : ck_ fX10 (some .int) cX10_drawn 11 [.aload 0, .tableswitch 0 10 5 #[], .tableswitch 0 1 1 #[], .ifCond .ne 25, .iconst (-1), .goto 34] 25 = true := qck_r (nn_ _) (by decide +kernel)
theorem bs_X10_drawn_e_11 {P : Zt → Option Zv → Prop} (K : Int → Zl → List Zv → Zt → Prop) : sx_ K P [.aload 0, .tableswitch 0 10 5 #[], .tableswitch 0 1 1 #[], .ifCond .ne 25, .iconst (-1), .goto 34] 25 = x_aload 0 (x_g1 110 101 (x_g0 101 1 0 4 (x_ifCond .ne 25 K (x_iconst (-1) (x_goto 34 K))))) := ((xe_aload 0).trans (congrArg (x_aload 0) ((xe_g1 (kk := 110) rfl tl_10_5).trans (congrArg (x_g1 110 101) ((xe_g0 (kk := 101) rfl tl_1_1).trans (congrArg (x_g0 101 1 0 4) ((xe_ifCond .ne 25).trans (congrArg (x_ifCond .ne 25 K) ((xe_iconst (-1)).trans (congrArg (x_iconst (-1)) (xe_goto 34)))))))))))
theorem bk_X10_drawn_e_25 : ck_ fX10 (some .int) cX10_drawn 25 [.aload 0, .tableswitch 0 10 5 #[], .tableswitch 0 1 9 #[], .iload 1, .iaload, .ireturn] 35 = true := qck_r (nn_ _) (by decide +kernel)
theorem bs_X10_drawn_e_25 {P : Zt → Option Zv → Prop} (K : Int → Zl → List Zv → Zt → Prop) : sx_ K P [.aload 0, .tableswitch 0 10 5 #[], .tableswitch 0 1 9 #[], .iload 1, .iaload, .ireturn] 35 = x_aload 0 (x_g1 110 101 (x_g1 101 429 (x_iload 1 (x_iaload (x_ireturn P))))) := ((xe_aload 0).trans (congrArg (x_aload 0) ((xe_g1 (kk := 110) rfl tl_10_5).trans (congrArg (x_g1 110 101) ((xe_g1 (kk := 101) rfl tl_1_9).trans (congrArg (x_g1 101 429) ((xe_iload 1).trans (congrArg (x_iload 1) ((xe_iaload).trans (congrArg (x_iaload) (xe_ireturn)))))))))))
theorem bk_X10_drawn_e_34 : ck_ fX10 (some .int) cX10_drawn 34 [.ireturn] 35 = true := qck_r (nn_ _) (by decide +kernel)
theorem bs_X10_drawn_e_34 {P : Zt → Option Zv → Prop} (K : Int → Zl → List Zv → Zt → Prop) : sx_ K P [.ireturn] 35 = x_ireturn P := (xe_ireturn)
abbrev po_X10_drawn_e (T : Zt) (c : Int) : Zt → Option Zv → Prop := fun T' r => T = T' ∧ ∃ x : Int, r = some (vI x) ∧ (DWH_ T c x)
set_option maxHeartbeats 4000000 in
theorem ct_X10_drawn_e {T : Zt} {c : Int} : Ct_ yX10_drawn zX10_drawn T [vR 110 0, vI c] (po_X10_drawn_e T c) := by
  refine ct_of pn_10 rfl rfl (Nat.le_of_ble_eq_true rfl) (fun hT hav => ?_)
  have hr_c : -2147483648 ≤ c ∧ c ≤ 2147483647 := hav (vI c) (List.mem_cons_of_mem _ List.mem_cons_self)
  have hz : zX10_drawn.2.2.2.1 = some .boolean → ∀ (T' : Zt) (x : Int), po_X10_drawn_e T c T' (some (vI x)) → 0 ≤ x ∧ x ≤ 1 := fun h => by cases h
  have hb_clubs : 0 ≤ T 108 0 2 ∧ T 108 0 2 ≤ 12 := bd_f hT 108 2 tl_8_2 0
  show J_ zX10_drawn T (po_X10_drawn_e T c) 0 0 0 [some (vR 110 0), some (vI c)] [] T
  refine j_blx (F := fX10) tb_X10 (nn_ _) bk_X10_drawn_e_0 bs_X10_drawn_e_0 hz (fun K hK => ?_)
  refine hK 2 _ [vI c, vR 110 0] T ?_
  refine j_callV (y := yX10_isClub) (Yc := zX10_isClub) (rest := []) [vI c] (ct_X10_isClub (T := T)) cl_X10_137 (qd_c (by decide +kernel)) (nn_ _) rfl (rf_of rfl) (Nat.le_of_ble_eq_true rfl) (Nat.le_of_ble_eq_true rfl) (Nat.le_of_ble_eq_true rfl) rfl ?_
  rintro _ _ ⟨rfl, x1, rfl, hx1⟩
  show J_ zX10_drawn T (po_X10_drawn_e T c) 0 0 5 _ [vI x1] T
  refine j_blx (F := fX10) tb_X10 (nn_ _) bk_X10_drawn_e_5 bs_X10_drawn_e_5 hz (fun K hK => ?_)
  refine And.intro (fun c2 => ?_) (fun c2 => ?_)
  · replace hx1 := hx1.resolve_right (fun z => c2 z.1)
    clear c2
    refine hK 11 _ [] T ?_
    refine j_blx (F := fX10) tb_X10 (nn_ _) bk_X10_drawn_e_11 bs_X10_drawn_e_11 hz (fun K hK => ?_)
    intro b3 b3b
    refine And.intro (fun c4 => ?_) (fun c4 => ?_)
    · refine hK 25 _ [] T ?_
      refine j_blx (F := fX10) tb_X10 (nn_ _) bk_X10_drawn_e_25 bs_X10_drawn_e_25 hz (fun K hK => ?_)
      refine ix_i (by omega) ?_
      intro b5 b5b
      refine (show po_X10_drawn_e T c T (some (vI (T 429 0 c))) from ?_)
      exact ⟨rfl, _, rfl, Or.inr ⟨by omega, Or.inr ⟨by omega, rfl⟩⟩⟩
    · refine hK 34 _ [vI (-1)] T ?_
      refine j_blx (F := fX10) tb_X10 (nn_ _) bk_X10_drawn_e_34 bs_X10_drawn_e_34 hz (fun K hK => ?_)
      refine (show po_X10_drawn_e T c T (some (vI (-1))) from ?_)
      exact ⟨rfl, _, rfl, Or.inr ⟨by omega, Or.inl ⟨by omega, rfl⟩⟩⟩
  · replace hx1 := hx1.resolve_left (fun z => absurd (c2.symm.trans z.1) (by decide))
    clear c2
    refine (show po_X10_drawn_e T c T (some (vI (-2))) from ?_)
    exact ⟨rfl, _, rfl, Or.inl ⟨rfl, by omega⟩⟩
theorem bk_X10_ball_e_0 : ck_ fX10 (some .int) cX10_ball 0 [.aload 0, .tableswitch 0 10 5 #[], .tableswitch 0 1 1 #[], .ifCond .eq 27, .aload 0, .tableswitch 0 10 5 #[], .tableswitch 0 1 4 #[], .aload 0, .tableswitch 0 10 5 #[], .tableswitch 0 1 3 #[], .if_icmp .lt 30, .iconst (-4), .ireturn] 30 = true := qck_r (nn_ _) (by decide +kernel)
theorem bs_X10_ball_e_0 {P : Zt → Option Zv → Prop} (K : Int → Zl → List Zv → Zt → Prop) : sx_ K P [.aload 0, .tableswitch 0 10 5 #[], .tableswitch 0 1 1 #[], .ifCond .eq 27, .aload 0, .tableswitch 0 10 5 #[], .tableswitch 0 1 4 #[], .aload 0, .tableswitch 0 10 5 #[], .tableswitch 0 1 3 #[], .if_icmp .lt 30, .iconst (-4), .ireturn] 30 = x_aload 0 (x_g1 110 101 (x_g0 101 1 0 4 (x_ifCond .eq 27 K (x_aload 0 (x_g1 110 101 (x_g0 101 4 (-2147483648) 2147483647 (x_aload 0 (x_g1 110 101 (x_g0 101 3 (-2147483648) 2147483647 (x_if_icmp .lt 30 K (x_iconst (-4) (x_ireturn P)))))))))))) := ((xe_aload 0).trans (congrArg (x_aload 0) ((xe_g1 (kk := 110) rfl tl_10_5).trans (congrArg (x_g1 110 101) ((xe_g0 (kk := 101) rfl tl_1_1).trans (congrArg (x_g0 101 1 0 4) ((xe_ifCond .eq 27).trans (congrArg (x_ifCond .eq 27 K) ((xe_aload 0).trans (congrArg (x_aload 0) ((xe_g1 (kk := 110) rfl tl_10_5).trans (congrArg (x_g1 110 101) ((xe_g0 (kk := 101) rfl tl_1_4).trans (congrArg (x_g0 101 4 (-2147483648) 2147483647) ((xe_aload 0).trans (congrArg (x_aload 0) ((xe_g1 (kk := 110) rfl tl_10_5).trans (congrArg (x_g1 110 101) ((xe_g0 (kk := 101) rfl tl_1_3).trans (congrArg (x_g0 101 3 (-2147483648) 2147483647) ((xe_if_icmp .lt 30).trans (congrArg (x_if_icmp .lt 30 K) ((xe_iconst (-4)).trans (congrArg (x_iconst (-4)) (xe_ireturn)))))))))))))))))))))))))
theorem bk_X10_ball_e_27 : ck_ fX10 (some .int) cX10_ball 27 [.iconst (-4), .ireturn] 30 = true := qck_r (nn_ _) (by decide +kernel)
theorem bs_X10_ball_e_27 {P : Zt → Option Zv → Prop} (K : Int → Zl → List Zv → Zt → Prop) : sx_ K P [.iconst (-4), .ireturn] 30 = x_iconst (-4) (x_ireturn P) := ((xe_iconst (-4)).trans (congrArg (x_iconst (-4)) (xe_ireturn)))
theorem bk_X10_ball_e_30 : ck_ fX10 (some .int) cX10_ball 30 [.aload 0, .tableswitch 0 10 5 #[]] 34 = true := qck_r (nn_ _) (by decide +kernel)
theorem bs_X10_ball_e_30 {P : Zt → Option Zv → Prop} (K : Int → Zl → List Zv → Zt → Prop) : sx_ K P [.aload 0, .tableswitch 0 10 5 #[]] 34 = x_aload 0 (x_g1 110 101 (K 34)) := ((xe_aload 0).trans (congrArg (x_aload 0) ((xe_g1 (kk := 110) rfl tl_10_5).trans (congrArg (x_g1 110 101) xe_nil))))
theorem bk_X10_ball_e_37 : ck_ fX10 (some .int) cX10_ball 37 [.aload 0, .tableswitch 0 10 5 #[], .tableswitch 0 1 6 #[], .ifCond .ne 50, .iconst (-4), .ireturn] 50 = true := qck_r (nn_ _) (by decide +kernel)
theorem bs_X10_ball_e_37 {P : Zt → Option Zv → Prop} (K : Int → Zl → List Zv → Zt → Prop) : sx_ K P [.aload 0, .tableswitch 0 10 5 #[], .tableswitch 0 1 6 #[], .ifCond .ne 50, .iconst (-4), .ireturn] 50 = x_aload 0 (x_g1 110 101 (x_g0 101 6 (-2147483648) 2147483647 (x_ifCond .ne 50 K (x_iconst (-4) (x_ireturn P))))) := ((xe_aload 0).trans (congrArg (x_aload 0) ((xe_g1 (kk := 110) rfl tl_10_5).trans (congrArg (x_g1 110 101) ((xe_g0 (kk := 101) rfl tl_1_6).trans (congrArg (x_g0 101 6 (-2147483648) 2147483647) ((xe_ifCond .ne 50).trans (congrArg (x_ifCond .ne 50 K) ((xe_iconst (-4)).trans (congrArg (x_iconst (-4)) (xe_ireturn)))))))))))
theorem bk_X10_ball_e_50 : ck_ fX10 (some .int) cX10_ball 50 [.iload 2, .ifCond .eq 62, .aload 0, .tableswitch 0 10 5 #[], .iload 1, .tableswitch 1 1 5 #[], .aload 0, .tableswitch 0 10 5 #[]] 66 = true := qck_r (nn_ _) (by decide +kernel)
theorem bs_X10_ball_e_50 {P : Zt → Option Zv → Prop} (K : Int → Zl → List Zv → Zt → Prop) : sx_ K P [.iload 2, .ifCond .eq 62, .aload 0, .tableswitch 0 10 5 #[], .iload 1, .tableswitch 1 1 5 #[], .aload 0, .tableswitch 0 10 5 #[]] 66 = x_iload 2 (x_ifCond .eq 62 K (x_aload 0 (x_g1 110 101 (x_iload 1 (x_p 101 5 (-2147483648) 2147483647 (x_aload 0 (x_g1 110 101 (K 66)))))))) := ((xe_iload 2).trans (congrArg (x_iload 2) ((xe_ifCond .eq 62).trans (congrArg (x_ifCond .eq 62 K) ((xe_aload 0).trans (congrArg (x_aload 0) ((xe_g1 (kk := 110) rfl tl_10_5).trans (congrArg (x_g1 110 101) ((xe_iload 1).trans (congrArg (x_iload 1) ((xe_p (kk := 101) rfl tl_1_5).trans (congrArg (x_p 101 5 (-2147483648) 2147483647) ((xe_aload 0).trans (congrArg (x_aload 0) ((xe_g1 (kk := 110) rfl tl_10_5).trans (congrArg (x_g1 110 101) xe_nil))))))))))))))))
theorem bk_X10_ball_e_62 : ck_ fX10 (some .int) cX10_ball 62 [.aload 0, .tableswitch 0 10 5 #[]] 66 = true := qck_r (nn_ _) (by decide +kernel)
theorem bs_X10_ball_e_62 {P : Zt → Option Zv → Prop} (K : Int → Zl → List Zv → Zt → Prop) : sx_ K P [.aload 0, .tableswitch 0 10 5 #[]] 66 = x_aload 0 (x_g1 110 101 (K 66)) := ((xe_aload 0).trans (congrArg (x_aload 0) ((xe_g1 (kk := 110) rfl tl_10_5).trans (congrArg (x_g1 110 101) xe_nil))))
theorem bk_X10_ball_e_69 : ck_ fX10 (some .int) cX10_ball 69 [.istore 3, .aload 0, .tableswitch 0 10 5 #[], .iload 3] 75 = true := qck_r (nn_ _) (by decide +kernel)
theorem bs_X10_ball_e_69 {P : Zt → Option Zv → Prop} (K : Int → Zl → List Zv → Zt → Prop) : sx_ K P [.istore 3, .aload 0, .tableswitch 0 10 5 #[], .iload 3] 75 = x_istore 3 (x_aload 0 (x_g1 110 101 (x_iload 3 (K 75)))) := ((xe_istore 3).trans (congrArg (x_istore 3) ((xe_aload 0).trans (congrArg (x_aload 0) ((xe_g1 (kk := 110) rfl tl_10_5).trans (congrArg (x_g1 110 101) ((xe_iload 3).trans (congrArg (x_iload 3) xe_nil))))))))
theorem bk_X10_ball_e_78 : ck_ fX10 (some .int) cX10_ball 78 [.iconst 8, .iload 3, .imul, .aload 0, .tableswitch 0 10 5 #[], .tableswitch 0 1 9 #[], .iload 3, .iaload, .iadd, .ireturn] 93 = true := qck_r (nn_ _) (by decide +kernel)
theorem bs_X10_ball_e_78 {P : Zt → Option Zv → Prop} (K : Int → Zl → List Zv → Zt → Prop) : sx_ K P [.iconst 8, .iload 3, .imul, .aload 0, .tableswitch 0 10 5 #[], .tableswitch 0 1 9 #[], .iload 3, .iaload, .iadd, .ireturn] 93 = x_iconst 8 (x_iload 3 (x_imul (x_aload 0 (x_g1 110 101 (x_g1 101 429 (x_iload 3 (x_iaload (x_iadd (x_ireturn P))))))))) := ((xe_iconst 8).trans (congrArg (x_iconst 8) ((xe_iload 3).trans (congrArg (x_iload 3) ((xe_imul).trans (congrArg (x_imul) ((xe_aload 0).trans (congrArg (x_aload 0) ((xe_g1 (kk := 110) rfl tl_10_5).trans (congrArg (x_g1 110 101) ((xe_g1 (kk := 101) rfl tl_1_9).trans (congrArg (x_g1 101 429) ((xe_iload 3).trans (congrArg (x_iload 3) ((xe_iaload).trans (congrArg (x_iaload) ((xe_iadd).trans (congrArg (x_iadd) (xe_ireturn)))))))))))))))))))
abbrev po_X10_ball_e (T : Zt) (s b : Int) : Zt → Option Zv → Prop := fun T' r => ∃ x : Int, r = some (vI x) ∧ fr_ [(101, [13, 6, 7, 5, 4]), (434, []), (435, []), (431, []), (432, []), (429, [])] T T' ∧ (x = x ∧ BLH_ T T' s b x)
set_option maxHeartbeats 4000000 in
theorem ct_X10_ball_e {T : Zt} {s b : Int} (hlo : LOR_ T) : Ct_ yX10_ball zX10_ball T [vR 110 0, vI s, vI b] (po_X10_ball_e T s b) := by
  refine ct_of pn_10 rfl rfl (Nat.le_of_ble_eq_true rfl) (fun hT hav => ?_)
  have hr_s : -2147483648 ≤ s ∧ s ≤ 2147483647 := hav (vI s) (List.mem_cons_of_mem _ List.mem_cons_self)
  have hr_b : -2147483648 ≤ b ∧ b ≤ 2147483647 := hav (vI b) (List.mem_cons_of_mem _ (List.mem_cons_of_mem _ List.mem_cons_self))
  have hz : zX10_ball.2.2.2.1 = some .boolean → ∀ (T' : Zt) (x : Int), po_X10_ball_e T s b T' (some (vI x)) → 0 ≤ x ∧ x ≤ 1 := fun h => by cases h
  have hgr : 0 ≤ T 101 0 1 ∧ T 101 0 1 ≤ 4 := bd_f hT 101 1 tl_1_1 0
  show J_ zX10_ball T (po_X10_ball_e T s b) 0 0 0 [some (vR 110 0), some (vI s), some (vI b), none] [] T
  refine j_blx (F := fX10) tb_X10 (nn_ _) bk_X10_ball_e_0 bs_X10_ball_e_0 hz (fun K hK => ?_)
  intro b1 b1b
  refine And.intro (fun c2 => ?_) (fun c2 => ?_)
  · refine hK 27 _ [] T ?_
    refine j_blx (F := fX10) tb_X10 (nn_ _) bk_X10_ball_e_27 bs_X10_ball_e_27 hz (fun K hK => ?_)
    refine (show po_X10_ball_e T s b T (some (vI (-4))) from ?_)
    exact ⟨_, rfl, fr_0 _ _, rfl, Or.inl ⟨rfl, rfl, by omega⟩⟩
  · intro b3 b3b
    intro b4 b4b
    refine And.intro (fun c5 => ?_) (fun c5 => ?_)
    · refine hK 30 _ [] T ?_
      refine j_blx (F := fX10) tb_X10 (nn_ _) bk_X10_ball_e_30 bs_X10_ball_e_30 hz (fun K hK => ?_)
      refine hK 34 _ [vR 101 0] T ?_
      refine j_callV (y := yX1_refresh) (Yc := zX1_refresh) (rest := []) [] (ct_X1_refresh_e (T := T)) cl_X10_399 (qd_c (by decide +kernel)) (nn_ _) rfl (rf_of rfl) (Nat.le_of_ble_eq_true rfl) (Nat.le_of_ble_eq_true rfl) (Nat.le_of_ble_eq_true rfl) rfl ?_
      rintro U6 _ ⟨rfl, fU6, qU6⟩
      show J_ zX10_ball T (po_X10_ball_e T s b) 0 0 37 _ [] U6
      refine j_blx (F := fX10) tb_X10 (nn_ _) bk_X10_ball_e_37 bs_X10_ball_e_37 hz (fun K hK => ?_)
      intro b7 b7b
      refine And.intro (fun c8 => ?_) (fun c8 => ?_)
      · refine hK 50 _ [] U6 ?_
        have hlh := (hlo.2.2).resolve_left (by omega)
        have hlb := lhw_b hlh
        have hfv : FV_ U6 := by
          rcases qU6 with ⟨z1, z2⟩ | ⟨z1, z2, z3⟩
          · rw [z2]; exact hlh.2.2.2.2.2.resolve_left z1
          · exact z3
        have hE : ∀ j, 0 ≤ j → -1 ≤ T 428 0 j ∧ T 428 0 j ≤ 2 := fun j a => bd_a hT 428 (by decide +kernel : ta_ 428 = some (1, some 12, -1, 2)) 0 a
        have hC : ∀ j, 0 ≤ j → 0 ≤ T 561 0 j ∧ T 561 0 j ≤ 7 := fun j a => bd_a hT 561 (by decide +kernel : ta_ 561 = some (1, some 12, 0, 7)) 0 a
        have hE2 : ∀ j, 0 ≤ j → -1 ≤ U6 428 0 j ∧ U6 428 0 j ≤ 2 := fun j a => by rw [fU6 428 0 j rfl]; exact hE j a
        have hC2 : ∀ j, 0 ≤ j → 0 ≤ U6 561 0 j ∧ U6 561 0 j ≤ 7 := fun j a => by rw [fU6 561 0 j rfl]; exact hC j a
        have ey3 := fU6 101 0 3 rfl
        have ey4 := fU6 101 0 4 rfl
        have ey1 := fU6 101 0 1 rfl
        have hw1 : 1 ≤ U6 101 0 13 := fv_w2 hE hlh (by omega) (fun k => fU6 428 0 k rfl) (fun k => fU6 429 0 k rfl) hfv
        have htb : 1 ≤ U6 101 0 6 ∧ U6 101 0 6 ≤ 13824 := by have y := fh_b (fx := -1) (gp := -1) hE2 hC2; have y2 := hfv.1; omega
        refine j_blx (F := fX10) tb_X10 (nn_ _) bk_X10_ball_e_50 bs_X10_ball_e_50 hz (fun K hK => ?_)
        refine And.intro (fun c9 => ?_) (fun c9 => ?_)
        · refine hK 62 _ [] U6 ?_
          refine j_blx (F := fX10) tb_X10 (nn_ _) bk_X10_ball_e_62 bs_X10_ball_e_62 hz (fun K hK => ?_)
          refine hK 66 _ [vR 101 0] U6 ?_
          have fb : fr_ [(101, [5])] U6 U6 := fr_0 _ _
          have hs0 : (b = 0 ∧ U6 101 0 5 = U6 101 0 5) ∨ (b ≠ 0 ∧ U6 101 0 5 = s) := Or.inl ⟨by omega, rfl⟩
          have hfv2 := fv_f hfv fb ⟨fun _ => rfl, fun _ => rfl, fun _ => rfl, fun _ => rfl, fun _ => rfl, rfl, rfl, rfl, rfl⟩
          have ey13 := fb 101 0 13 rfl
          have ey6 := fb 101 0 6 rfl
          have ey11 := fb 101 0 1 rfl
          have ey44 := fb 101 0 4 rfl
          refine j_callV (y := yX1_takeClub) (Yc := zX1_takeClub) (rest := []) [] (ct_X1_takeClub_e (T := U6) (by omega)) cl_X10_414 (qd_c (by decide +kernel)) (nn_ _) rfl (rf_of rfl) (Nat.le_of_ble_eq_true rfl) (Nat.le_of_ble_eq_true rfl) (Nat.le_of_ble_eq_true rfl) rfl ?_
          rintro U10 _ ⟨x11, rfl, fU10, qU10⟩
          show J_ zX10_ball T (po_X10_ball_e T s b) 0 0 69 _ [vI x11] U10
          have hpl := pl_h (T := U6) (U := U10) (fun j a => by rw [fb 428 0 j rfl]; exact hE2 j a) (fun j a => by rw [fb 561 0 j rfl]; exact hC2 j a) (by omega) hfv2 fU10 qU10.2.2.2.1
          rw [← qU10.1] at hpl
          have ey66 := fU10 101 0 6 rfl
          have ey444 := fU10 101 0 4 rfl
          refine j_blx (F := fX10) tb_X10 (nn_ _) bk_X10_ball_e_69 bs_X10_ball_e_69 hz (fun K hK => ?_)
          refine hK 75 [some (vR 110 0), some (vI s), some (vI b), some (vI x11)] [vI x11, vR 101 0] U10 ?_
          refine j_callV (y := yX1_place) (Yc := zX1_place) (rest := []) [vI x11] (ct_X1_place_e (T := U10) (by omega) (by omega) (by exact hpl.2.1) (by exact hpl.2.2) (by omega)) cl_X10_417 (qd_c (by decide +kernel)) (nn_ _) rfl (rf_of rfl) (Nat.le_of_ble_eq_true rfl) (Nat.le_of_ble_eq_true rfl) (Nat.le_of_ble_eq_true rfl) rfl ?_
          rintro U12 _ ⟨rfl, fU12, qU12⟩
          show J_ zX10_ball T (po_X10_ball_e T s b) 0 0 78 _ [] U12
          refine j_blx (F := fX10) tb_X10 (nn_ _) bk_X10_ball_e_78 bs_X10_ball_e_78 hz (fun K hK => ?_)
          refine rg_i (by omega) ?_
          refine ix_i (by omega) ?_
          intro b13 b13b
          refine rg_i (by omega) ?_
          refine (show po_X10_ball_e T s b U12 (some (vI ((8 * x11) + (U12 429 0 x11)))) from ?_)
          exact ⟨_, rfl, fr_t (fr_t (fr_t (fr_0 _ _) (fr_s fU6 rfl)) (fr_s fU10 rfl)) (fr_s fU12 rfl), rfl, Or.inr ⟨by omega, U6, qU6, fU6, Or.inr ⟨by omega, ba_i fb hs0 qU10.1 qU10.2.1 qU10.2.2.1 fU10 qU12 rfl⟩⟩⟩
        · refine bd_i (by omega) ?_
          refine x_nm (fun U14 hU14 => ?_)
          have e15 := up_f hU14
          refine hK 66 [some (vR 110 0), some (vI s), some (vI b), none] [vR 101 0] U14 ?_
          have e16 : U14 101 0 13 = U6 101 0 13 := up_j hU14 (by decide) 101 0
          have fb : fr_ [(101, [5])] U6 U14 := fr_u (fr_0 _ _) hU14 rfl
          have hs0 : (b = 0 ∧ U14 101 0 5 = U6 101 0 5) ∨ (b ≠ 0 ∧ U14 101 0 5 = s) := Or.inr ⟨by omega, up_f hU14⟩
          have hfv2 := fv_f hfv fb ⟨fun _ => rfl, fun _ => rfl, fun _ => rfl, fun _ => rfl, fun _ => rfl, rfl, rfl, rfl, rfl⟩
          have ey13 := fb 101 0 13 rfl
          have ey6 := fb 101 0 6 rfl
          have ey11 := fb 101 0 1 rfl
          have ey44 := fb 101 0 4 rfl
          refine j_callV (y := yX1_takeClub) (Yc := zX1_takeClub) (rest := []) [] (ct_X1_takeClub_e (T := U14) (by omega)) cl_X10_414 (qd_c (by decide +kernel)) (nn_ _) rfl (rf_of rfl) (Nat.le_of_ble_eq_true rfl) (Nat.le_of_ble_eq_true rfl) (Nat.le_of_ble_eq_true rfl) rfl ?_
          rintro U17 _ ⟨x18, rfl, fU17, qU17⟩
          show J_ zX10_ball T (po_X10_ball_e T s b) 0 0 69 _ [vI x18] U17
          have hpl := pl_h (T := U14) (U := U17) (fun j a => by rw [fb 428 0 j rfl]; exact hE2 j a) (fun j a => by rw [fb 561 0 j rfl]; exact hC2 j a) (by omega) hfv2 fU17 qU17.2.2.2.1
          rw [← qU17.1] at hpl
          have ey66 := fU17 101 0 6 rfl
          have ey444 := fU17 101 0 4 rfl
          refine j_blx (F := fX10) tb_X10 (nn_ _) bk_X10_ball_e_69 bs_X10_ball_e_69 hz (fun K hK => ?_)
          refine hK 75 [some (vR 110 0), some (vI s), some (vI b), some (vI x18)] [vI x18, vR 101 0] U17 ?_
          refine j_callV (y := yX1_place) (Yc := zX1_place) (rest := []) [vI x18] (ct_X1_place_e (T := U17) (by omega) (by omega) (by exact hpl.2.1) (by exact hpl.2.2) (by omega)) cl_X10_417 (qd_c (by decide +kernel)) (nn_ _) rfl (rf_of rfl) (Nat.le_of_ble_eq_true rfl) (Nat.le_of_ble_eq_true rfl) (Nat.le_of_ble_eq_true rfl) rfl ?_
          rintro U19 _ ⟨rfl, fU19, qU19⟩
          show J_ zX10_ball T (po_X10_ball_e T s b) 0 0 78 _ [] U19
          refine j_blx (F := fX10) tb_X10 (nn_ _) bk_X10_ball_e_78 bs_X10_ball_e_78 hz (fun K hK => ?_)
          refine rg_i (by omega) ?_
          refine ix_i (by omega) ?_
          intro b20 b20b
          refine rg_i (by omega) ?_
          refine (show po_X10_ball_e T s b U19 (some (vI ((8 * x18) + (U19 429 0 x18)))) from ?_)
          exact ⟨_, rfl, fr_t (fr_t (fr_u (fr_t (fr_0 _ _) (fr_s fU6 rfl)) hU14 rfl) (fr_s fU17 rfl)) (fr_s fU19 rfl), rfl, Or.inr ⟨by omega, U6, qU6, fU6, Or.inr ⟨by omega, ba_i fb hs0 qU17.1 qU17.2.1 qU17.2.2.1 fU17 qU19 rfl⟩⟩⟩
      · refine (show po_X10_ball_e T s b U6 (some (vI (-4))) from ?_)
        exact ⟨_, rfl, fr_t (fr_0 _ _) (fr_s fU6 rfl), rfl, Or.inr ⟨by omega, U6, qU6, fU6, Or.inl ⟨by omega, rfl, rfl⟩⟩⟩
    · refine (show po_X10_ball_e T s b T (some (vI (-4))) from ?_)
      exact ⟨_, rfl, fr_0 _ _, rfl, Or.inl ⟨rfl, rfl, by omega⟩⟩

