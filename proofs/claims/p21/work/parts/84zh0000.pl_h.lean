-- counts of a row's places
def cnz_ (f : Int → Int) (v : Int) : Nat → Int
  | 0 => 0
  | k + 1 => cnz_ f v k + (if f k = v then 1 else 0)
theorem cnz_b (f : Int → Int) (v : Int) : ∀ k : Nat, 0 ≤ cnz_ f v k ∧ cnz_ f v k ≤ k
  | 0 => by simp [cnz_]
  | k + 1 => by
      have i := cnz_b f v k
      unfold cnz_
      split <;> omega
theorem cnz_t {f : Int → Int} {v k : Int} (hk : 0 ≤ k) (c : f k = v) : cnz_ f v (k + 1).toNat = cnz_ f v k.toNat + 1 := by
  rw [show (k + 1).toNat = k.toNat + 1 by omega]
  show cnz_ f v k.toNat + (if f (k.toNat : Int) = v then (1 : Int) else 0) = _
  rw [show ((k.toNat : Nat) : Int) = k by omega, if_pos c]
theorem cnz_f {f : Int → Int} {v k : Int} (hk : 0 ≤ k) (c : ¬ f k = v) : cnz_ f v (k + 1).toNat = cnz_ f v k.toNat := by
  rw [show (k + 1).toNat = k.toNat + 1 by omega]
  show cnz_ f v k.toNat + (if f (k.toNat : Int) = v then (1 : Int) else 0) = _
  rw [show ((k.toNat : Nat) : Int) = k by omega, if_neg c, Int.add_zero]
theorem cnz_e {f g : Int → Int} {v : Int} : ∀ n : Nat, (∀ k : Int, 0 ≤ k → k < n → f k = g k) → cnz_ f v n = cnz_ g v n
  | 0, _ => rfl
  | n + 1, h => by
    have i := cnz_e (v := v) n (fun k a b => h k a (by omega))
    show cnz_ f v n + (if f n = v then (1 : Int) else 0) = cnz_ g v n + (if g n = v then (1 : Int) else 0)
    rw [i, h n (by omega) (by omega)]
theorem cnz_n {f : Int → Int} {v : Int} : ∀ n : Nat, (∀ k : Int, 0 ≤ k → k < n → f k ≠ v) → cnz_ f v n = 0
  | 0, _ => rfl
  | n + 1, h => by
    have i := cnz_n (f := f) (v := v) n (fun k a b => h k a (by omega))
    show cnz_ f v n + (if f n = v then (1 : Int) else 0) = 0
    rw [i, if_neg (h n (by omega) (by omega))]; rfl
theorem cnz_a {f : Int → Int} {v : Int} : ∀ n : Nat, (∀ k : Int, 0 ≤ k → k < n → f k = v) → cnz_ f v n = n
  | 0, _ => rfl
  | n + 1, h => by
    have i := cnz_a (f := f) (v := v) n (fun k a b => h k a (by omega))
    show cnz_ f v n + (if f n = v then (1 : Int) else 0) = _
    rw [i, if_pos (h n (by omega) (by omega))]; omega
theorem cnz_p {f : Int → Int} {v j : Int} (h0 : 0 ≤ j) (c : f j = v) : ∀ n : Nat, j < n → 0 < cnz_ f v n
  | 0, h => by omega
  | n + 1, h => by
    have b := cnz_b f v n
    show 0 < cnz_ f v n + (if f n = v then (1 : Int) else 0)
    by_cases z : j = n
    · rw [← z, if_pos c]; omega
    · have := cnz_p h0 c n (by omega)
      split <;> omega
/-- one place changed -/
theorem cnz_u {f g : Int → Int} {v x : Int} (h0 : 0 ≤ x) (e : ∀ k, k ≠ x → g k = f k) : ∀ n : Nat, x < n → cnz_ g v n = cnz_ f v n - (if f x = v then 1 else 0) + (if g x = v then 1 else 0)
  | 0, h => by omega
  | n + 1, h => by
    show cnz_ g v n + (if g n = v then (1 : Int) else 0) = cnz_ f v n + (if f n = v then (1 : Int) else 0) - (if f x = v then 1 else 0) + (if g x = v then 1 else 0)
    by_cases z : x = n
    · rw [cnz_e n (f := g) (g := f) (fun k a b => e k (by omega)), ← z]
      omega
    · rw [cnz_u h0 e n (by omega), e n (fun q => z q.symm)]
      omega
/-- where one holds the other does -/
theorem cnz_l {f g : Int → Int} {v w : Int} : ∀ n : Nat, (∀ k : Int, 0 ≤ k → k < n → f k = v → g k = w) → cnz_ f v n ≤ cnz_ g w n
  | 0, _ => Int.le_refl _
  | n + 1, h => by
    have i := cnz_l (f := f) (g := g) (v := v) (w := w) n (fun k a b => h k a (by omega))
    show cnz_ f v n + (if f n = v then (1 : Int) else 0) ≤ cnz_ g w n + (if g n = w then (1 : Int) else 0)
    by_cases z : f n = v
    · rw [if_pos z, if_pos (h n (by omega) (by omega) z)]; omega
    · rw [if_neg z]; split <;> omega
theorem cnz_s {f g : Int → Int} {v w j : Int} (h0 : 0 ≤ j) (a1 : f j ≠ v) (a2 : g j = w) : ∀ n : Nat, j < n → (∀ k : Int, 0 ≤ k → k < n → f k = v → g k = w) → cnz_ f v n < cnz_ g w n
  | 0, h, _ => by omega
  | n + 1, h, e => by
    show cnz_ f v n + (if f n = v then (1 : Int) else 0) < cnz_ g w n + (if g n = w then (1 : Int) else 0)
    have l := cnz_l (f := f) (g := g) (v := v) (w := w) n (fun k a b => e k a (by omega))
    by_cases z : j = n
    · rw [← z, if_neg a1, if_pos a2]; omega
    · have i := cnz_s h0 a1 a2 n (by omega) (fun k a b => e k a (by omega))
      by_cases y : f n = v
      · rw [if_pos y, if_pos (e n (by omega) (by omega) y)]; omega
      · rw [if_neg y]; split <;> omega
-- what is taken below m
def ns9_ (s : Int) : Int := wr_ (wr_ (s * 1664525) + 1013904223)
def tb9_ (m s : Int) : Int × Int := if us_ (ns9_ s) 1 < 2147483648 - 2147483648 % m then (us_ (ns9_ s) 1 % m, ns9_ s) else (us_ (ns9_ (ns9_ s)) 1 % m, ns9_ (ns9_ s))
theorem tb9_a {m s r v : Int} (h : v = us_ (ns9_ r) 1) (lt : v < 2147483648 - 2147483648 % m) (t : r = s ∨ (r = ns9_ s ∧ ¬ us_ (ns9_ s) 1 < 2147483648 - 2147483648 % m)) : v % m = (tb9_ m s).1 ∧ ns9_ r = (tb9_ m s).2 := by
  unfold tb9_
  rcases t with t | ⟨t, n⟩
  · subst t
    rw [h] at lt
    rw [if_pos lt, h]
    exact ⟨rfl, rfl⟩
  · rw [if_neg n, h, t]
    exact ⟨rfl, rfl⟩
theorem tb9_b {m s : Int} (hm : 1 ≤ m ∧ m ≤ 13824) (n : ¬ us_ (ns9_ s) 1 < 2147483648 - 2147483648 % m) : us_ (ns9_ (ns9_ s)) 1 < 2147483648 - 2147483648 % m := by
  have h1 := Int.emod_nonneg 2147483648 (show m ≠ 0 by omega)
  have h2 := Int.emod_lt_of_pos 2147483648 (show 0 < m by omega)
  have k := tk_2 (s := ns9_ s) (wr_r _) (by omega)
  have k2 : us_ (ns9_ (ns9_ s)) 1 < 2147469824 := k
  omega
theorem tb9_r {m s : Int} (hm : 1 ≤ m) : 0 ≤ (tb9_ m s).1 ∧ (tb9_ m s).1 < m := by
  unfold tb9_
  split
  · exact ⟨Int.emod_nonneg _ (by omega), Int.emod_lt_of_pos _ (by omega)⟩
  · exact ⟨Int.emod_nonneg _ (by omega), Int.emod_lt_of_pos _ (by omega)⟩
/-- how many of those that wait, before the k-th, are of pot p -/
def cpw_ (T : Zt) (p : Int) (k : Nat) : Int := cnz_ (fun j => T 428 0 (T 432 0 j)) p k
/-- sums of the ways with a club in the groups before the n-th -/
def swn_ (T : Zt) (c : Int) : Nat → Int
  | 0 => 0
  | u + 1 => swn_ T c u + T 431 0 (c * 4 + u)
theorem swn_s {T : Zt} {c g : Int} (h : 0 ≤ g) : swn_ T c (g + 1).toNat = swn_ T c g.toNat + T 431 0 (c * 4 + g) := by
  rw [show (g + 1).toNat = g.toNat + 1 by omega]
  show swn_ T c g.toNat + T 431 0 (c * 4 + (g.toNat : Int)) = _
  rw [show ((g.toNat : Nat) : Int) = g by omega]
theorem swn_b {T : Zt} {c : Int} (h : ∀ u, 0 ≤ u → u < 4 → 0 ≤ T 431 0 (c * 4 + u) ∧ T 431 0 (c * 4 + u) ≤ 13824) : ∀ n : Nat, n ≤ 4 → 0 ≤ swn_ T c n ∧ swn_ T c n ≤ 13824 * n
  | 0, _ => ⟨Int.le_refl _, Int.le_refl _⟩
  | n + 1, q => by
    have i := swn_b h n (by omega)
    have k := h n (by omega) (by omega)
    show 0 ≤ swn_ T c n + T 431 0 (c * 4 + n) ∧ swn_ T c n + T 431 0 (c * 4 + n) ≤ 13824 * ((n + 1 : Nat) : Int)
    omega
/-- what place leaves -/
def PL9_ (T T' : Zt) (c : Int) : Prop := ∃ g, (0 ≤ g ∧ g < T 101 0 1) ∧ (swn_ T c g.toNat ≤ (tb9_ (T 101 0 6) (T 101 0 5)).1 ∧ (tb9_ (T 101 0 6) (T 101 0 5)).1 < swn_ T c (g + 1).toNat) ∧ T' 429 0 c = g ∧ (∀ j, j ≠ c → T' 429 0 j = T 429 0 j) ∧ T' 101 0 4 = T 101 0 4 + 1 ∧ T' 101 0 7 = 0 ∧ T' 101 0 5 = (tb9_ (T 101 0 6) (T 101 0 5)).2
/-- the draw of the house: its counts, and what was counted -/
def LH_ (T : Zt) : Prop := T 101 0 3 = 12 - cnz_ (fun k => T 428 0 k) (-1) 12 ∧ T 101 0 4 = 12 - cnz_ (fun k => T 429 0 k) (-1) 12 ∧ (∀ p, 0 ≤ p → p ≤ 2 → T 430 0 p = cnz_ (fun k => T 428 0 k) p 12 ∧ T 430 0 p ≤ T 101 0 1) ∧ (∀ k, 0 ≤ k → k < 12 → T 428 0 k = -1 → T 429 0 k = -1) ∧ (∀ k, T 108 0 2 ≤ k → k < 12 → T 428 0 k = -1) ∧ (T 101 0 7 = 0 ∨ FV_ T)
/-- the draw, alike on both sides -/
def LOR_ (T : Zt) : Prop := (T 101 0 1 = T 111 0 99 ∧ T 101 0 2 = T 111 0 100 ∧ T 101 0 5 = T 111 0 103 ∧ ((T 101 0 1 = 0 ∧ T 111 0 98 = 0) ∨ (T 101 0 1 ≠ 0 ∧ T 111 0 98 ≠ 0))) ∧ (∀ k, 0 ≤ k → k < 12 → T 428 0 k = T 301 0 k ∧ T 429 0 k = T 302 0 k) ∧ (T 101 0 1 = 0 ∨ LH_ T)
theorem lhw_b {T : Zt} (h : LH_ T) : (0 ≤ T 101 0 3 ∧ T 101 0 3 ≤ 12) ∧ (0 ≤ T 101 0 4 ∧ T 101 0 4 ≤ 12) := by
  have a := cnz_b (fun k => T 428 0 k) (-1) 12
  have b := cnz_b (fun k => T 429 0 k) (-1) 12
  have c := h.1
  have d := h.2.1
  omega
/-- with clubs that wait the row waiting has a first one -/
theorem fv_w2 {T U : Zt} (hb : ∀ j, 0 ≤ j → -1 ≤ T 428 0 j ∧ T 428 0 j ≤ 2) (k : LH_ T) (l : T 101 0 4 < T 101 0 3) (a1 : ∀ k, U 428 0 k = T 428 0 k) (a2 : ∀ k, U 429 0 k = T 429 0 k) (h : FV_ U) : 1 ≤ U 101 0 13 := by
  have w := wl_c h.2.2
  rw [lhw_e a1 a2] at w
  cases e : lhw_ T with
  | cons x l => rw [e, List.length_cons] at w; omega
  | nil =>
    exfalso
    have a := k.1
    have b := k.2.1
    have c : cnz_ (fun k => T 429 0 k) (-1) 12 ≤ cnz_ (fun k => T 428 0 k) (-1) 12 := cnz_l 12 (fun j p q r => by
      show T 428 0 j = -1
      by_cases z : T 428 0 j = -1
      · exact z
      · exfalso
        have y := hb j p
        have m : j ∈ lhw_ T := lhw_i p (by omega) r (by omega) (by omega)
        rw [e] at m
        exact absurd m List.not_mem_nil)
    omega
/-- what pot, chance, ball answer of the house -/
def PTH_ (T T' : Zt) (c k x : Int) : Prop := (T' = T ∧ ((x = -2 ∧ ¬ (0 ≤ c ∧ c < T 108 0 2)) ∨ ((0 ≤ c ∧ c < T 108 0 2) ∧ x = -3 ∧ ¬ (0 ≤ k ∧ k < 3)) ∨ ((0 ≤ c ∧ c < T 108 0 2) ∧ (0 ≤ k ∧ k < 3) ∧ x = -4 ∧ (T 101 0 1 = 0 ∨ T 428 0 c ≠ -1 ∨ 0 < T 101 0 4)) ∨ ((0 ≤ c ∧ c < T 108 0 2) ∧ (0 ≤ k ∧ k < 3) ∧ ¬ (T 101 0 1 = 0 ∨ T 428 0 c ≠ -1 ∨ 0 < T 101 0 4) ∧ x = -5 ∧ T 101 0 1 ≤ T 430 0 k))) ∨ ((0 ≤ c ∧ c < T 108 0 2) ∧ (0 ≤ k ∧ k < 3) ∧ ¬ (T 101 0 1 = 0 ∨ T 428 0 c ≠ -1 ∨ 0 < T 101 0 4) ∧ T 430 0 k < T 101 0 1 ∧ x = T 430 0 k + 1 ∧ (T' 428 0 c = k ∧ ∀ j, j ≠ c → T' 428 0 j = T 428 0 j) ∧ (T' 430 0 k = T 430 0 k + 1 ∧ ∀ j, j ≠ k → T' 430 0 j = T 430 0 j) ∧ T' 101 0 3 = T 101 0 3 + 1 ∧ T' 101 0 7 = 0)
def WW9_ (T : Zt) (c g x : Int) : Prop := (T 429 0 c ≠ -1 ∧ ((T 429 0 c = g ∧ x = T 101 0 6) ∨ (T 429 0 c ≠ g ∧ x = 0))) ∨ (T 429 0 c = -1 ∧ x = T 431 0 (c * 4 + g))
def WYH_ (T T' : Zt) (x : Int) : Prop := (T' = T ∧ T 101 0 1 = 0 ∧ x = -4) ∨ (T 101 0 1 ≠ 0 ∧ RFP_ T T' ∧ x = T' 101 0 6)
def CHH_ (T T' : Zt) (c g x : Int) : Prop := (T' = T ∧ ((x = -2 ∧ ¬ ((0 ≤ c ∧ c < T 108 0 2) ∧ T 101 0 1 ≠ 0 ∧ T 428 0 c ≠ -1)) ∨ (((0 ≤ c ∧ c < T 108 0 2) ∧ T 101 0 1 ≠ 0 ∧ T 428 0 c ≠ -1) ∧ x = -3 ∧ ¬ (0 ≤ g ∧ g < T 101 0 1)))) ∨ (((0 ≤ c ∧ c < T 108 0 2) ∧ T 101 0 1 ≠ 0 ∧ T 428 0 c ≠ -1) ∧ (0 ≤ g ∧ g < T 101 0 1) ∧ RFP_ T T' ∧ WW9_ T' c g x)
/-- a ball of the house, the counts being fresh in T -/
def BA9_ (T T' : Zt) (s b x : Int) : Prop := ∃ (s0 n : Int) (T1 : Zt), ((b = 0 ∧ s0 = T 101 0 5) ∨ (b ≠ 0 ∧ s0 = s)) ∧ n = cpw_ T (T 428 0 (T 432 0 0)) (T 101 0 13).toNat ∧ 1 ≤ n ∧ fr_ [(101, [5])] T T1 ∧ T1 101 0 5 = (tb9_ n s0).2 ∧ PL9_ T1 T' (T 432 0 (tb9_ n s0).1) ∧ x = 8 * T 432 0 (tb9_ n s0).1 + T' 429 0 (T 432 0 (tb9_ n s0).1)
def BLH_ (T T' : Zt) (s b x : Int) : Prop := (T' = T ∧ x = -4 ∧ (T 101 0 1 = 0 ∨ T 101 0 3 ≤ T 101 0 4)) ∨ (¬ (T 101 0 1 = 0 ∨ T 101 0 3 ≤ T 101 0 4) ∧ ∃ T1, RFP_ T T1 ∧ fr_ [(101, [13, 6, 7]), (434, []), (435, []), (431, []), (432, [])] T T1 ∧ ((T1 101 0 6 = 0 ∧ x = -4 ∧ T' = T1) ∨ (T1 101 0 6 ≠ 0 ∧ BA9_ T1 T' s b x)))
def DWH_ (T : Zt) (c x : Int) : Prop := (x = -2 ∧ ¬ (0 ≤ c ∧ c < T 108 0 2)) ∨ ((0 ≤ c ∧ c < T 108 0 2) ∧ ((T 101 0 1 = 0 ∧ x = -1) ∨ (T 101 0 1 ≠ 0 ∧ x = T 429 0 c)))
/-- a new draw -/
def NDH_ (T T' : Zt) (g l x : Int) : Prop := (T' = T ∧ x = -3 ∧ ¬ (1 ≤ g ∧ g ≤ 4 ∧ 1 ≤ l ∧ l ≤ 3)) ∨ ((1 ≤ g ∧ g ≤ 4 ∧ 1 ≤ l ∧ l ≤ 3) ∧ x = 1 ∧ T' 101 0 1 = g ∧ T' 101 0 2 = l ∧ T' 101 0 3 = 0 ∧ T' 101 0 4 = 0 ∧ T' 101 0 7 = 0 ∧ (∀ j, 0 ≤ j → j < 12 → T' 428 0 j = -1 ∧ T' 429 0 j = -1) ∧ ∀ j, 0 ≤ j → j < 3 → T' 430 0 j = 0)
theorem fv_f {ws : List (Nat × List Int)} {T T' : Zt} (h : FV_ T) (f : fr_ ws T T') (w : (∀ j, fw_ ws 428 j = false) ∧ (∀ j, fw_ ws 429 j = false) ∧ (∀ j, fw_ ws 561 j = false) ∧ (∀ j, fw_ ws 431 j = false) ∧ (∀ j, fw_ ws 432 j = false) ∧ fw_ ws 101 1 = false ∧ fw_ ws 101 2 = false ∧ fw_ ws 101 6 = false ∧ fw_ ws 101 13 = false) : FV_ T' := by
  obtain ⟨w1, w2, w3, w4, w5, w6, w7, w8, w9⟩ := w
  have hE : ∀ k, T' 428 0 k = T 428 0 k := fun k => f 428 0 k (w1 k)
  have hG : ∀ k, T' 429 0 k = T 429 0 k := fun k => f 429 0 k (w2 k)
  unfold FV_
  rw [dh_e hE (fun k => f 561 0 k (w3 k)) (f 101 0 1 w6) (f 101 0 2 w7), lhw_e hE hG, ghw_e hG, f 101 0 6 w8]
  exact ⟨h.1, fun c hc u a b => by rw [f 431 0 _ (w4 _)]; exact h.2.1 c hc u a b, wl_e (fun j => f 432 0 j (w5 j)) (f 101 0 13 w9) h.2.2⟩
theorem wl_i {T : Zt} : ∀ {l : List Int} {k i : Int}, WL_ T l k → 0 ≤ i → i < (l.length : Int) → T 432 0 (k + i) ∈ l
  | [], _, _, _, a, b => by rw [List.length_nil] at b; omega
  | x :: l, k, i, h, a, b => by
    by_cases z : i = 0
    · rw [z, show k + 0 = k by omega, h.1]; exact List.mem_cons_self
    · have q := wl_i (i := i - 1) h.2 (by omega) (by rw [List.length_cons] at b; omega)
      rw [show k + 1 + (i - 1) = k + i by omega] at q
      exact List.mem_cons_of_mem _ q
theorem qs_z {C : Int → Prop} {V : Int → Nat} {t : Int} (h : ∀ g, V g = 0) : qs_ C V t = 0 := by
  unfold qs_
  rw [h 0, h 1, h 2, h 3, q1_z, q1_z, q1_z, q1_z]
theorem nw_z {d : Dr_} {c u : Int} (hu : d.G ≤ u) : ∀ (l : List Int) (f : Int → Int), c ∈ l → nw_ d c u l f = 0
  | [], _, h => absurd h List.not_mem_nil
  | x :: l, f, h => by
    show qs_ (ok_ d c u f x) (fun g => nw_ d c u l (fu_ f x g)) (-1) = 0
    by_cases z : x = c
    · exact qs_n (fun g _ _ _ q => by have := q.1; have := q.2.1 z; omega)
    · have m : c ∈ l := (List.mem_cons.mp h).resolve_left (fun q => z q.symm)
      exact qs_z (fun g => nw_z hu l _ m)
theorem fh_b {T : Zt} {fx gp : Int} (hb : ∀ j, 0 ≤ j → -1 ≤ T 428 0 j ∧ T 428 0 j ≤ 2) (hc : ∀ j, 0 ≤ j → 0 ≤ T 561 0 j ∧ T 561 0 j ≤ 7) : nw_ (dh_ T) fx gp (lhw_ T) (ghw_ T) ≤ 13824 := fz_b rfl ⟨lhw_d T, fun z hz => by
  have q := lhw_m hz
  exact ⟨⟨q.1, q.2.1⟩, q.2.2.1, q.2.2.2, hc z q.1⟩⟩
/-- what place wants -/
theorem pl_h {T U : Zt} {w : Int} (hb : ∀ j, 0 ≤ j → -1 ≤ T 428 0 j ∧ T 428 0 j ≤ 2) (hc : ∀ j, 0 ≤ j → 0 ≤ T 561 0 j ∧ T 561 0 j ≤ 7) (hG : 1 ≤ T 101 0 1 ∧ T 101 0 1 ≤ 4) (h : FV_ T) (f : fr_ [(101, [5])] T U) (hw : 0 ≤ w ∧ w < T 101 0 13) : T 432 0 w ∈ lhw_ T ∧ (∀ u, 0 ≤ u → u < 4 → 0 ≤ U 431 0 (T 432 0 w * 4 + u) ∧ U 431 0 (T 432 0 w * 4 + u) ≤ 13824) ∧ U 101 0 6 = swn_ U (T 432 0 w) (U 101 0 1).toNat := by
  have wc := wl_c h.2.2
  have m : T 432 0 w ∈ lhw_ T := by
    have q := wl_i (i := w) h.2.2 hw.1 (by omega)
    rwa [show (0 : Int) + w = w by omega] at q
  have e : ∀ u, 0 ≤ u → u < 4 → U 431 0 (T 432 0 w * 4 + u) = (nw_ (dh_ T) (T 432 0 w) u (lhw_ T) (ghw_ T) : Nat) := fun u a b => (f 431 0 _ rfl).trans (h.2.1 _ m u a b)
  refine ⟨m, fun u a b => ?_, ?_⟩
  · rw [e u a b]
    have y := fh_b (fx := T 432 0 w) (gp := u) hb hc
    omega
  · have q := lhw_m m
    have s := nw_s (d := dh_ T) (c := T 432 0 w) (by omega) (lhw_ T) (ghw_ T) m (lhw_d T) (fun x hx => by have := lhw_m hx; omega)
    have z : ∀ u, T 101 0 1 ≤ u → nw_ (dh_ T) (T 432 0 w) u (lhw_ T) (ghw_ T) = 0 := fun u hu => nw_z (d := dh_ T) hu _ _ m
    have e0 := e 0 (by decide) (by decide)
    have e1 := e 1 (by decide) (by decide)
    have e2 := e 2 (by decide) (by decide)
    have e3 := e 3 (by decide) (by decide)
    rw [f 101 0 6 rfl, f 101 0 1 rfl, h.1, ← s]
    rcases (by omega : T 101 0 1 = 1 ∨ T 101 0 1 = 2 ∨ T 101 0 1 = 3 ∨ T 101 0 1 = 4) with k | k | k | k
    · rw [k]
      have z1 := z 1 (by omega)
      have z2 := z 2 (by omega)
      have z3 := z 3 (by omega)
      show _ = (0 : Int) + U 431 0 (T 432 0 w * 4 + ((0 : Nat) : Int))
      show _ = (0 : Int) + U 431 0 (T 432 0 w * 4 + 0)
      omega
    · rw [k]
      have z2 := z 2 (by omega)
      have z3 := z 3 (by omega)
      show _ = (0 : Int) + U 431 0 (T 432 0 w * 4 + 0) + U 431 0 (T 432 0 w * 4 + 1)
      omega
    · rw [k]
      have z3 := z 3 (by omega)
      show _ = (0 : Int) + U 431 0 (T 432 0 w * 4 + 0) + U 431 0 (T 432 0 w * 4 + 1) + U 431 0 (T 432 0 w * 4 + 2)
      omega
    · rw [k]
      show _ = (0 : Int) + U 431 0 (T 432 0 w * 4 + 0) + U 431 0 (T 432 0 w * 4 + 1) + U 431 0 (T 432 0 w * 4 + 2) + U 431 0 (T 432 0 w * 4 + 3)
      omega
