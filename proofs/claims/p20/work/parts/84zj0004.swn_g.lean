theorem cen_l {T : Zt} {p : Int} : ∀ n : Nat, cen_ T p n = ((lpk_ (fun k => T 301 0 k) (gf_ T) p n).length : Int)
  | 0 => rfl
  | n + 1 => by
    show cen_ T p n + (if T 301 0 (n : Int) = p ∧ T 302 0 (n : Int) = -1 then (1 : Int) else 0) = ((lpk_ (fun k => T 301 0 k) (gf_ T) p n ++ (if T 301 0 (n : Int) = p ∧ gf_ T n = -1 then [((n : Nat) : Int)] else [])).length : Int)
    have i := cen_l (T := T) (p := p) n
    rw [List.length_append]
    by_cases z : T 301 0 (n : Int) = p ∧ T 302 0 (n : Int) = -1
    · have z2 : T 301 0 (n : Int) = p ∧ gf_ T n = -1 := z
      rw [if_pos z, if_pos z2, List.length_singleton]; omega
    · have z2 : ¬ (T 301 0 (n : Int) = p ∧ gf_ T n = -1) := z
      rw [if_neg z, if_neg z2, List.length_nil]; omega
theorem lpk_g {E b : Int → Int} {p : Int} {n : Nat} : ∀ m : Nat, n ≤ m → (lpk_ E b p n).length ≤ (lpk_ E b p m).length
  | 0, h => by rw [show n = 0 by omega]; exact Nat.le_refl _
  | m + 1, h => by
    by_cases e : n = m + 1
    · rw [e]; exact Nat.le_refl _
    · have i := lpk_g (E := E) (b := b) (p := p) (n := n) m (by omega)
      show _ ≤ (lpk_ E b p m ++ _).length
      rw [List.length_append]; omega
theorem lpk_u {E b : Int → Int} {p c c2 : Int} (h0 : 0 ≤ c) (h1 : E c = p ∧ b c = -1) (h : c < c2) : (lpk_ E b p c.toNat).length < (lpk_ E b p c2.toNat).length := by
  have i := lpk_g (E := E) (b := b) (p := p) (n := (c + 1).toNat) c2.toNat (by omega)
  rw [lpk_t h0 h1, List.length_append, List.length_singleton] at i
  omega
theorem wl_a {T : Zt} {r : List Int} : ∀ {l : List Int} {k : Int}, WL_ T (l ++ r) k → WB_ T l k ∧ WL_ T r (k + (l.length : Int))
  | [], k, h => ⟨trivial, by rw [List.length_nil, show k + ((0 : Nat) : Int) = k by omega]; exact h⟩
  | x :: l, k, h => by
    have i := wl_a (r := r) h.2
    refine ⟨⟨h.1, i.1⟩, ?_⟩
    rw [List.length_cons, show k + ((l.length + 1 : Nat) : Int) = k + 1 + (l.length : Int) by omega]
    exact i.2
theorem wb_a {T : Zt} {r : List Int} : ∀ {l : List Int} {k : Int}, WB_ T (l ++ r) k → WB_ T l k ∧ WB_ T r (k + (l.length : Int))
  | [], k, h => ⟨trivial, by rw [List.length_nil, show k + ((0 : Nat) : Int) = k by omega]; exact h⟩
  | x :: l, k, h => by
    have i := wb_a (r := r) h.2
    refine ⟨⟨h.1, i.1⟩, ?_⟩
    rw [List.length_cons, show k + ((l.length + 1 : Nat) : Int) = k + 1 + (l.length : Int) by omega]
    exact i.2
theorem wb_i {T : Zt} : ∀ {l : List Int} {k i : Int}, WB_ T l k → 0 ≤ i → i < (l.length : Int) → T 432 0 (k + i) ∈ l
  | [], _, _, _, a, b => by rw [List.length_nil] at b; omega
  | x :: l, k, i, h, a, b => by
    by_cases z : i = 0
    · rw [z, show k + 0 = k by omega, h.1]; exact List.mem_cons_self
    · have q := wb_i (i := i - 1) h.2 (by omega) (by rw [List.length_cons] at b; omega)
      rw [show k + 1 + (i - 1) = k + i by omega] at q
      exact List.mem_cons_of_mem _ q
/-- the w-th of a pot stands behind w of them -/
theorem lpk_w {T : Zt} {E b : Int → Int} {p : Int} : ∀ n : Nat, WB_ T (lpk_ E b p n) 0 → ∀ w, 0 ≤ w → w < ((lpk_ E b p n).length : Int) → ((lpk_ E b p (T 432 0 w).toNat).length : Int) = w
  | 0, _, w, a, c => by
    have c2 : w < ((0 : Nat) : Int) := c
    omega
  | n + 1, h, w, a, c => by
    have h2 : WB_ T (lpk_ E b p n ++ (if E n = p ∧ b n = -1 then [((n : Nat) : Int)] else [])) 0 := h
    have c2 : w < ((lpk_ E b p n ++ (if E n = p ∧ b n = -1 then [((n : Nat) : Int)] else [])).length : Int) := c
    by_cases z : E n = p ∧ b n = -1
    · rw [if_pos z] at h2 c2
      obtain ⟨g1, g2⟩ := wb_a h2
      rw [List.length_append, List.length_singleton] at c2
      by_cases y : w = ((lpk_ E b p n).length : Int)
      · have e : T 432 0 w = ((n : Nat) : Int) := by
          have g3 := g2.1
          rw [show (0 : Int) + ((lpk_ E b p n).length : Int) = w by omega] at g3
          exact g3
        rw [e, show (((n : Nat) : Int)).toNat = n by omega]
        exact y.symm
      · exact lpk_w n g1 w a (by omega)
    · rw [if_neg z, List.append_nil] at h2 c2
      exact lpk_w n h2 w a c2
theorem cnz_m {f : Int → Int} {v : Int} {m : Nat} : ∀ n : Nat, m ≤ n → (∀ k : Int, 0 ≤ k → k < m → f k = v) → (∀ k : Int, m ≤ k → k < n → f k ≠ v) → cnz_ f v n = m
  | 0, h, _, _ => by rw [show m = 0 by omega]; rfl
  | n + 1, h, a, b => by
    by_cases e : m = n + 1
    · rw [e] at a ⊢
      exact cnz_a (n + 1) a
    · have i := cnz_m (f := f) (v := v) n (by omega) a (fun k p q => b k p (by omega))
      show cnz_ f v n + (if f n = v then (1 : Int) else 0) = _
      rw [i, if_neg (b n (by omega) (by omega)), Int.add_zero]
theorem lq_p {E b : Int → Int} {p : Int} (hp : 0 ≤ p ∧ p ≤ 2) (hl : ∀ q, 0 ≤ q → q < p → lpk_ E b q 12 = []) : ∃ R, lq_ E b 12 3 = lpk_ E b p 12 ++ R ∧ ∀ z ∈ R, E z ≠ p := by
  have e : lq_ E b 12 3 = (([] ++ lpk_ E b 0 12) ++ lpk_ E b 1 12) ++ lpk_ E b 2 12 := rfl
  rcases (by omega : p = 0 ∨ p = 1 ∨ p = 2) with z | z | z
  · subst z
    refine ⟨lpk_ E b 1 12 ++ lpk_ E b 2 12, by rw [e, List.nil_append, List.append_assoc], fun x hx => ?_⟩
    rcases List.mem_append.mp hx with q | q
    · have := lpk_m q; omega
    · have := lpk_m q; omega
  · subst z
    refine ⟨lpk_ E b 2 12, by rw [e, hl 0 (by decide) (by decide), List.nil_append, List.nil_append], fun x hx => ?_⟩
    have := lpk_m hx; omega
  · subst z
    refine ⟨[], by rw [e, hl 0 (by decide) (by decide), hl 1 (by decide) (by decide), List.nil_append, List.nil_append, List.nil_append, List.append_nil], fun x hx => absurd hx List.not_mem_nil⟩
/-- the first pot that waits, how many are in it, and its w-th club -/
theorem who_ {T : Zt} {E b : Int → Int} {p : Int} (hE : ∀ k, T 428 0 k = E k) (hw : WL_ T (lq_ E b 12 3) 0) (hp : 0 ≤ p ∧ p ≤ 2) (hl : ∀ q, 0 ≤ q → q < p → lpk_ E b q 12 = []) (hn : 0 < (lpk_ E b p 12).length) : T 428 0 (T 432 0 0) = p ∧ cpw_ T p (T 101 0 13).toNat = ((lpk_ E b p 12).length : Int) ∧ ∀ w, 0 ≤ w → w < ((lpk_ E b p 12).length : Int) → (0 ≤ T 432 0 w ∧ T 432 0 w < 12 ∧ E (T 432 0 w) = p ∧ b (T 432 0 w) = -1) ∧ ((lpk_ E b p (T 432 0 w).toNat).length : Int) = w := by
  have wc := wl_c hw
  obtain ⟨R, e, hR⟩ := lq_p hp hl
  rw [e] at hw wc
  obtain ⟨g1, g2⟩ := wl_a hw
  rw [List.length_append] at wc
  have m1 : ∀ w, 0 ≤ w → w < ((lpk_ E b p 12).length : Int) → T 432 0 w ∈ lpk_ E b p 12 := fun w a c => by
    have q := wb_i g1 a c
    rwa [show (0 : Int) + w = w by omega] at q
  refine ⟨?_, ?_, fun w a c => ⟨?_, lpk_w 12 g1 w a c⟩⟩
  · rw [hE]
    exact (lpk_m (m1 0 (by decide) (by omega))).2.2.1
  · refine cnz_m _ (by omega) (fun k a c => ?_) (fun k a c => ?_)
    · show T 428 0 (T 432 0 k) = p
      rw [hE]
      exact (lpk_m (m1 k a c)).2.2.1
    · show T 428 0 (T 432 0 k) ≠ p
      rw [hE]
      have q := wl_i (i := k - ((lpk_ E b p 12).length : Int)) g2 (by omega) (by omega)
      rw [show (0 : Int) + ((lpk_ E b p 12).length : Int) + (k - ((lpk_ E b p 12).length : Int)) = k by omega] at q
      exact hR _ q
  · have q := lpk_m (m1 w a c)
    have q2 := q.2.1
    exact ⟨q.1, by omega, q.2.2.1, q.2.2.2⟩
theorem swn_m {T : Zt} {c i : Int} (h : ∀ u, 0 ≤ u → u < 4 → 0 ≤ T 431 0 (c * 4 + u)) (h0 : 0 ≤ i) : ∀ n : Nat, i + n ≤ 4 → swn_ T c i.toNat ≤ swn_ T c (i + n).toNat
  | 0, _ => by rw [show i + ((0 : Nat) : Int) = i by omega]; exact Int.le_refl _
  | n + 1, q => by
    have y := swn_m h h0 n (by omega)
    have z := h (i + n) (by omega) (by omega)
    have s := swn_s (T := T) (c := c) (g := i + n) (by omega)
    rw [show i + ((n + 1 : Nat) : Int) = i + (n : Int) + 1 by omega]
    omega
theorem swn_g {T U : Zt} {c : Int} (e : ∀ u, 0 ≤ u → u < 4 → U 431 0 (c * 4 + u) = (nw_ (drw_ T) c u (ll_ T) (gf_ T) : Nat)) {g : Int} (hg : 0 ≤ g ∧ g ≤ 3) : swn_ U c g.toNat = sgm_ T c (g - 1) ∧ swn_ U c (g + 1).toNat = sgm_ T c g := by
  have s0 : swn_ U c (0 : Int).toNat = sgm_ T c (-1) := sgm_0.symm
  have s1 : swn_ U c (1 : Int).toNat = sgm_ T c 0 := by
    have a := swn_s (T := U) (c := c) (g := 0) (by decide)
    have b := sgm_s (T := T) (c := c) (g := -1) (by decide)
    rw [e 0 (by decide) (by decide)] at a
    exact a.trans (by rw [s0]; exact b.symm)
  have s2 : swn_ U c (2 : Int).toNat = sgm_ T c 1 := by
    have a := swn_s (T := U) (c := c) (g := 1) (by decide)
    have b := sgm_s (T := T) (c := c) (g := 0) (by decide)
    rw [e 1 (by decide) (by decide)] at a
    exact a.trans (by rw [s1]; exact b.symm)
  have s3 : swn_ U c (3 : Int).toNat = sgm_ T c 2 := by
    have a := swn_s (T := U) (c := c) (g := 2) (by decide)
    have b := sgm_s (T := T) (c := c) (g := 1) (by decide)
    rw [e 2 (by decide) (by decide)] at a
    exact a.trans (by rw [s2]; exact b.symm)
  have s4 : swn_ U c (4 : Int).toNat = sgm_ T c 3 := by
    have a := swn_s (T := U) (c := c) (g := 3) (by decide)
    have b := sgm_s (T := T) (c := c) (g := 2) (by decide)
    rw [e 3 (by decide) (by decide)] at a
    exact a.trans (by rw [s3]; exact b.symm)
  rcases (by omega : g = 0 ∨ g = 1 ∨ g = 2 ∨ g = 3) with z | z | z | z
  · subst z; exact ⟨s0, s1⟩
  · subst z; exact ⟨s1, s2⟩
  · subst z; exact ⟨s2, s3⟩
  · subst z; exact ⟨s3, s4⟩
