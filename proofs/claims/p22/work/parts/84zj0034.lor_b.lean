/-- a ball, both sides -/
theorem lor_b {T T1 T2 : Zt} {s b x1 x2 : Int} (h : LOR_ T) (hn : T 108 0 2 = T 111 0 12) (hb : 0 ≤ T 108 0 2 ∧ T 108 0 2 ≤ 12) (hE : ∀ j, 0 ≤ j → -1 ≤ T 428 0 j ∧ T 428 0 j ≤ 2) (hC : ∀ j, 0 ≤ j → 0 ≤ T 561 0 j ∧ T 561 0 j ≤ 7) (hG : 0 ≤ T 101 0 1 ∧ T 101 0 1 ≤ 4) (th : THR_ T) (d1 : BLH_ T T1 s b x1) (f1 : fr_ [(101, [13, 6, 7, 5, 4]), (434, []), (435, []), (431, []), (432, []), (429, [])] T T1) (d2 : BLR_ T1 T2 s b x2) (f2 : fr_ [(304, []), (305, []), (302, []), (111, [103])] T1 T2) : x1 = x2 ∧ LOR_ T2 := by
  have d2 := blr_t (T := T) (fun k => f1 301 0 k rfl) (fun k => f1 302 0 k rfl) (fun k => f1 214 0 k rfl) (fun j => f1 111 0 j rfl) d2
  have k98 := h.1.2.2.2
  have alike := h.2.1
  -- who waits, on both sides
  have wait : T 101 0 1 ≠ 0 → (T 101 0 3 ≤ T 101 0 4 ↔ ∀ j, 0 ≤ j → j < T 111 0 12 → T 301 0 j ≠ -1 → T 302 0 j ≠ -1) := fun hg => by
    obtain ⟨q1, q2, q3, q4, q5, q6⟩ := h.2.2.resolve_left hg
    constructor
    · intro l j p q r z
      have a := alike j p (by omega)
      have y := cnz_s (f := fun k => T 428 0 k) (g := fun k => T 429 0 k) (v := -1) (w := -1) (j := j) p (by show T 428 0 j ≠ -1; omega) (by show T 429 0 j = -1; omega) 12 (by omega) (fun k u v w => q4 k u (by omega) w)
      omega
    · intro l
      have y := cnz_l (f := fun k => T 429 0 k) (g := fun k => T 428 0 k) (v := -1) (w := -1) 12 (fun k u v w => by
        show T 428 0 k = -1
        have w2 : T 429 0 k = -1 := w
        by_cases z : k < T 108 0 2
        · have a := alike k u (by omega)
          by_cases z2 : T 428 0 k = -1
          · exact z2
          · exact absurd (a.2.symm.trans w2) (l k u (by omega) (by omega))
        · exact q5 k (by omega) (by omega))
      omega
  rcases d1 with ⟨rfl, a1, a2⟩ | ⟨a1, Tr, a2, a3, a4⟩
  · rcases d2 with ⟨b1, b2, b3, b4⟩ | ⟨b1, b2, s0, p, c, g, b3, ⟨b4, j0, b5, b6, b7, b8⟩, b9⟩
    · exact ⟨by omega, lor_k h (kz_4 f2 b2 b3 (by decide +kernel))⟩
    · exfalso
      rcases a2 with a2 | a2
      · omega
      · exact (wait (by omega)).mp a2 j0 b5 b6 (by omega) b8
  · have hg : T 101 0 1 ≠ 0 := fun z => a1 (Or.inl z)
    have hlt : ¬ T 101 0 3 ≤ T 101 0 4 := fun z => a1 (Or.inr z)
    obtain ⟨r1, r2, r3⟩ := lor_r h hg a3 a2
    have hl := h.2.2.resolve_left hg
    have eN : ∀ fx gp, nw_ (dh_ Tr) fx gp (lhw_ Tr) (ghw_ Tr) = nw_ (drw_ T) fx gp (ll_ T) (gf_ T) := fun fx gp => by
      rw [dh_e (fun k => a3 428 0 k rfl) (fun k => a3 561 0 k rfl) (a3 101 0 1 rfl) (a3 101 0 2 rfl), lhw_e (fun k => a3 428 0 k rfl) (fun k => a3 429 0 k rfl), ghw_e (fun k => a3 429 0 k rfl)]
      exact lor_n h hl th hn hb fx gp
    have e6 : Tr 101 0 6 = BR0_ T := by
      rw [r3.1, eN]
      rfl
    rcases a4 with ⟨a4, a5, a6⟩ | ⟨a4, s0, n, Tp, u1, u2, u3, u4, u5, ⟨g, u6, u7, u8, u9, u10, u11, u12⟩, u13⟩
    · rcases d2 with ⟨b1, b2, b3, b4⟩ | ⟨b1, b2, b3⟩
      · refine ⟨by omega, ?_⟩
        rw [a6] at f2
        exact lor_k r1 (kz_4 f2 (fun k => (b2 k).trans (a3 302 0 k rfl).symm) (b3.trans (a3 111 0 103 rfl).symm) (by decide +kernel))
      · exfalso; omega
    · rcases d2 with ⟨b1, b2, b3, b4⟩ | ⟨b1, b2, s1, p, c, g2, b3, ⟨b4, j0, b5, b6, b7, b8⟩, b9, ⟨c1, c2, c3, c4, c5⟩, c6, ⟨c7, c8⟩, c9, c10, c11, c12⟩
      · exfalso
        rcases b4 with b4 | b4 | b4
        · omega
        · exact hlt ((wait hg).mpr b4)
        · omega
      · -- the same seed
        have es : s1 = s0 := by
          have z := h.1.2.2.1
          have z2 := a3 101 0 5 rfl
          omega
        subst es
        -- the same pot, as many, the same club
        have eE : ∀ k : Int, 0 ≤ k → k < 12 → (fun k => T 428 0 k) k = (fun k => T 301 0 k) k ∧ ghw_ T k = gf_ T k := fun k x y => alike k x y
        have lp : ∀ q n, n ≤ 12 → lpk_ (fun k => T 428 0 k) (ghw_ T) q n = lpk_ (fun k => T 301 0 k) (gf_ T) q n := fun q n hq => lpk_c n (fun k x y => eE k x (by omega))
        have hwl := r3.2.2
        rw [lhw_e (fun k => a3 428 0 k rfl) (fun k => a3 429 0 k rfl)] at hwl
        have low : ∀ q, 0 ≤ q → q < p → lpk_ (fun k => T 428 0 k) (ghw_ T) q 12 = [] := fun q x y => by
          cases e : lpk_ (fun k => T 428 0 k) (ghw_ T) q 12 with
          | nil => rfl
          | cons z l =>
            exfalso
            have m := lpk_m (show z ∈ lpk_ (fun k => T 428 0 k) (ghw_ T) q 12 by rw [e]; exact List.mem_cons_self)
            obtain ⟨m1, m2, m3, m4⟩ := m
            have m3 : T 428 0 z = q := m3
            have m4 : T 429 0 z = -1 := m4
            have al := alike z m1 (by omega)
            have zc : z < T 108 0 2 := Classical.byContradiction (fun w => by
              have := hl.2.2.2.2.1 z (by omega) (by omega)
              omega)
            have := b9 z m1 (by omega) (by omega) (by omega)
            omega
        have inp : 0 < (lpk_ (fun k => T 428 0 k) (ghw_ T) p 12).length := by
          have m : j0 ∈ lpk_ (fun k => T 428 0 k) (ghw_ T) p 12 := by
            have al := alike j0 b5 (by omega)
            exact lpk_i b5 (by show T 428 0 j0 = p; omega) (by show T 429 0 j0 = -1; omega) (by omega)
          exact List.length_pos_of_mem m
        obtain ⟨w1, w2, w3⟩ := who_ (T := Tr) (fun k => a3 428 0 k rfl) hwl b4 low inp
        rw [w1] at u2
        have many : n = cel_ T p (T 111 0 12) := by
          rw [u2, w2, lp p 12 (by omega)]
          have y := lpk_x (E := fun k => T 301 0 k) (b := gf_ T) (p := p) (n := (T 111 0 12).toNat) 12 (fun k x y => by
            show T 301 0 k ≠ p
            have al := (alike k (by omega) (by omega)).1
            have := hl.2.2.2.2.1 k (by omega) (by omega)
            omega) (by omega)
          rw [y]
          exact (cen_l _).symm
        rw [← many] at c5 c7 c8 c9
        have wr := tb9_r (m := n) (s := s1) (by omega)
        have w4 := w3 (tb9_ n s1).1 wr.1 (by omega)
        obtain ⟨⟨v1, v2, v3, v4⟩, v5⟩ := w4
        have ec : c = Tr 432 0 (tb9_ n s1).1 := by
          have l1 : ((lpk_ (fun k => T 301 0 k) (gf_ T) p c.toNat).length : Int) = (tb9_ n s1).1 := by
            rw [← c5]
            exact (cen_l _).symm
          rw [lp p _ (by omega)] at v5
          have v3 : T 428 0 (Tr 432 0 (tb9_ n s1).1) = p := v3
          have v4 : T 429 0 (Tr 432 0 (tb9_ n s1).1) = -1 := v4
          have al := alike _ v1 v2
          rcases Int.lt_trichotomy c (Tr 432 0 (tb9_ n s1).1) with z | z | z
          · have y := lpk_u (E := fun k => T 301 0 k) (b := gf_ T) (p := p) c1 ⟨c3, c4⟩ z
            omega
          · exact z
          · have y := lpk_u (E := fun k => T 301 0 k) (b := gf_ T) (p := p) v1 ⟨by show T 301 0 _ = p; omega, by show T 302 0 _ = -1; omega⟩ z
            omega
        rw [← ec] at u7 u8 u9 u13
        -- the same group
        have t6 : Tp 101 0 6 = BR0_ T := (u4 101 0 6 rfl).trans e6
        rw [t6, u5] at u7 u12
        have hc : c ∈ lhw_ Tr := by
          rw [lhw_e (fun k => a3 428 0 k rfl) (fun k => a3 429 0 k rfl)]
          have al := alike c c1 (by omega)
          exact lhw_i c1 (by omega) (by omega) (by omega) (by omega)
        have ew : ∀ u, 0 ≤ u → u < 4 → Tp 431 0 (c * 4 + u) = (nw_ (drw_ T) c u (ll_ T) (gf_ T) : Nat) := fun u x y => by
          rw [u4 431 0 _ rfl, r3.2.1 c hc u x y, eN]
        have hg4 : Tp 101 0 1 ≤ 4 := by
          rw [u4 101 0 1 rfl, a3 101 0 1 rfl]; exact hG.2
        have gr1 := swn_g ew (g := g2) c6
        rw [← gr1.1] at c7
        rw [← gr1.2] at c8
        have nn : ∀ u, 0 ≤ u → u < 4 → 0 ≤ Tp 431 0 (c * 4 + u) := fun u x y => by rw [ew u x y]; omega
        have eg : g = g2 := by
          rcases Int.lt_trichotomy g g2 with z | z | z
          · exfalso
            have y := swn_m nn (i := g + 1) (by omega) (g2 - (g + 1)).toNat (by omega)
            rw [show g + 1 + (((g2 - (g + 1)).toNat : Nat) : Int) = g2 by omega] at y
            omega
          · exact z
          · exfalso
            have y := swn_m nn (i := g2 + 1) (by omega) (g - (g2 + 1)).toNat (by omega)
            rw [show g2 + 1 + (((g - (g2 + 1)).toNat : Nat) : Int) = g by omega] at y
            omega
        subst eg
        obtain ⟨q1, q2, q3, q4, q5, q6⟩ := hl
        have al := alike c c1 (by omega)
        have t1 := (f2 101 0 1 rfl).trans (f1 101 0 1 rfl)
        have t2 := (f2 101 0 2 rfl).trans (f1 101 0 2 rfl)
        have t5 := f2 101 0 5 rfl
        have k98b := (f2 111 0 98 rfl).trans (f1 111 0 98 rfl)
        have k99 := (f2 111 0 99 rfl).trans (f1 111 0 99 rfl)
        have k100 := (f2 111 0 100 rfl).trans (f1 111 0 100 rfl)
        have h1 := h.1.1
        have h2 := h.1.2.1
        have u9 : ∀ j, j ≠ c → T1 429 0 j = T 429 0 j := fun j hj => (u9 j hj).trans ((u4 429 0 j rfl).trans (a3 429 0 j rfl))
        have u10 : T1 101 0 4 = T 101 0 4 + 1 := by rw [u10, u4 101 0 4 rfl, a3 101 0 4 rfl]
        refine ⟨by omega, ⟨by omega, by omega, by omega, by omega⟩, fun j x y => ?_, Or.inr ⟨?_, ?_, fun q x y => ?_, fun j x y z => ?_, fun j x y => ?_, Or.inl ?_⟩⟩
        · rw [f2 428 0 j rfl, f1 428 0 j rfl, f2 429 0 j rfl, f2 301 0 j rfl, f1 301 0 j rfl]
          refine ⟨(alike j x y).1, ?_⟩
          by_cases z : j = c
          · rw [z, u8, c10]
          · rw [u9 j z, c11 j z]; exact (alike j x y).2
        · rw [f2 101 0 3 rfl, f1 101 0 3 rfl, show (fun j => T2 428 0 j) = (fun j => T 428 0 j) from funext (fun j => (f2 428 0 j rfl).trans (f1 428 0 j rfl))]
          exact q1
        · have y := cnz_u (f := fun j => T 429 0 j) (g := fun j => T1 429 0 j) (v := -1) (x := c) c1 u9 12 (by omega)
          have y2 : cnz_ (fun j => T2 429 0 j) (-1) 12 = cnz_ (fun j => T1 429 0 j) (-1) 12 := cnz_e 12 (fun j _ _ => f2 429 0 j rfl)
          have y3 : T 429 0 c = -1 := by omega
          have y4 : ¬ T1 429 0 c = -1 := by omega
          rw [if_pos y3, if_neg y4] at y
          rw [y2, y, f2 101 0 4 rfl]
          omega
        · rw [f2 430 0 q rfl, f1 430 0 q rfl, t1, show (fun j => T2 428 0 j) = (fun j => T 428 0 j) from funext (fun j => (f2 428 0 j rfl).trans (f1 428 0 j rfl))]
          exact q3 q x y
        · rw [f2 428 0 j rfl, f1 428 0 j rfl] at z
          rw [f2 429 0 j rfl, u9 j (fun w => by rw [w] at z; omega)]
          exact q4 j x y z
        · rw [f2 108 0 2 rfl, f1 108 0 2 rfl] at x
          rw [f2 428 0 j rfl, f1 428 0 j rfl]
          exact q5 j x y
        · rw [f2 101 0 7 rfl]; exact u11
