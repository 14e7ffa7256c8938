-- words: the house's walk along a text of words
def tbc9_ (w : List Int) (ts : List (Int × Int × Int)) (c : Int → Int) (L : Nat) (nW : Int) : Bool := (ts.all fun q => decide (0 ≤ q.2.1 ∧ q.2.1 < nW ∧ 0 ≤ q.1 ∧ q.1 ≤ q.2.2 ∧ q.2.2 < (L : Int) ∧ c q.2.2 = 59) && (((List.range L).all fun j => if q.1 ≤ (j : Int) ∧ (j : Int) < q.2.2 then decide (c (j : Int) = w.getD j 0 ∧ c (j : Int) ≠ 59) else true) && (((ts.any fun z => z.1 == q.2.2 + 1 && z.2.1 == q.2.1 + 1) || decide (q.2.2 + 1 = (L : Int) ∧ q.2.1 + 1 = nW)) && (ts.all fun z => if z.2.1 = q.2.1 then decide (z.1 = q.1 ∧ z.2.2 = q.2.2) else true)))) && (ts.any fun z => z.1 == 0 && z.2.1 == 0)
def TB9_ (w : List Int) (ts : List (Int × Int × Int)) (c : Int → Int) (L nW : Int) : Prop := (∀ k0 n e0, (k0, n, e0) ∈ ts → (0 ≤ n ∧ n < nW ∧ 0 ≤ k0 ∧ k0 ≤ e0 ∧ e0 < L ∧ c e0 = 59) ∧ (∀ k, k0 ≤ k → k < e0 → c k = w.getD k.toNat 0 ∧ c k ≠ 59) ∧ ((∃ e1, (e0 + 1, n + 1, e1) ∈ ts) ∨ (e0 + 1 = L ∧ n + 1 = nW)) ∧ ∀ k1 e1, (k1, n, e1) ∈ ts → k1 = k0 ∧ e1 = e0) ∧ ∃ e1, (0, 0, e1) ∈ ts
theorem tb9_c {w : List Int} {ts : List (Int × Int × Int)} {c : Int → Int} {L : Nat} {nW : Int} (h : tbc9_ w ts c L nW = true) : TB9_ w ts c (L : Int) nW := by
  unfold tbc9_ at h
  rw [Bool.and_eq_true] at h
  obtain ⟨h, g⟩ := h
  refine ⟨fun k0 n e0 hm => ?_, ?_⟩
  · have h1 := List.all_eq_true.mp h _ hm
    rw [Bool.and_eq_true, Bool.and_eq_true, Bool.and_eq_true, decide_eq_true_eq] at h1
    obtain ⟨h1, h2, h3, h4⟩ := h1
    have h1 : 0 ≤ n ∧ n < nW ∧ 0 ≤ k0 ∧ k0 ≤ e0 ∧ e0 < (L : Int) ∧ c e0 = 59 := h1
    refine ⟨h1, fun k a b => ?_, ?_, fun k1 e1 hm1 => ?_⟩
    · have h5 := List.all_eq_true.mp h2 k.toNat (List.mem_range.mpr (by have := h1.2.2.2.2.1; have := h1.2.2.1; omega))
      have ek : ((k.toNat : Nat) : Int) = k := by have := h1.2.2.1; omega
      rw [ek, if_pos ⟨a, b⟩, decide_eq_true_eq] at h5
      exact h5
    · rw [Bool.or_eq_true, List.any_eq_true, decide_eq_true_eq] at h3
      rcases h3 with ⟨⟨a, b, e1⟩, h5, h6⟩ | h3
      · rw [Bool.and_eq_true, beq_iff_eq, beq_iff_eq] at h6
        obtain ⟨rfl, rfl⟩ := h6
        exact Or.inl ⟨e1, h5⟩
      · exact Or.inr h3
    · have h5 := List.all_eq_true.mp h4 _ hm1
      rw [if_pos rfl, decide_eq_true_eq] at h5
      exact h5
  · rw [List.any_eq_true] at g
    obtain ⟨⟨a, b, e1⟩, h5, h6⟩ := g
    rw [Bool.and_eq_true, beq_iff_eq, beq_iff_eq] at h6
    obtain ⟨rfl, rfl⟩ := h6
    exact ⟨e1, h5⟩
theorem tb9_0 : TB9_ wl_264 wt_264 (cb8_ 0) 82 14 := tb9_c (L := 82) (by decide +kernel)
theorem tb9_1 : TB9_ wl_265 wt_265 (cb8_ 1) 36 4 := tb9_c (L := 36) (by decide +kernel)
theorem tb9_2 : TB9_ wl_266 wt_266 (cb8_ 2) 37 7 := tb9_c (L := 37) (by decide +kernel)
/-- the words before number p are other words; the token goes along with word p by q signs, seen up to k -/
def WI9_ (w : List Int) (ts : List (Int × Int × Int)) (b : Int → Int) (s e L nW p q k : Int) : Prop := (∀ k0 n e0, (k0, n, e0) ∈ ts → n < p → ¬ EW9_ w b s e k0 e0) ∧ ((∃ k0 e0, (k0, p, e0) ∈ ts ∧ k0 ≤ k ∧ k ≤ e0 ∧ SM9_ w b s e k0 k q) ∨ (k = L ∧ p = nW))
section WI9
variable {w : List Int} {ts : List (Int × Int × Int)} {c b : Int → Int} {s e L nW p q k : Int}
theorem wi9_0 (ht : TB9_ w ts c L nW) (hs : s ≤ e) : WI9_ w ts b s e L nW 0 0 0 := by
  obtain ⟨h1, e1, h2⟩ := ht
  refine ⟨fun k0 n e0 hm hn => ?_, Or.inl ⟨0, e1, h2, Int.le_refl _, ?_, sm9_z hs⟩⟩
  · have := (h1 _ _ _ hm).1.1
    omega
  · have := (h1 _ _ _ h2).1
    omega
theorem wi9_b (ht : TB9_ w ts c L nW) (h : WI9_ w ts b s e L nW p q k) (hk : k < L) : ∃ k0 e0, (k0, p, e0) ∈ ts ∧ k0 ≤ k ∧ k ≤ e0 ∧ SM9_ w b s e k0 k q := by
  rcases h.2 with h | h
  · exact h
  · omega
theorem wi9_m (ht : TB9_ w ts c L nW) (h : WI9_ w ts b s e L nW p q k) (hk : k < L) (hc : c k = 59) (hs : s ≤ e) (hq : q = e - s) : WD9_ w ts b s e p := by
  obtain ⟨k0, e0, hm, g1, g2, g3⟩ := wi9_b ht h hk
  have hz : k = e0 := Classical.byContradiction fun z => ((ht.1 _ _ _ hm).2.1 k g1 (by omega)).2 hc
  subst hz
  exact Or.inl ⟨k0, k, hm, sm9_e g3 hs hq⟩
theorem wi9_n (ht : TB9_ w ts c L nW) (h : WI9_ w ts b s e L nW p q k) (hk : k < L) (hc : c k = 59) (hs : s ≤ e) (hq : q ≠ e - s) : WI9_ w ts b s e L nW (p + 1) 0 (k + 1) := by
  obtain ⟨k0, e0, hm, g1, g2, g3⟩ := wi9_b ht h hk
  obtain ⟨t1, t2, t3, t4⟩ := ht.1 _ _ _ hm
  have hz : k = e0 := Classical.byContradiction fun z => (t2 k g1 (by omega)).2 hc
  subst hz
  refine ⟨fun k1 n e1 hm1 hn => ?_, ?_⟩
  · by_cases z : n = p
    · subst z
      obtain ⟨rfl, rfl⟩ := t4 _ _ hm1
      exact sm9_f g3 hq
    · exact h.1 _ _ _ hm1 (by omega)
  · rcases t3 with ⟨e1, t3⟩ | t3
    · have := (ht.1 _ _ _ t3).1
      exact Or.inl ⟨k + 1, e1, t3, Int.le_refl _, by omega, sm9_z hs⟩
    · exact Or.inr t3
theorem wi9_y (ht : TB9_ w ts c L nW) (h : WI9_ w ts b s e L nW p q k) (hk : k < L) (hc : c k ≠ 59) (h0 : 0 ≤ q) (h1 : s + q < e) (h2 : b (s + q) = c k) : WI9_ w ts b s e L nW p (q + 1) (k + 1) := by
  obtain ⟨k0, e0, hm, g1, g2, g3⟩ := wi9_b ht h hk
  obtain ⟨t1, t2, t3, t4⟩ := ht.1 _ _ _ hm
  have hz : k ≠ e0 := fun z => by
    subst z
    exact hc t1.2.2.2.2.2
  exact ⟨h.1, Or.inl ⟨k0, e0, hm, by omega, by omega, sm9_s g3 h0 h1 (h2.trans (t2 k g1 (by omega)).1)⟩⟩
theorem wi9_x (ht : TB9_ w ts c L nW) (h : WI9_ w ts b s e L nW p q k) (hk : k < L) (hc : c k ≠ 59) (hn : ¬ (0 ≤ q ∧ s + q < e ∧ b (s + q) = c k)) : WI9_ w ts b s e L nW p (-1) (k + 1) := by
  obtain ⟨k0, e0, hm, g1, g2, g3⟩ := wi9_b ht h hk
  obtain ⟨t1, t2, t3, t4⟩ := ht.1 _ _ _ hm
  have hz : k ≠ e0 := fun z => by
    subst z
    exact hc t1.2.2.2.2.2
  rw [(t2 k g1 (by omega)).1] at hn
  exact ⟨h.1, Or.inl ⟨k0, e0, hm, by omega, by omega, sm9_n g3 g1 hn⟩⟩
theorem wi9_e (ht : TB9_ w ts c L nW) (h : WI9_ w ts b s e L nW p q k) (hk : ¬ k < L) : WD9_ w ts b s e (-1) := by
  refine Or.inr ⟨rfl, fun k0 n e0 hm => ?_⟩
  rcases h.2 with ⟨k1, e1, hm1, g1, g2, -⟩ | ⟨g1, g2⟩
  · have := (ht.1 _ _ _ hm1).1
    omega
  · have := (ht.1 _ _ _ hm).1
    exact h.1 _ _ _ hm (by omega)
end WI9

