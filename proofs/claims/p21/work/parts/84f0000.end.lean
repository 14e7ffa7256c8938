-- words: a token's place in a list of words
def PM9_ (w : List Int) (b : Int → Int) (s k0 m : Int) : Prop := ∀ j, 0 ≤ j → j < m → b (s + j) = w.getD (k0 + j).toNat 0
/-- the text from s to e is the word from k0 to e0 -/
def EW9_ (w : List Int) (b : Int → Int) (s e k0 e0 : Int) : Prop := e0 - k0 = e - s ∧ PM9_ w b s k0 (e - s)
/-- x is the number of the word that the text from s to e is, or -1 -/
def WD9_ (w : List Int) (ts : List (Int × Int × Int)) (b : Int → Int) (s e x : Int) : Prop := (∃ k0 e0, (k0, x, e0) ∈ ts ∧ EW9_ w b s e k0 e0) ∨ (x = -1 ∧ ∀ k0 n e0, (k0, n, e0) ∈ ts → ¬ EW9_ w b s e k0 e0)
def ds9_ (w : List Int) (ts : List (Int × Int × Int)) : Bool := ts.all fun q => decide (0 ≤ q.1) && ts.all fun z => q.2.1 == z.2.1 || (q.2.2 - q.1 != z.2.2 - z.1) || ((List.range (q.2.2 - q.1).toNat).any fun j => w.getD (q.1.toNat + j) 0 != w.getD (z.1.toNat + j) 0)
theorem ds9_0 : ds9_ wl_264 wt_264 = true := by decide +kernel
theorem ds9_1 : ds9_ wl_265 wt_265 = true := by decide +kernel
theorem ds9_2 : ds9_ wl_266 wt_266 = true := by decide +kernel
theorem wd9_u {w : List Int} {ts : List (Int × Int × Int)} {b : Int → Int} {s e x x' : Int} (hd : ds9_ w ts = true) (h : WD9_ w ts b s e x) (g : WD9_ w ts b s e x') : x = x' := by
  rcases h with ⟨k0, e0, hm, he⟩ | ⟨rfl, hn⟩
  · rcases g with ⟨k1, e1, gm, ge⟩ | ⟨rfl, gn⟩
    · have h2 := List.all_eq_true.mp hd _ hm
      have h3 := List.all_eq_true.mp hd _ gm
      rw [Bool.and_eq_true, decide_eq_true_eq] at h2 h3
      have p0 : 0 ≤ k0 := h2.1
      have p1 : 0 ≤ k1 := h3.1
      have h1 := List.all_eq_true.mp h2.2 _ gm
      simp only [Bool.or_eq_true, beq_iff_eq, bne_iff_ne, List.any_eq_true, List.mem_range] at h1
      rcases h1 with (h1 | h1) | ⟨j, hj, h1⟩
      · exact h1
      · exact absurd (he.1.trans ge.1.symm) h1
      · have l0 := he.1
        have a := he.2 j (by omega) (by omega)
        have c := ge.2 j (by omega) (by omega)
        rw [show (k0 + (j : Int)).toNat = k0.toNat + j by omega] at a
        rw [show (k1 + (j : Int)).toNat = k1.toNat + j by omega] at c
        exact absurd (a.symm.trans c) h1
    · exact absurd he (gn _ _ _ hm)
  · rcases g with ⟨k1, e1, gm, ge⟩ | ⟨rfl, _⟩
    · exact absurd ge (hn _ _ _ gm)
    · rfl
/-- how far the token goes along with the word from k0, seen up to k -/
def SM9_ (w : List Int) (b : Int → Int) (s e k0 k q : Int) : Prop := (q = k - k0 ∧ k - k0 ≤ e - s ∧ PM9_ w b s k0 (k - k0)) ∨ (q = -1 ∧ ¬ (k - k0 ≤ e - s ∧ PM9_ w b s k0 (k - k0)))
theorem sm9_z {w : List Int} {b : Int → Int} {s e k0 : Int} (h : s ≤ e) : SM9_ w b s e k0 k0 0 := Or.inl ⟨by omega, by omega, fun j h1 h2 => by omega⟩
theorem sm9_s {w : List Int} {b : Int → Int} {s e k0 k q : Int} (h : SM9_ w b s e k0 k q) (h0 : 0 ≤ q) (h1 : s + q < e) (h2 : b (s + q) = w.getD k.toNat 0) : SM9_ w b s e k0 (k + 1) (q + 1) := by
  rcases h with ⟨g1, g2, g3⟩ | ⟨g1, _⟩
  · refine Or.inl ⟨by omega, by omega, fun j a c => ?_⟩
    by_cases z : j = q
    · rw [z, h2, show (k0 + q).toNat = k.toNat by omega]
    · exact g3 j a (by omega)
  · omega
theorem sm9_n {w : List Int} {b : Int → Int} {s e k0 k q : Int} (h : SM9_ w b s e k0 k q) (hk : k0 ≤ k) (hn : ¬ (0 ≤ q ∧ s + q < e ∧ b (s + q) = w.getD k.toNat 0)) : SM9_ w b s e k0 (k + 1) (-1) := by
  refine Or.inr ⟨rfl, fun z => ?_⟩
  obtain ⟨z1, z2⟩ := z
  rcases h with ⟨g1, g2, g3⟩ | ⟨_, g2⟩
  · refine hn ⟨by omega, by omega, ?_⟩
    have a := z2 q (by omega) (by omega)
    rw [show (k0 + q).toNat = k.toNat by omega] at a
    exact a
  · exact g2 ⟨by omega, fun j a c => z2 j a (by omega)⟩
theorem sm9_e {w : List Int} {b : Int → Int} {s e k0 e0 q : Int} (h : SM9_ w b s e k0 e0 q) (hs : s ≤ e) (hq : q = e - s) : EW9_ w b s e k0 e0 := by
  rcases h with ⟨g1, g2, g3⟩ | ⟨g1, _⟩
  · refine ⟨by omega, ?_⟩
    rw [show e - s = e0 - k0 by omega]
    exact g3
  · omega
theorem sm9_f {w : List Int} {b : Int → Int} {s e k0 e0 q : Int} (h : SM9_ w b s e k0 e0 q) (hq : q ≠ e - s) : ¬ EW9_ w b s e k0 e0 := fun z => by
  obtain ⟨z1, z2⟩ := z
  rcases h with ⟨g1, g2, g3⟩ | ⟨_, g2⟩
  · omega
  · refine g2 ⟨by omega, ?_⟩
    rw [z1]
    exact z2
